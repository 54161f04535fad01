theorem dX0_init_0 : decode cX0_init 0 = .ok (.aload_n 0, 1) := by decide +kernel
theorem dX0_init_1 : decode cX0_init 1 = .ok (.invokespecial 3, 3) := by decide +kernel
theorem dX0_init_4 : decode cX0_init 4 = .ok (.aload_n 0, 1) := by decide +kernel
theorem dX0_init_5 : decode cX0_init 5 = .ok (.bipush 20, 2) := by decide +kernel
theorem dX0_init_7 : decode cX0_init 7 = .ok (.newarray .int, 2) := by decide +kernel
theorem dX0_init_9 : decode cX0_init 9 = .ok (.putfield 9, 3) := by decide +kernel
theorem dX0_init_12 : decode cX0_init 12 = .ok (.return_, 1) := by decide +kernel
theorem dX0_forget_0 : decode cX0_forget 0 = .ok (.aload_n 0, 1) := by decide +kernel
theorem dX0_forget_1 : decode cX0_forget 1 = .ok (.iconst 0, 1) := by decide +kernel
theorem dX0_forget_2 : decode cX0_forget 2 = .ok (.putfield 15, 3) := by decide +kernel
theorem dX0_forget_5 : decode cX0_forget 5 = .ok (.return_, 1) := by decide +kernel
theorem dX0_isDoneBy_0 : decode cX0_isDoneBy 0 = .ok (.aload_n 0, 1) := by decide +kernel
theorem dX0_isDoneBy_1 : decode cX0_isDoneBy 1 = .ok (.iload_n 1, 1) := by decide +kernel
theorem dX0_isDoneBy_2 : decode cX0_isDoneBy 2 = .ok (.putfield 19, 3) := by decide +kernel
theorem dX0_isDoneBy_5 : decode cX0_isDoneBy 5 = .ok (.aload_n 0, 1) := by decide +kernel
theorem dX0_isDoneBy_6 : decode cX0_isDoneBy 6 = .ok (.iload_n 2, 1) := by decide +kernel
theorem dX0_isDoneBy_7 : decode cX0_isDoneBy 7 = .ok (.putfield 22, 3) := by decide +kernel
theorem dX0_isDoneBy_10 : decode cX0_isDoneBy 10 = .ok (.aload_n 0, 1) := by decide +kernel
theorem dX0_isDoneBy_11 : decode cX0_isDoneBy 11 = .ok (.iload_n 3, 1) := by decide +kernel
theorem dX0_isDoneBy_12 : decode cX0_isDoneBy 12 = .ok (.putfield 25, 3) := by decide +kernel
theorem dX0_isDoneBy_15 : decode cX0_isDoneBy 15 = .ok (.return_, 1) := by decide +kernel
theorem dX0_perform_0 : decode cX0_perform 0 = .ok (.iload_n 1, 1) := by decide +kernel
theorem dX0_perform_1 : decode cX0_perform 1 = .ok (.tableswitch 60 0 2 #[27, 38, 49], 27) := by decide +kernel
theorem dX0_perform_28 : decode cX0_perform 28 = .ok (.aload_n 0, 1) := by decide +kernel
theorem dX0_perform_29 : decode cX0_perform 29 = .ok (.aload_n 0, 1) := by decide +kernel
theorem dX0_perform_30 : decode cX0_perform 30 = .ok (.getfield 22, 3) := by decide +kernel
theorem dX0_perform_33 : decode cX0_perform 33 = .ok (.iload_n 2, 1) := by decide +kernel
theorem dX0_perform_34 : decode cX0_perform 34 = .ok (.iconst 0, 1) := by decide +kernel
theorem dX0_perform_35 : decode cX0_perform 35 = .ok (.invokevirtual 28, 3) := by decide +kernel
theorem dX0_perform_38 : decode cX0_perform 38 = .ok (.ireturn, 1) := by decide +kernel
theorem dX0_perform_39 : decode cX0_perform 39 = .ok (.aload_n 0, 1) := by decide +kernel
theorem dX0_perform_40 : decode cX0_perform 40 = .ok (.aload_n 0, 1) := by decide +kernel
theorem dX0_perform_41 : decode cX0_perform 41 = .ok (.getfield 22, 3) := by decide +kernel
theorem dX0_perform_44 : decode cX0_perform 44 = .ok (.iload_n 2, 1) := by decide +kernel
theorem dX0_perform_45 : decode cX0_perform 45 = .ok (.iconst 0, 1) := by decide +kernel
theorem dX0_perform_46 : decode cX0_perform 46 = .ok (.invokevirtual 32, 3) := by decide +kernel
theorem dX0_perform_49 : decode cX0_perform 49 = .ok (.ireturn, 1) := by decide +kernel
theorem dX0_perform_50 : decode cX0_perform 50 = .ok (.aload_n 0, 1) := by decide +kernel
theorem dX0_perform_51 : decode cX0_perform 51 = .ok (.aload_n 0, 1) := by decide +kernel
theorem dX0_perform_52 : decode cX0_perform 52 = .ok (.getfield 22, 3) := by decide +kernel
theorem dX0_perform_55 : decode cX0_perform 55 = .ok (.iload_n 2, 1) := by decide +kernel
theorem dX0_perform_56 : decode cX0_perform 56 = .ok (.iconst 0, 1) := by decide +kernel
theorem dX0_perform_57 : decode cX0_perform 57 = .ok (.invokevirtual 35, 3) := by decide +kernel
theorem dX0_perform_60 : decode cX0_perform 60 = .ok (.ireturn, 1) := by decide +kernel
theorem dX0_perform_61 : decode cX0_perform 61 = .ok (.iconst 0, 1) := by decide +kernel
theorem dX0_perform_62 : decode cX0_perform 62 = .ok (.ireturn, 1) := by decide +kernel
theorem dX0_begins_0 : decode cX0_begins 0 = .ok (.aload_n 0, 1) := by decide +kernel
theorem dX0_begins_1 : decode cX0_begins 1 = .ok (.getfield 15, 3) := by decide +kernel
theorem dX0_begins_4 : decode cX0_begins 4 = .ok (.bipush 20, 2) := by decide +kernel
theorem dX0_begins_6 : decode cX0_begins 6 = .ok (.if_icmp .ge 13, 3) := by decide +kernel
theorem dX0_begins_9 : decode cX0_begins 9 = .ok (.aload_n 0, 1) := by decide +kernel
theorem dX0_begins_10 : decode cX0_begins 10 = .ok (.getfield 9, 3) := by decide +kernel
theorem dX0_begins_13 : decode cX0_begins 13 = .ok (.aload_n 0, 1) := by decide +kernel
theorem dX0_begins_14 : decode cX0_begins 14 = .ok (.getfield 15, 3) := by decide +kernel
theorem dX0_begins_17 : decode cX0_begins 17 = .ok (.iload_n 1, 1) := by decide +kernel
theorem dX0_begins_18 : decode cX0_begins 18 = .ok (.iastore, 1) := by decide +kernel
theorem dX0_begins_19 : decode cX0_begins 19 = .ok (.aload_n 0, 1) := by decide +kernel
theorem dX0_begins_20 : decode cX0_begins 20 = .ok (.dup, 1) := by decide +kernel
theorem dX0_begins_21 : decode cX0_begins 21 = .ok (.getfield 15, 3) := by decide +kernel
theorem dX0_begins_24 : decode cX0_begins 24 = .ok (.iconst 1, 1) := by decide +kernel
theorem dX0_begins_25 : decode cX0_begins 25 = .ok (.iadd, 1) := by decide +kernel
theorem dX0_begins_26 : decode cX0_begins 26 = .ok (.putfield 15, 3) := by decide +kernel
theorem dX0_begins_29 : decode cX0_begins 29 = .ok (.return_, 1) := by decide +kernel
theorem dX0_coughs_0 : decode cX0_coughs 0 = .ok (.iload_n 3, 1) := by decide +kernel
theorem dX0_coughs_1 : decode cX0_coughs 1 = .ok (.bipush 20, 2) := by decide +kernel
theorem dX0_coughs_3 : decode cX0_coughs 3 = .ok (.if_icmp .gt 13, 3) := by decide +kernel
theorem dX0_coughs_6 : decode cX0_coughs 6 = .ok (.iload_n 1, 1) := by decide +kernel
theorem dX0_coughs_7 : decode cX0_coughs 7 = .ok (.ifCond .lt 9, 3) := by decide +kernel
theorem dX0_coughs_10 : decode cX0_coughs 10 = .ok (.iload_n 1, 1) := by decide +kernel
theorem dX0_coughs_11 : decode cX0_coughs 11 = .ok (.bipush 6, 2) := by decide +kernel
theorem dX0_coughs_13 : decode cX0_coughs 13 = .ok (.if_icmp .le 5, 3) := by decide +kernel
theorem dX0_coughs_16 : decode cX0_coughs 16 = .ok (.iconst 0, 1) := by decide +kernel
theorem dX0_coughs_17 : decode cX0_coughs 17 = .ok (.ireturn, 1) := by decide +kernel
theorem dX0_coughs_18 : decode cX0_coughs 18 = .ok (.iload_n 1, 1) := by decide +kernel
theorem dX0_coughs_19 : decode cX0_coughs 19 = .ok (.tableswitch 122 0 6 #[41, 122, 54, 122, 76, 122, 97], 41) := by decide +kernel
theorem dX0_coughs_60 : decode cX0_coughs 60 = .ok (.aload_n 0, 1) := by decide +kernel
theorem dX0_coughs_61 : decode cX0_coughs 61 = .ok (.bipush 10, 2) := by decide +kernel
theorem dX0_coughs_63 : decode cX0_coughs 63 = .ok (.invokevirtual 38, 3) := by decide +kernel
theorem dX0_coughs_66 : decode cX0_coughs 66 = .ok (.iload_n 2, 1) := by decide +kernel
theorem dX0_coughs_67 : decode cX0_coughs 67 = .ok (.aload_n 0, 1) := by decide +kernel
theorem dX0_coughs_68 : decode cX0_coughs 68 = .ok (.getfield 19, 3) := by decide +kernel
theorem dX0_coughs_71 : decode cX0_coughs 71 = .ok (.iadd, 1) := by decide +kernel
theorem dX0_coughs_72 : decode cX0_coughs 72 = .ok (.ireturn, 1) := by decide +kernel
theorem dX0_coughs_73 : decode cX0_coughs 73 = .ok (.aload_n 0, 1) := by decide +kernel
theorem dX0_coughs_74 : decode cX0_coughs 74 = .ok (.bipush 30, 2) := by decide +kernel
theorem dX0_coughs_76 : decode cX0_coughs 76 = .ok (.invokevirtual 38, 3) := by decide +kernel
theorem dX0_coughs_79 : decode cX0_coughs 79 = .ok (.aload_n 0, 1) := by decide +kernel
theorem dX0_coughs_80 : decode cX0_coughs 80 = .ok (.getstatic 42, 3) := by decide +kernel
theorem dX0_coughs_83 : decode cX0_coughs 83 = .ok (.iload_n 1, 1) := by decide +kernel
theorem dX0_coughs_84 : decode cX0_coughs 84 = .ok (.iaload, 1) := by decide +kernel
theorem dX0_coughs_85 : decode cX0_coughs 85 = .ok (.iload_n 2, 1) := by decide +kernel
theorem dX0_coughs_86 : decode cX0_coughs 86 = .ok (.iconst 3, 1) := by decide +kernel
theorem dX0_coughs_87 : decode cX0_coughs 87 = .ok (.imul, 1) := by decide +kernel
theorem dX0_coughs_88 : decode cX0_coughs 88 = .ok (.iload_n 3, 1) := by decide +kernel
theorem dX0_coughs_89 : decode cX0_coughs 89 = .ok (.iconst 1, 1) := by decide +kernel
theorem dX0_coughs_90 : decode cX0_coughs 90 = .ok (.iadd, 1) := by decide +kernel
theorem dX0_coughs_91 : decode cX0_coughs 91 = .ok (.invokevirtual 28, 3) := by decide +kernel
theorem dX0_coughs_94 : decode cX0_coughs 94 = .ok (.ireturn, 1) := by decide +kernel
theorem dX0_coughs_95 : decode cX0_coughs 95 = .ok (.aload_n 0, 1) := by decide +kernel
theorem dX0_coughs_96 : decode cX0_coughs 96 = .ok (.bipush 50, 2) := by decide +kernel
theorem dX0_coughs_98 : decode cX0_coughs 98 = .ok (.invokevirtual 38, 3) := by decide +kernel
theorem dX0_coughs_101 : decode cX0_coughs 101 = .ok (.aload_n 0, 1) := by decide +kernel
theorem dX0_coughs_102 : decode cX0_coughs 102 = .ok (.getstatic 42, 3) := by decide +kernel
theorem dX0_coughs_105 : decode cX0_coughs 105 = .ok (.iload_n 1, 1) := by decide +kernel
theorem dX0_coughs_106 : decode cX0_coughs 106 = .ok (.iaload, 1) := by decide +kernel
theorem dX0_coughs_107 : decode cX0_coughs 107 = .ok (.iload_n 2, 1) := by decide +kernel
theorem dX0_coughs_108 : decode cX0_coughs 108 = .ok (.iload_n 3, 1) := by decide +kernel
theorem dX0_coughs_109 : decode cX0_coughs 109 = .ok (.iconst 1, 1) := by decide +kernel
theorem dX0_coughs_110 : decode cX0_coughs 110 = .ok (.iadd, 1) := by decide +kernel
theorem dX0_coughs_111 : decode cX0_coughs 111 = .ok (.invokevirtual 28, 3) := by decide +kernel
theorem dX0_coughs_114 : decode cX0_coughs 114 = .ok (.ineg, 1) := by decide +kernel
theorem dX0_coughs_115 : decode cX0_coughs 115 = .ok (.ireturn, 1) := by decide +kernel
theorem dX0_coughs_116 : decode cX0_coughs 116 = .ok (.aload_n 0, 1) := by decide +kernel
theorem dX0_coughs_117 : decode cX0_coughs 117 = .ok (.bipush 71, 2) := by decide +kernel
theorem dX0_coughs_119 : decode cX0_coughs 119 = .ok (.invokevirtual 38, 3) := by decide +kernel
theorem dX0_coughs_122 : decode cX0_coughs 122 = .ok (.aload_n 0, 1) := by decide +kernel
theorem dX0_coughs_123 : decode cX0_coughs 123 = .ok (.getstatic 42, 3) := by decide +kernel
theorem dX0_coughs_126 : decode cX0_coughs 126 = .ok (.iload_n 1, 1) := by decide +kernel
theorem dX0_coughs_127 : decode cX0_coughs 127 = .ok (.iaload, 1) := by decide +kernel
theorem dX0_coughs_128 : decode cX0_coughs 128 = .ok (.iload_n 2, 1) := by decide +kernel
theorem dX0_coughs_129 : decode cX0_coughs 129 = .ok (.iload_n 3, 1) := by decide +kernel
theorem dX0_coughs_130 : decode cX0_coughs 130 = .ok (.iconst 1, 1) := by decide +kernel
theorem dX0_coughs_131 : decode cX0_coughs 131 = .ok (.iadd, 1) := by decide +kernel
theorem dX0_coughs_132 : decode cX0_coughs 132 = .ok (.invokevirtual 28, 3) := by decide +kernel
theorem dX0_coughs_135 : decode cX0_coughs 135 = .ok (.aload_n 0, 1) := by decide +kernel
theorem dX0_coughs_136 : decode cX0_coughs 136 = .ok (.getfield 25, 3) := by decide +kernel
theorem dX0_coughs_139 : decode cX0_coughs 139 = .ok (.ixor, 1) := by decide +kernel
theorem dX0_coughs_140 : decode cX0_coughs 140 = .ok (.ireturn, 1) := by decide +kernel
theorem dX0_coughs_141 : decode cX0_coughs 141 = .ok (.aload_n 0, 1) := by decide +kernel
theorem dX0_coughs_142 : decode cX0_coughs 142 = .ok (.getstatic 42, 3) := by decide +kernel
theorem dX0_coughs_145 : decode cX0_coughs 145 = .ok (.iload_n 1, 1) := by decide +kernel
theorem dX0_coughs_146 : decode cX0_coughs 146 = .ok (.iaload, 1) := by decide +kernel
theorem dX0_coughs_147 : decode cX0_coughs 147 = .ok (.iload_n 2, 1) := by decide +kernel
theorem dX0_coughs_148 : decode cX0_coughs 148 = .ok (.iload_n 3, 1) := by decide +kernel
theorem dX0_coughs_149 : decode cX0_coughs 149 = .ok (.iconst 1, 1) := by decide +kernel
theorem dX0_coughs_150 : decode cX0_coughs 150 = .ok (.iadd, 1) := by decide +kernel
theorem dX0_coughs_151 : decode cX0_coughs 151 = .ok (.invokevirtual 28, 3) := by decide +kernel
theorem dX0_coughs_154 : decode cX0_coughs 154 = .ok (.ireturn, 1) := by decide +kernel
theorem dX0_winks_0 : decode cX0_winks 0 = .ok (.iload_n 3, 1) := by decide +kernel
theorem dX0_winks_1 : decode cX0_winks 1 = .ok (.bipush 20, 2) := by decide +kernel
theorem dX0_winks_3 : decode cX0_winks 3 = .ok (.if_icmp .gt 13, 3) := by decide +kernel
theorem dX0_winks_6 : decode cX0_winks 6 = .ok (.iload_n 1, 1) := by decide +kernel
theorem dX0_winks_7 : decode cX0_winks 7 = .ok (.ifCond .lt 9, 3) := by decide +kernel
theorem dX0_winks_10 : decode cX0_winks 10 = .ok (.iload_n 1, 1) := by decide +kernel
theorem dX0_winks_11 : decode cX0_winks 11 = .ok (.bipush 6, 2) := by decide +kernel
theorem dX0_winks_13 : decode cX0_winks 13 = .ok (.if_icmp .le 5, 3) := by decide +kernel
theorem dX0_winks_16 : decode cX0_winks 16 = .ok (.iconst 0, 1) := by decide +kernel
theorem dX0_winks_17 : decode cX0_winks 17 = .ok (.ireturn, 1) := by decide +kernel
theorem dX0_winks_18 : decode cX0_winks 18 = .ok (.iload_n 1, 1) := by decide +kernel
theorem dX0_winks_19 : decode cX0_winks 19 = .ok (.tableswitch 144 0 6 #[41, 65, 144, 144, 88, 144, 110], 41) := by decide +kernel
theorem dX0_winks_60 : decode cX0_winks 60 = .ok (.aload_n 0, 1) := by decide +kernel
theorem dX0_winks_61 : decode cX0_winks 61 = .ok (.bipush 11, 2) := by decide +kernel
theorem dX0_winks_63 : decode cX0_winks 63 = .ok (.invokevirtual 38, 3) := by decide +kernel
theorem dX0_winks_66 : decode cX0_winks 66 = .ok (.aload_n 0, 1) := by decide +kernel
theorem dX0_winks_67 : decode cX0_winks 67 = .ok (.aload_n 0, 1) := by decide +kernel
theorem dX0_winks_68 : decode cX0_winks 68 = .ok (.getfield 22, 3) := by decide +kernel
theorem dX0_winks_71 : decode cX0_winks 71 = .ok (.iload_n 2, 1) := by decide +kernel
theorem dX0_winks_72 : decode cX0_winks 72 = .ok (.iload_n 3, 1) := by decide +kernel
theorem dX0_winks_73 : decode cX0_winks 73 = .ok (.iconst 1, 1) := by decide +kernel
theorem dX0_winks_74 : decode cX0_winks 74 = .ok (.iadd, 1) := by decide +kernel
theorem dX0_winks_75 : decode cX0_winks 75 = .ok (.invokevirtual 28, 3) := by decide +kernel
theorem dX0_winks_78 : decode cX0_winks 78 = .ok (.aload_n 0, 1) := by decide +kernel
theorem dX0_winks_79 : decode cX0_winks 79 = .ok (.getfield 25, 3) := by decide +kernel
theorem dX0_winks_82 : decode cX0_winks 82 = .ok (.isub, 1) := by decide +kernel
theorem dX0_winks_83 : decode cX0_winks 83 = .ok (.ireturn, 1) := by decide +kernel
theorem dX0_winks_84 : decode cX0_winks 84 = .ok (.aload_n 0, 1) := by decide +kernel
theorem dX0_winks_85 : decode cX0_winks 85 = .ok (.bipush 20, 2) := by decide +kernel
theorem dX0_winks_87 : decode cX0_winks 87 = .ok (.invokevirtual 38, 3) := by decide +kernel
theorem dX0_winks_90 : decode cX0_winks 90 = .ok (.aload_n 0, 1) := by decide +kernel
theorem dX0_winks_91 : decode cX0_winks 91 = .ok (.getstatic 42, 3) := by decide +kernel
theorem dX0_winks_94 : decode cX0_winks 94 = .ok (.iload_n 1, 1) := by decide +kernel
theorem dX0_winks_95 : decode cX0_winks 95 = .ok (.iaload, 1) := by decide +kernel
theorem dX0_winks_96 : decode cX0_winks 96 = .ok (.iload_n 2, 1) := by decide +kernel
theorem dX0_winks_97 : decode cX0_winks 97 = .ok (.iload_n 3, 1) := by decide +kernel
theorem dX0_winks_98 : decode cX0_winks 98 = .ok (.iconst 1, 1) := by decide +kernel
theorem dX0_winks_99 : decode cX0_winks 99 = .ok (.iadd, 1) := by decide +kernel
theorem dX0_winks_100 : decode cX0_winks 100 = .ok (.invokevirtual 32, 3) := by decide +kernel
theorem dX0_winks_103 : decode cX0_winks 103 = .ok (.bipush 6, 2) := by decide +kernel
theorem dX0_winks_105 : decode cX0_winks 105 = .ok (.ixor, 1) := by decide +kernel
theorem dX0_winks_106 : decode cX0_winks 106 = .ok (.ireturn, 1) := by decide +kernel
theorem dX0_winks_107 : decode cX0_winks 107 = .ok (.aload_n 0, 1) := by decide +kernel
theorem dX0_winks_108 : decode cX0_winks 108 = .ok (.bipush 51, 2) := by decide +kernel
theorem dX0_winks_110 : decode cX0_winks 110 = .ok (.invokevirtual 38, 3) := by decide +kernel
theorem dX0_winks_113 : decode cX0_winks 113 = .ok (.aload_n 0, 1) := by decide +kernel
theorem dX0_winks_114 : decode cX0_winks 114 = .ok (.getstatic 42, 3) := by decide +kernel
theorem dX0_winks_117 : decode cX0_winks 117 = .ok (.iload_n 1, 1) := by decide +kernel
theorem dX0_winks_118 : decode cX0_winks 118 = .ok (.iaload, 1) := by decide +kernel
theorem dX0_winks_119 : decode cX0_winks 119 = .ok (.iload_n 2, 1) := by decide +kernel
theorem dX0_winks_120 : decode cX0_winks 120 = .ok (.iconst 1, 1) := by decide +kernel
theorem dX0_winks_121 : decode cX0_winks 121 = .ok (.iadd, 1) := by decide +kernel
theorem dX0_winks_122 : decode cX0_winks 122 = .ok (.iload_n 3, 1) := by decide +kernel
theorem dX0_winks_123 : decode cX0_winks 123 = .ok (.iconst 1, 1) := by decide +kernel
theorem dX0_winks_124 : decode cX0_winks 124 = .ok (.iadd, 1) := by decide +kernel
theorem dX0_winks_125 : decode cX0_winks 125 = .ok (.invokevirtual 32, 3) := by decide +kernel
theorem dX0_winks_128 : decode cX0_winks 128 = .ok (.ireturn, 1) := by decide +kernel
theorem dX0_winks_129 : decode cX0_winks 129 = .ok (.aload_n 0, 1) := by decide +kernel
theorem dX0_winks_130 : decode cX0_winks 130 = .ok (.bipush 70, 2) := by decide +kernel
theorem dX0_winks_132 : decode cX0_winks 132 = .ok (.invokevirtual 38, 3) := by decide +kernel
theorem dX0_winks_135 : decode cX0_winks 135 = .ok (.aload_n 0, 1) := by decide +kernel
theorem dX0_winks_136 : decode cX0_winks 136 = .ok (.getstatic 42, 3) := by decide +kernel
theorem dX0_winks_139 : decode cX0_winks 139 = .ok (.iload_n 1, 1) := by decide +kernel
theorem dX0_winks_140 : decode cX0_winks 140 = .ok (.iaload, 1) := by decide +kernel
theorem dX0_winks_141 : decode cX0_winks 141 = .ok (.iload_n 2, 1) := by decide +kernel
theorem dX0_winks_142 : decode cX0_winks 142 = .ok (.iload_n 3, 1) := by decide +kernel
theorem dX0_winks_143 : decode cX0_winks 143 = .ok (.iconst 1, 1) := by decide +kernel
theorem dX0_winks_144 : decode cX0_winks 144 = .ok (.iadd, 1) := by decide +kernel
theorem dX0_winks_145 : decode cX0_winks 145 = .ok (.invokevirtual 32, 3) := by decide +kernel
theorem dX0_winks_148 : decode cX0_winks 148 = .ok (.aload_n 0, 1) := by decide +kernel
theorem dX0_winks_149 : decode cX0_winks 149 = .ok (.getstatic 42, 3) := by decide +kernel
theorem dX0_winks_152 : decode cX0_winks 152 = .ok (.iload_n 1, 1) := by decide +kernel
theorem dX0_winks_153 : decode cX0_winks 153 = .ok (.iaload, 1) := by decide +kernel
theorem dX0_winks_154 : decode cX0_winks 154 = .ok (.iconst 2, 1) := by decide +kernel
theorem dX0_winks_155 : decode cX0_winks 155 = .ok (.iload_n 3, 1) := by decide +kernel
theorem dX0_winks_156 : decode cX0_winks 156 = .ok (.iconst 1, 1) := by decide +kernel
theorem dX0_winks_157 : decode cX0_winks 157 = .ok (.iadd, 1) := by decide +kernel
theorem dX0_winks_158 : decode cX0_winks 158 = .ok (.invokevirtual 28, 3) := by decide +kernel
theorem dX0_winks_161 : decode cX0_winks 161 = .ok (.iadd, 1) := by decide +kernel
theorem dX0_winks_162 : decode cX0_winks 162 = .ok (.ireturn, 1) := by decide +kernel
theorem dX0_winks_163 : decode cX0_winks 163 = .ok (.aload_n 0, 1) := by decide +kernel
theorem dX0_winks_164 : decode cX0_winks 164 = .ok (.getstatic 42, 3) := by decide +kernel
theorem dX0_winks_167 : decode cX0_winks 167 = .ok (.iload_n 1, 1) := by decide +kernel
theorem dX0_winks_168 : decode cX0_winks 168 = .ok (.iaload, 1) := by decide +kernel
theorem dX0_winks_169 : decode cX0_winks 169 = .ok (.iload_n 2, 1) := by decide +kernel
theorem dX0_winks_170 : decode cX0_winks 170 = .ok (.iload_n 3, 1) := by decide +kernel
theorem dX0_winks_171 : decode cX0_winks 171 = .ok (.iconst 1, 1) := by decide +kernel
theorem dX0_winks_172 : decode cX0_winks 172 = .ok (.iadd, 1) := by decide +kernel
theorem dX0_winks_173 : decode cX0_winks 173 = .ok (.invokevirtual 32, 3) := by decide +kernel
theorem dX0_winks_176 : decode cX0_winks 176 = .ok (.ireturn, 1) := by decide +kernel
theorem dX0_tells_0 : decode cX0_tells 0 = .ok (.iload_n 3, 1) := by decide +kernel
theorem dX0_tells_1 : decode cX0_tells 1 = .ok (.bipush 20, 2) := by decide +kernel
theorem dX0_tells_3 : decode cX0_tells 3 = .ok (.if_icmp .gt 13, 3) := by decide +kernel
theorem dX0_tells_6 : decode cX0_tells 6 = .ok (.iload_n 1, 1) := by decide +kernel
theorem dX0_tells_7 : decode cX0_tells 7 = .ok (.ifCond .lt 9, 3) := by decide +kernel
theorem dX0_tells_10 : decode cX0_tells 10 = .ok (.iload_n 1, 1) := by decide +kernel
theorem dX0_tells_11 : decode cX0_tells 11 = .ok (.bipush 6, 2) := by decide +kernel
theorem dX0_tells_13 : decode cX0_tells 13 = .ok (.if_icmp .le 5, 3) := by decide +kernel
theorem dX0_tells_16 : decode cX0_tells 16 = .ok (.iconst 0, 1) := by decide +kernel
theorem dX0_tells_17 : decode cX0_tells 17 = .ok (.ireturn, 1) := by decide +kernel
theorem dX0_tells_18 : decode cX0_tells 18 = .ok (.iload_n 1, 1) := by decide +kernel
theorem dX0_tells_19 : decode cX0_tells 19 = .ok (.lookupswitch 112 #[(0, 33), (3, 54), (5, 87)], 33) := by decide +kernel
theorem dX0_tells_52 : decode cX0_tells 52 = .ok (.aload_n 0, 1) := by decide +kernel
theorem dX0_tells_53 : decode cX0_tells 53 = .ok (.bipush 12, 2) := by decide +kernel
theorem dX0_tells_55 : decode cX0_tells 55 = .ok (.invokevirtual 38, 3) := by decide +kernel
theorem dX0_tells_58 : decode cX0_tells 58 = .ok (.aload_n 0, 1) := by decide +kernel
theorem dX0_tells_59 : decode cX0_tells 59 = .ok (.aload_n 0, 1) := by decide +kernel
theorem dX0_tells_60 : decode cX0_tells 60 = .ok (.getfield 22, 3) := by decide +kernel
theorem dX0_tells_63 : decode cX0_tells 63 = .ok (.iload_n 2, 1) := by decide +kernel
theorem dX0_tells_64 : decode cX0_tells 64 = .ok (.iload_n 3, 1) := by decide +kernel
theorem dX0_tells_65 : decode cX0_tells 65 = .ok (.iconst 1, 1) := by decide +kernel
theorem dX0_tells_66 : decode cX0_tells 66 = .ok (.iadd, 1) := by decide +kernel
theorem dX0_tells_67 : decode cX0_tells 67 = .ok (.invokevirtual 32, 3) := by decide +kernel
theorem dX0_tells_70 : decode cX0_tells 70 = .ok (.iconst 2, 1) := by decide +kernel
theorem dX0_tells_71 : decode cX0_tells 71 = .ok (.imul, 1) := by decide +kernel
theorem dX0_tells_72 : decode cX0_tells 72 = .ok (.ireturn, 1) := by decide +kernel
theorem dX0_tells_73 : decode cX0_tells 73 = .ok (.aload_n 0, 1) := by decide +kernel
theorem dX0_tells_74 : decode cX0_tells 74 = .ok (.bipush 40, 2) := by decide +kernel
theorem dX0_tells_76 : decode cX0_tells 76 = .ok (.invokevirtual 38, 3) := by decide +kernel
theorem dX0_tells_79 : decode cX0_tells 79 = .ok (.aload_n 0, 1) := by decide +kernel
theorem dX0_tells_80 : decode cX0_tells 80 = .ok (.getstatic 42, 3) := by decide +kernel
theorem dX0_tells_83 : decode cX0_tells 83 = .ok (.iload_n 1, 1) := by decide +kernel
theorem dX0_tells_84 : decode cX0_tells 84 = .ok (.iaload, 1) := by decide +kernel
theorem dX0_tells_85 : decode cX0_tells 85 = .ok (.iload_n 2, 1) := by decide +kernel
theorem dX0_tells_86 : decode cX0_tells 86 = .ok (.iload_n 3, 1) := by decide +kernel
theorem dX0_tells_87 : decode cX0_tells 87 = .ok (.iconst 1, 1) := by decide +kernel
theorem dX0_tells_88 : decode cX0_tells 88 = .ok (.iadd, 1) := by decide +kernel
theorem dX0_tells_89 : decode cX0_tells 89 = .ok (.invokevirtual 35, 3) := by decide +kernel
theorem dX0_tells_92 : decode cX0_tells 92 = .ok (.aload_n 0, 1) := by decide +kernel
theorem dX0_tells_93 : decode cX0_tells 93 = .ok (.aload_n 0, 1) := by decide +kernel
theorem dX0_tells_94 : decode cX0_tells 94 = .ok (.getfield 22, 3) := by decide +kernel
theorem dX0_tells_97 : decode cX0_tells 97 = .ok (.iconst 1, 1) := by decide +kernel
theorem dX0_tells_98 : decode cX0_tells 98 = .ok (.iload_n 3, 1) := by decide +kernel
theorem dX0_tells_99 : decode cX0_tells 99 = .ok (.iconst 1, 1) := by decide +kernel
theorem dX0_tells_100 : decode cX0_tells 100 = .ok (.iadd, 1) := by decide +kernel
theorem dX0_tells_101 : decode cX0_tells 101 = .ok (.invokevirtual 32, 3) := by decide +kernel
theorem dX0_tells_104 : decode cX0_tells 104 = .ok (.iadd, 1) := by decide +kernel
theorem dX0_tells_105 : decode cX0_tells 105 = .ok (.ireturn, 1) := by decide +kernel
theorem dX0_tells_106 : decode cX0_tells 106 = .ok (.aload_n 0, 1) := by decide +kernel
theorem dX0_tells_107 : decode cX0_tells 107 = .ok (.bipush 60, 2) := by decide +kernel
theorem dX0_tells_109 : decode cX0_tells 109 = .ok (.invokevirtual 38, 3) := by decide +kernel
theorem dX0_tells_112 : decode cX0_tells 112 = .ok (.aload_n 0, 1) := by decide +kernel
theorem dX0_tells_113 : decode cX0_tells 113 = .ok (.getstatic 42, 3) := by decide +kernel
theorem dX0_tells_116 : decode cX0_tells 116 = .ok (.iload_n 1, 1) := by decide +kernel
theorem dX0_tells_117 : decode cX0_tells 117 = .ok (.iaload, 1) := by decide +kernel
theorem dX0_tells_118 : decode cX0_tells 118 = .ok (.iload_n 2, 1) := by decide +kernel
theorem dX0_tells_119 : decode cX0_tells 119 = .ok (.aload_n 0, 1) := by decide +kernel
theorem dX0_tells_120 : decode cX0_tells 120 = .ok (.getfield 19, 3) := by decide +kernel
theorem dX0_tells_123 : decode cX0_tells 123 = .ok (.isub, 1) := by decide +kernel
theorem dX0_tells_124 : decode cX0_tells 124 = .ok (.iload_n 3, 1) := by decide +kernel
theorem dX0_tells_125 : decode cX0_tells 125 = .ok (.iconst 1, 1) := by decide +kernel
theorem dX0_tells_126 : decode cX0_tells 126 = .ok (.iadd, 1) := by decide +kernel
theorem dX0_tells_127 : decode cX0_tells 127 = .ok (.invokevirtual 35, 3) := by decide +kernel
theorem dX0_tells_130 : decode cX0_tells 130 = .ok (.ireturn, 1) := by decide +kernel
theorem dX0_tells_131 : decode cX0_tells 131 = .ok (.aload_n 0, 1) := by decide +kernel
theorem dX0_tells_132 : decode cX0_tells 132 = .ok (.getstatic 42, 3) := by decide +kernel
theorem dX0_tells_135 : decode cX0_tells 135 = .ok (.iload_n 1, 1) := by decide +kernel
theorem dX0_tells_136 : decode cX0_tells 136 = .ok (.iaload, 1) := by decide +kernel
theorem dX0_tells_137 : decode cX0_tells 137 = .ok (.iload_n 2, 1) := by decide +kernel
theorem dX0_tells_138 : decode cX0_tells 138 = .ok (.iload_n 3, 1) := by decide +kernel
theorem dX0_tells_139 : decode cX0_tells 139 = .ok (.iconst 1, 1) := by decide +kernel
theorem dX0_tells_140 : decode cX0_tells 140 = .ok (.iadd, 1) := by decide +kernel
theorem dX0_tells_141 : decode cX0_tells 141 = .ok (.invokevirtual 35, 3) := by decide +kernel
theorem dX0_tells_144 : decode cX0_tells 144 = .ok (.ireturn, 1) := by decide +kernel
theorem dX1_init_0 : decode cX1_init 0 = .ok (.aload_n 0, 1) := by decide +kernel
theorem dX1_init_1 : decode cX1_init 1 = .ok (.invokespecial 3, 3) := by decide +kernel
theorem dX1_init_4 : decode cX1_init 4 = .ok (.aload_n 0, 1) := by decide +kernel
theorem dX1_init_5 : decode cX1_init 5 = .ok (.bipush 10, 2) := by decide +kernel
theorem dX1_init_7 : decode cX1_init 7 = .ok (.newarray .int, 2) := by decide +kernel
theorem dX1_init_9 : decode cX1_init 9 = .ok (.putfield 9, 3) := by decide +kernel
theorem dX1_init_12 : decode cX1_init 12 = .ok (.aload_n 0, 1) := by decide +kernel
theorem dX1_init_13 : decode cX1_init 13 = .ok (.bipush 10, 2) := by decide +kernel
theorem dX1_init_15 : decode cX1_init 15 = .ok (.newarray .int, 2) := by decide +kernel
theorem dX1_init_17 : decode cX1_init 17 = .ok (.putfield 15, 3) := by decide +kernel
theorem dX1_init_20 : decode cX1_init 20 = .ok (.aload_n 0, 1) := by decide +kernel
theorem dX1_init_21 : decode cX1_init 21 = .ok (.bipush 100, 2) := by decide +kernel
theorem dX1_init_23 : decode cX1_init 23 = .ok (.newarray .int, 2) := by decide +kernel
theorem dX1_init_25 : decode cX1_init 25 = .ok (.putfield 18, 3) := by decide +kernel
theorem dX1_init_28 : decode cX1_init 28 = .ok (.return_, 1) := by decide +kernel
theorem dX1_clear_0 : decode cX1_clear 0 = .ok (.aload_n 0, 1) := by decide +kernel
theorem dX1_clear_1 : decode cX1_clear 1 = .ok (.iconst 3, 1) := by decide +kernel
theorem dX1_clear_2 : decode cX1_clear 2 = .ok (.putfield 21, 3) := by decide +kernel
theorem dX1_clear_5 : decode cX1_clear 5 = .ok (.aload_n 0, 1) := by decide +kernel
theorem dX1_clear_6 : decode cX1_clear 6 = .ok (.iconst 2, 1) := by decide +kernel
theorem dX1_clear_7 : decode cX1_clear 7 = .ok (.putfield 25, 3) := by decide +kernel
theorem dX1_clear_10 : decode cX1_clear 10 = .ok (.aload_n 0, 1) := by decide +kernel
theorem dX1_clear_11 : decode cX1_clear 11 = .ok (.iconst 0, 1) := by decide +kernel
theorem dX1_clear_12 : decode cX1_clear 12 = .ok (.putfield 28, 3) := by decide +kernel
theorem dX1_clear_15 : decode cX1_clear 15 = .ok (.aload_n 0, 1) := by decide +kernel
theorem dX1_clear_16 : decode cX1_clear 16 = .ok (.iconst 0, 1) := by decide +kernel
theorem dX1_clear_17 : decode cX1_clear 17 = .ok (.putfield 31, 3) := by decide +kernel
theorem dX1_clear_20 : decode cX1_clear 20 = .ok (.return_, 1) := by decide +kernel
theorem dX1_addTest_0 : decode cX1_addTest 0 = .ok (.aload_n 0, 1) := by decide +kernel
theorem dX1_addTest_1 : decode cX1_addTest 1 = .ok (.iload_n 1, 1) := by decide +kernel
theorem dX1_addTest_2 : decode cX1_addTest 2 = .ok (.iconst 3, 1) := by decide +kernel
theorem dX1_addTest_3 : decode cX1_addTest 3 = .ok (.imul, 1) := by decide +kernel
theorem dX1_addTest_4 : decode cX1_addTest 4 = .ok (.iload_n 2, 1) := by decide +kernel
theorem dX1_addTest_5 : decode cX1_addTest 5 = .ok (.iadd, 1) := by decide +kernel
theorem dX1_addTest_6 : decode cX1_addTest 6 = .ok (.bipush 100, 2) := by decide +kernel
theorem dX1_addTest_8 : decode cX1_addTest 8 = .ok (.imul, 1) := by decide +kernel
theorem dX1_addTest_9 : decode cX1_addTest 9 = .ok (.iload_n 3, 1) := by decide +kernel
theorem dX1_addTest_10 : decode cX1_addTest 10 = .ok (.iadd, 1) := by decide +kernel
theorem dX1_addTest_11 : decode cX1_addTest 11 = .ok (.invokevirtual 34, 3) := by decide +kernel
theorem dX1_addTest_14 : decode cX1_addTest 14 = .ok (.return_, 1) := by decide +kernel
theorem dX1_addStep_0 : decode cX1_addStep 0 = .ok (.aload_n 0, 1) := by decide +kernel
theorem dX1_addStep_1 : decode cX1_addStep 1 = .ok (.getfield 31, 3) := by decide +kernel
theorem dX1_addStep_4 : decode cX1_addStep 4 = .ok (.bipush 100, 2) := by decide +kernel
theorem dX1_addStep_6 : decode cX1_addStep 6 = .ok (.if_icmp .ge 23, 3) := by decide +kernel
theorem dX1_addStep_9 : decode cX1_addStep 9 = .ok (.aload_n 0, 1) := by decide +kernel
theorem dX1_addStep_10 : decode cX1_addStep 10 = .ok (.getfield 18, 3) := by decide +kernel
theorem dX1_addStep_13 : decode cX1_addStep 13 = .ok (.aload_n 0, 1) := by decide +kernel
theorem dX1_addStep_14 : decode cX1_addStep 14 = .ok (.getfield 31, 3) := by decide +kernel
theorem dX1_addStep_17 : decode cX1_addStep 17 = .ok (.iload_n 1, 1) := by decide +kernel
theorem dX1_addStep_18 : decode cX1_addStep 18 = .ok (.iastore, 1) := by decide +kernel
theorem dX1_addStep_19 : decode cX1_addStep 19 = .ok (.aload_n 0, 1) := by decide +kernel
theorem dX1_addStep_20 : decode cX1_addStep 20 = .ok (.dup, 1) := by decide +kernel
theorem dX1_addStep_21 : decode cX1_addStep 21 = .ok (.getfield 31, 3) := by decide +kernel
theorem dX1_addStep_24 : decode cX1_addStep 24 = .ok (.iconst 1, 1) := by decide +kernel
theorem dX1_addStep_25 : decode cX1_addStep 25 = .ok (.iadd, 1) := by decide +kernel
theorem dX1_addStep_26 : decode cX1_addStep 26 = .ok (.putfield 31, 3) := by decide +kernel
theorem dX1_addStep_29 : decode cX1_addStep 29 = .ok (.return_, 1) := by decide +kernel
theorem dX1_endClause_0 : decode cX1_endClause 0 = .ok (.aload_n 0, 1) := by decide +kernel
theorem dX1_endClause_1 : decode cX1_endClause 1 = .ok (.getfield 28, 3) := by decide +kernel
theorem dX1_endClause_4 : decode cX1_endClause 4 = .ok (.bipush 10, 2) := by decide +kernel
theorem dX1_endClause_6 : decode cX1_endClause 6 = .ok (.if_icmp .ge 36, 3) := by decide +kernel
theorem dX1_endClause_9 : decode cX1_endClause 9 = .ok (.aload_n 0, 1) := by decide +kernel
theorem dX1_endClause_10 : decode cX1_endClause 10 = .ok (.getfield 9, 3) := by decide +kernel
theorem dX1_endClause_13 : decode cX1_endClause 13 = .ok (.aload_n 0, 1) := by decide +kernel
theorem dX1_endClause_14 : decode cX1_endClause 14 = .ok (.getfield 28, 3) := by decide +kernel
theorem dX1_endClause_17 : decode cX1_endClause 17 = .ok (.iload_n 1, 1) := by decide +kernel
theorem dX1_endClause_18 : decode cX1_endClause 18 = .ok (.iastore, 1) := by decide +kernel
theorem dX1_endClause_19 : decode cX1_endClause 19 = .ok (.aload_n 0, 1) := by decide +kernel
theorem dX1_endClause_20 : decode cX1_endClause 20 = .ok (.getfield 15, 3) := by decide +kernel
theorem dX1_endClause_23 : decode cX1_endClause 23 = .ok (.aload_n 0, 1) := by decide +kernel
theorem dX1_endClause_24 : decode cX1_endClause 24 = .ok (.getfield 28, 3) := by decide +kernel
theorem dX1_endClause_27 : decode cX1_endClause 27 = .ok (.aload_n 0, 1) := by decide +kernel
theorem dX1_endClause_28 : decode cX1_endClause 28 = .ok (.getfield 31, 3) := by decide +kernel
theorem dX1_endClause_31 : decode cX1_endClause 31 = .ok (.iastore, 1) := by decide +kernel
theorem dX1_endClause_32 : decode cX1_endClause 32 = .ok (.aload_n 0, 1) := by decide +kernel
theorem dX1_endClause_33 : decode cX1_endClause 33 = .ok (.dup, 1) := by decide +kernel
theorem dX1_endClause_34 : decode cX1_endClause 34 = .ok (.getfield 28, 3) := by decide +kernel
theorem dX1_endClause_37 : decode cX1_endClause 37 = .ok (.iconst 1, 1) := by decide +kernel
theorem dX1_endClause_38 : decode cX1_endClause 38 = .ok (.iadd, 1) := by decide +kernel
theorem dX1_endClause_39 : decode cX1_endClause 39 = .ok (.putfield 28, 3) := by decide +kernel
theorem dX1_endClause_42 : decode cX1_endClause 42 = .ok (.return_, 1) := by decide +kernel
theorem dX1_holds_0 : decode cX1_holds 0 = .ok (.iload_n 1, 1) := by decide +kernel
theorem dX1_holds_1 : decode cX1_holds 1 = .ok (.ifCond .ne 7, 3) := by decide +kernel
theorem dX1_holds_4 : decode cX1_holds 4 = .ok (.iconst 0, 1) := by decide +kernel
theorem dX1_holds_5 : decode cX1_holds 5 = .ok (.goto 11, 3) := by decide +kernel
theorem dX1_holds_8 : decode cX1_holds 8 = .ok (.aload_n 0, 1) := by decide +kernel
theorem dX1_holds_9 : decode cX1_holds 9 = .ok (.getfield 15, 3) := by decide +kernel
theorem dX1_holds_12 : decode cX1_holds 12 = .ok (.iload_n 1, 1) := by decide +kernel
theorem dX1_holds_13 : decode cX1_holds 13 = .ok (.iconst 1, 1) := by decide +kernel
theorem dX1_holds_14 : decode cX1_holds 14 = .ok (.isub, 1) := by decide +kernel
theorem dX1_holds_15 : decode cX1_holds 15 = .ok (.iaload, 1) := by decide +kernel
theorem dX1_holds_16 : decode cX1_holds 16 = .ok (.istore_n 3, 1) := by decide +kernel
theorem dX1_holds_17 : decode cX1_holds 17 = .ok (.iconst 0, 1) := by decide +kernel
theorem dX1_holds_18 : decode cX1_holds 18 = .ok (.istore 4, 2) := by decide +kernel
theorem dX1_holds_20 : decode cX1_holds 20 = .ok (.iload_n 3, 1) := by decide +kernel
theorem dX1_holds_21 : decode cX1_holds 21 = .ok (.istore 5, 2) := by decide +kernel
theorem dX1_holds_23 : decode cX1_holds 23 = .ok (.iload 5, 2) := by decide +kernel
theorem dX1_holds_25 : decode cX1_holds 25 = .ok (.aload_n 0, 1) := by decide +kernel
theorem dX1_holds_26 : decode cX1_holds 26 = .ok (.getfield 15, 3) := by decide +kernel
theorem dX1_holds_29 : decode cX1_holds 29 = .ok (.iload_n 1, 1) := by decide +kernel
theorem dX1_holds_30 : decode cX1_holds 30 = .ok (.iaload, 1) := by decide +kernel
theorem dX1_holds_31 : decode cX1_holds 31 = .ok (.if_icmp .ge 163, 3) := by decide +kernel
theorem dX1_holds_34 : decode cX1_holds 34 = .ok (.aload_n 0, 1) := by decide +kernel
theorem dX1_holds_35 : decode cX1_holds 35 = .ok (.getfield 18, 3) := by decide +kernel
theorem dX1_holds_38 : decode cX1_holds 38 = .ok (.iload 5, 2) := by decide +kernel
theorem dX1_holds_40 : decode cX1_holds 40 = .ok (.iaload, 1) := by decide +kernel
theorem dX1_holds_41 : decode cX1_holds 41 = .ok (.istore 6, 2) := by decide +kernel
theorem dX1_holds_43 : decode cX1_holds 43 = .ok (.iload 6, 2) := by decide +kernel
theorem dX1_holds_45 : decode cX1_holds 45 = .ok (.iconst (-1), 1) := by decide +kernel
theorem dX1_holds_46 : decode cX1_holds 46 = .ok (.if_icmp .ne 12, 3) := by decide +kernel
theorem dX1_holds_49 : decode cX1_holds 49 = .ok (.iload 4, 2) := by decide +kernel
theorem dX1_holds_51 : decode cX1_holds 51 = .ok (.iconst 1, 1) := by decide +kernel
theorem dX1_holds_52 : decode cX1_holds 52 = .ok (.ixor, 1) := by decide +kernel
theorem dX1_holds_53 : decode cX1_holds 53 = .ok (.istore 4, 2) := by decide +kernel
theorem dX1_holds_55 : decode cX1_holds 55 = .ok (.goto 133, 3) := by decide +kernel
theorem dX1_holds_58 : decode cX1_holds 58 = .ok (.iload 6, 2) := by decide +kernel
theorem dX1_holds_60 : decode cX1_holds 60 = .ok (.bipush (-2), 2) := by decide +kernel
theorem dX1_holds_62 : decode cX1_holds 62 = .ok (.if_icmp .ne 18, 3) := by decide +kernel
theorem dX1_holds_65 : decode cX1_holds 65 = .ok (.iload 4, 2) := by decide +kernel
theorem dX1_holds_67 : decode cX1_holds 67 = .ok (.iconst 1, 1) := by decide +kernel
theorem dX1_holds_68 : decode cX1_holds 68 = .ok (.ishr, 1) := by decide +kernel
theorem dX1_holds_69 : decode cX1_holds 69 = .ok (.iload 4, 2) := by decide +kernel
theorem dX1_holds_71 : decode cX1_holds 71 = .ok (.bipush (-2), 2) := by decide +kernel
theorem dX1_holds_73 : decode cX1_holds 73 = .ok (.ior, 1) := by decide +kernel
theorem dX1_holds_74 : decode cX1_holds 74 = .ok (.iand, 1) := by decide +kernel
theorem dX1_holds_75 : decode cX1_holds 75 = .ok (.istore 4, 2) := by decide +kernel
theorem dX1_holds_77 : decode cX1_holds 77 = .ok (.goto 111, 3) := by decide +kernel
theorem dX1_holds_80 : decode cX1_holds 80 = .ok (.iload 6, 2) := by decide +kernel
theorem dX1_holds_82 : decode cX1_holds 82 = .ok (.bipush (-3), 2) := by decide +kernel
theorem dX1_holds_84 : decode cX1_holds 84 = .ok (.if_icmp .ne 17, 3) := by decide +kernel
theorem dX1_holds_87 : decode cX1_holds 87 = .ok (.iload 4, 2) := by decide +kernel
theorem dX1_holds_89 : decode cX1_holds 89 = .ok (.iconst 1, 1) := by decide +kernel
theorem dX1_holds_90 : decode cX1_holds 90 = .ok (.ishr, 1) := by decide +kernel
theorem dX1_holds_91 : decode cX1_holds 91 = .ok (.iload 4, 2) := by decide +kernel
theorem dX1_holds_93 : decode cX1_holds 93 = .ok (.iconst 1, 1) := by decide +kernel
theorem dX1_holds_94 : decode cX1_holds 94 = .ok (.iand, 1) := by decide +kernel
theorem dX1_holds_95 : decode cX1_holds 95 = .ok (.ior, 1) := by decide +kernel
theorem dX1_holds_96 : decode cX1_holds 96 = .ok (.istore 4, 2) := by decide +kernel
theorem dX1_holds_98 : decode cX1_holds 98 = .ok (.goto 90, 3) := by decide +kernel
theorem dX1_holds_101 : decode cX1_holds 101 = .ok (.iload 6, 2) := by decide +kernel
theorem dX1_holds_103 : decode cX1_holds 103 = .ok (.bipush 100, 2) := by decide +kernel
theorem dX1_holds_105 : decode cX1_holds 105 = .ok (.idiv, 1) := by decide +kernel
theorem dX1_holds_106 : decode cX1_holds 106 = .ok (.iconst 3, 1) := by decide +kernel
theorem dX1_holds_107 : decode cX1_holds 107 = .ok (.idiv, 1) := by decide +kernel
theorem dX1_holds_108 : decode cX1_holds 108 = .ok (.istore 7, 2) := by decide +kernel
theorem dX1_holds_110 : decode cX1_holds 110 = .ok (.iload 7, 2) := by decide +kernel
theorem dX1_holds_112 : decode cX1_holds 112 = .ok (.ifCond .lt 17, 3) := by decide +kernel
theorem dX1_holds_115 : decode cX1_holds 115 = .ok (.iload 7, 2) := by decide +kernel
theorem dX1_holds_117 : decode cX1_holds 117 = .ok (.aload_n 2, 1) := by decide +kernel
theorem dX1_holds_118 : decode cX1_holds 118 = .ok (.arraylength, 1) := by decide +kernel
theorem dX1_holds_119 : decode cX1_holds 119 = .ok (.if_icmp .ge 10, 3) := by decide +kernel
theorem dX1_holds_122 : decode cX1_holds 122 = .ok (.aload_n 2, 1) := by decide +kernel
theorem dX1_holds_123 : decode cX1_holds 123 = .ok (.iload 7, 2) := by decide +kernel
theorem dX1_holds_125 : decode cX1_holds 125 = .ok (.iaload, 1) := by decide +kernel
theorem dX1_holds_126 : decode cX1_holds 126 = .ok (.goto 4, 3) := by decide +kernel
theorem dX1_holds_129 : decode cX1_holds 129 = .ok (.iconst 0, 1) := by decide +kernel
theorem dX1_holds_130 : decode cX1_holds 130 = .ok (.istore 8, 2) := by decide +kernel
theorem dX1_holds_132 : decode cX1_holds 132 = .ok (.iload 6, 2) := by decide +kernel
theorem dX1_holds_134 : decode cX1_holds 134 = .ok (.bipush 100, 2) := by decide +kernel
theorem dX1_holds_136 : decode cX1_holds 136 = .ok (.irem, 1) := by decide +kernel
theorem dX1_holds_137 : decode cX1_holds 137 = .ok (.istore 9, 2) := by decide +kernel
theorem dX1_holds_139 : decode cX1_holds 139 = .ok (.iload 8, 2) := by decide +kernel
theorem dX1_holds_141 : decode cX1_holds 141 = .ok (.iload 9, 2) := by decide +kernel
theorem dX1_holds_143 : decode cX1_holds 143 = .ok (.if_icmp .ge 7, 3) := by decide +kernel
theorem dX1_holds_146 : decode cX1_holds 146 = .ok (.iconst 0, 1) := by decide +kernel
theorem dX1_holds_147 : decode cX1_holds 147 = .ok (.goto 15, 3) := by decide +kernel
theorem dX1_holds_150 : decode cX1_holds 150 = .ok (.iload 8, 2) := by decide +kernel
theorem dX1_holds_152 : decode cX1_holds 152 = .ok (.iload 9, 2) := by decide +kernel
theorem dX1_holds_154 : decode cX1_holds 154 = .ok (.if_icmp .ne 7, 3) := by decide +kernel
theorem dX1_holds_157 : decode cX1_holds 157 = .ok (.iconst 1, 1) := by decide +kernel
theorem dX1_holds_158 : decode cX1_holds 158 = .ok (.goto 4, 3) := by decide +kernel
theorem dX1_holds_161 : decode cX1_holds 161 = .ok (.iconst 2, 1) := by decide +kernel
theorem dX1_holds_162 : decode cX1_holds 162 = .ok (.istore 10, 2) := by decide +kernel
theorem dX1_holds_164 : decode cX1_holds 164 = .ok (.iload 4, 2) := by decide +kernel
theorem dX1_holds_166 : decode cX1_holds 166 = .ok (.iconst 1, 1) := by decide +kernel
theorem dX1_holds_167 : decode cX1_holds 167 = .ok (.ishl, 1) := by decide +kernel
theorem dX1_holds_168 : decode cX1_holds 168 = .ok (.iload 10, 2) := by decide +kernel
theorem dX1_holds_170 : decode cX1_holds 170 = .ok (.iload 6, 2) := by decide +kernel
theorem dX1_holds_172 : decode cX1_holds 172 = .ok (.bipush 100, 2) := by decide +kernel
theorem dX1_holds_174 : decode cX1_holds 174 = .ok (.idiv, 1) := by decide +kernel
theorem dX1_holds_175 : decode cX1_holds 175 = .ok (.iconst 3, 1) := by decide +kernel
theorem dX1_holds_176 : decode cX1_holds 176 = .ok (.irem, 1) := by decide +kernel
theorem dX1_holds_177 : decode cX1_holds 177 = .ok (.if_icmp .ne 7, 3) := by decide +kernel
theorem dX1_holds_180 : decode cX1_holds 180 = .ok (.iconst 1, 1) := by decide +kernel
theorem dX1_holds_181 : decode cX1_holds 181 = .ok (.goto 4, 3) := by decide +kernel
theorem dX1_holds_184 : decode cX1_holds 184 = .ok (.iconst 0, 1) := by decide +kernel
theorem dX1_holds_185 : decode cX1_holds 185 = .ok (.ior, 1) := by decide +kernel
theorem dX1_holds_186 : decode cX1_holds 186 = .ok (.istore 4, 2) := by decide +kernel
theorem dX1_holds_188 : decode cX1_holds 188 = .ok (.iinc 5 1, 3) := by decide +kernel
theorem dX1_holds_191 : decode cX1_holds 191 = .ok (.goto (-168), 3) := by decide +kernel
theorem dX1_holds_194 : decode cX1_holds 194 = .ok (.iload 4, 2) := by decide +kernel
theorem dX1_holds_196 : decode cX1_holds 196 = .ok (.iconst 1, 1) := by decide +kernel
theorem dX1_holds_197 : decode cX1_holds 197 = .ok (.iand, 1) := by decide +kernel
theorem dX1_holds_198 : decode cX1_holds 198 = .ok (.iconst 1, 1) := by decide +kernel
theorem dX1_holds_199 : decode cX1_holds 199 = .ok (.if_icmp .ne 7, 3) := by decide +kernel
theorem dX1_holds_202 : decode cX1_holds 202 = .ok (.iconst 1, 1) := by decide +kernel
theorem dX1_holds_203 : decode cX1_holds 203 = .ok (.goto 4, 3) := by decide +kernel
theorem dX1_holds_206 : decode cX1_holds 206 = .ok (.iconst 0, 1) := by decide +kernel
theorem dX1_holds_207 : decode cX1_holds 207 = .ok (.ireturn, 1) := by decide +kernel
theorem dX2_init_0 : decode cX2_init 0 = .ok (.aload_n 0, 1) := by decide +kernel
theorem dX2_init_1 : decode cX2_init 1 = .ok (.invokespecial 3, 3) := by decide +kernel
theorem dX2_init_4 : decode cX2_init 4 = .ok (.aload_n 0, 1) := by decide +kernel
theorem dX2_init_5 : decode cX2_init 5 = .ok (.bipush 100, 2) := by decide +kernel
theorem dX2_init_7 : decode cX2_init 7 = .ok (.newarray .byte, 2) := by decide +kernel
theorem dX2_init_9 : decode cX2_init 9 = .ok (.putfield 9, 3) := by decide +kernel
theorem dX2_init_12 : decode cX2_init 12 = .ok (.return_, 1) := by decide +kernel
theorem dX2_fills_0 : decode cX2_fills 0 = .ok (.aload_n 1, 1) := by decide +kernel
theorem dX2_fills_1 : decode cX2_fills 1 = .ok (.invokevirtual 15, 3) := by decide +kernel
theorem dX2_fills_4 : decode cX2_fills 4 = .ok (.aload_n 0, 1) := by decide +kernel
theorem dX2_fills_5 : decode cX2_fills 5 = .ok (.iconst 0, 1) := by decide +kernel
theorem dX2_fills_6 : decode cX2_fills 6 = .ok (.putfield 20, 3) := by decide +kernel
theorem dX2_fills_9 : decode cX2_fills 9 = .ok (.iconst 1, 1) := by decide +kernel
theorem dX2_fills_10 : decode cX2_fills 10 = .ok (.istore_n 2, 1) := by decide +kernel
theorem dX2_fills_11 : decode cX2_fills 11 = .ok (.iload_n 2, 1) := by decide +kernel
theorem dX2_fills_12 : decode cX2_fills 12 = .ok (.bipush 10, 2) := by decide +kernel
theorem dX2_fills_14 : decode cX2_fills 14 = .ok (.if_icmp .gt 49, 3) := by decide +kernel
theorem dX2_fills_17 : decode cX2_fills 17 = .ok (.aload_n 0, 1) := by decide +kernel
theorem dX2_fills_18 : decode cX2_fills 18 = .ok (.aload_n 1, 1) := by decide +kernel
theorem dX2_fills_19 : decode cX2_fills 19 = .ok (.invokevirtual 24, 3) := by decide +kernel
theorem dX2_fills_22 : decode cX2_fills 22 = .ok (.ifCond .ne 5, 3) := by decide +kernel
theorem dX2_fills_25 : decode cX2_fills 25 = .ok (.iconst 0, 1) := by decide +kernel
theorem dX2_fills_26 : decode cX2_fills 26 = .ok (.ireturn, 1) := by decide +kernel
theorem dX2_fills_27 : decode cX2_fills 27 = .ok (.aload_n 0, 1) := by decide +kernel
theorem dX2_fills_28 : decode cX2_fills 28 = .ok (.getfield 20, 3) := by decide +kernel
theorem dX2_fills_31 : decode cX2_fills 31 = .ok (.aload_n 0, 1) := by decide +kernel
theorem dX2_fills_32 : decode cX2_fills 32 = .ok (.getfield 28, 3) := by decide +kernel
theorem dX2_fills_35 : decode cX2_fills 35 = .ok (.if_icmp .ne 5, 3) := by decide +kernel
theorem dX2_fills_38 : decode cX2_fills 38 = .ok (.iconst 1, 1) := by decide +kernel
theorem dX2_fills_39 : decode cX2_fills 39 = .ok (.ireturn, 1) := by decide +kernel
theorem dX2_fills_40 : decode cX2_fills 40 = .ok (.iload_n 2, 1) := by decide +kernel
theorem dX2_fills_41 : decode cX2_fills 41 = .ok (.bipush 10, 2) := by decide +kernel
theorem dX2_fills_43 : decode cX2_fills 43 = .ok (.if_icmp .eq 12, 3) := by decide +kernel
theorem dX2_fills_46 : decode cX2_fills 46 = .ok (.aload_n 0, 1) := by decide +kernel
theorem dX2_fills_47 : decode cX2_fills 47 = .ok (.bipush 59, 2) := by decide +kernel
theorem dX2_fills_49 : decode cX2_fills 49 = .ok (.invokevirtual 31, 3) := by decide +kernel
theorem dX2_fills_52 : decode cX2_fills 52 = .ok (.ifCond .ne 5, 3) := by decide +kernel
theorem dX2_fills_55 : decode cX2_fills 55 = .ok (.iconst 0, 1) := by decide +kernel
theorem dX2_fills_56 : decode cX2_fills 56 = .ok (.ireturn, 1) := by decide +kernel
theorem dX2_fills_57 : decode cX2_fills 57 = .ok (.iinc 2 1, 3) := by decide +kernel
theorem dX2_fills_60 : decode cX2_fills 60 = .ok (.goto (-49), 3) := by decide +kernel
theorem dX2_fills_63 : decode cX2_fills 63 = .ok (.iconst 0, 1) := by decide +kernel
theorem dX2_fills_64 : decode cX2_fills 64 = .ok (.ireturn, 1) := by decide +kernel
theorem dX2_readClause_0 : decode cX2_readClause 0 = .ok (.aload_n 0, 1) := by decide +kernel
theorem dX2_readClause_1 : decode cX2_readClause 1 = .ok (.getfield 20, 3) := by decide +kernel
theorem dX2_readClause_4 : decode cX2_readClause 4 = .ok (.aload_n 0, 1) := by decide +kernel
theorem dX2_readClause_5 : decode cX2_readClause 5 = .ok (.getfield 28, 3) := by decide +kernel
theorem dX2_readClause_8 : decode cX2_readClause 8 = .ok (.if_icmp .ge 15, 3) := by decide +kernel
theorem dX2_readClause_11 : decode cX2_readClause 11 = .ok (.aload_n 0, 1) := by decide +kernel
theorem dX2_readClause_12 : decode cX2_readClause 12 = .ok (.getfield 9, 3) := by decide +kernel
theorem dX2_readClause_15 : decode cX2_readClause 15 = .ok (.aload_n 0, 1) := by decide +kernel
theorem dX2_readClause_16 : decode cX2_readClause 16 = .ok (.getfield 20, 3) := by decide +kernel
theorem dX2_readClause_19 : decode cX2_readClause 19 = .ok (.baload, 1) := by decide +kernel
theorem dX2_readClause_20 : decode cX2_readClause 20 = .ok (.goto 4, 3) := by decide +kernel
theorem dX2_readClause_23 : decode cX2_readClause 23 = .ok (.iconst (-1), 1) := by decide +kernel
theorem dX2_readClause_24 : decode cX2_readClause 24 = .ok (.istore_n 2, 1) := by decide +kernel
theorem dX2_readClause_25 : decode cX2_readClause 25 = .ok (.aload_n 0, 1) := by decide +kernel
theorem dX2_readClause_26 : decode cX2_readClause 26 = .ok (.iload_n 2, 1) := by decide +kernel
theorem dX2_readClause_27 : decode cX2_readClause 27 = .ok (.invokestatic 35, 3) := by decide +kernel
theorem dX2_readClause_30 : decode cX2_readClause 30 = .ok (.invokevirtual 39, 3) := by decide +kernel
theorem dX2_readClause_33 : decode cX2_readClause 33 = .ok (.ifCond .ne 5, 3) := by decide +kernel
theorem dX2_readClause_36 : decode cX2_readClause 36 = .ok (.iconst 0, 1) := by decide +kernel
theorem dX2_readClause_37 : decode cX2_readClause 37 = .ok (.ireturn, 1) := by decide +kernel
theorem dX2_readClause_38 : decode cX2_readClause 38 = .ok (.aload_n 0, 1) := by decide +kernel
theorem dX2_readClause_39 : decode cX2_readClause 39 = .ok (.invokevirtual 43, 3) := by decide +kernel
theorem dX2_readClause_42 : decode cX2_readClause 42 = .ok (.istore_n 3, 1) := by decide +kernel
theorem dX2_readClause_43 : decode cX2_readClause 43 = .ok (.iload_n 3, 1) := by decide +kernel
theorem dX2_readClause_44 : decode cX2_readClause 44 = .ok (.ifCond .ge 5, 3) := by decide +kernel
theorem dX2_readClause_47 : decode cX2_readClause 47 = .ok (.iconst 0, 1) := by decide +kernel
theorem dX2_readClause_48 : decode cX2_readClause 48 = .ok (.ireturn, 1) := by decide +kernel
theorem dX2_readClause_49 : decode cX2_readClause 49 = .ok (.iload_n 2, 1) := by decide +kernel
theorem dX2_readClause_50 : decode cX2_readClause 50 = .ok (.bipush 110, 2) := by decide +kernel
theorem dX2_readClause_52 : decode cX2_readClause 52 = .ok (.if_icmp .ne 10, 3) := by decide +kernel
theorem dX2_readClause_55 : decode cX2_readClause 55 = .ok (.aload_n 1, 1) := by decide +kernel
theorem dX2_readClause_56 : decode cX2_readClause 56 = .ok (.iload_n 3, 1) := by decide +kernel
theorem dX2_readClause_57 : decode cX2_readClause 57 = .ok (.putfield 47, 3) := by decide +kernel
theorem dX2_readClause_60 : decode cX2_readClause 60 = .ok (.iconst 1, 1) := by decide +kernel
theorem dX2_readClause_61 : decode cX2_readClause 61 = .ok (.ireturn, 1) := by decide +kernel
theorem dX2_readClause_62 : decode cX2_readClause 62 = .ok (.iload_n 2, 1) := by decide +kernel
theorem dX2_readClause_63 : decode cX2_readClause 63 = .ok (.bipush 119, 2) := by decide +kernel
theorem dX2_readClause_65 : decode cX2_readClause 65 = .ok (.if_icmp .ne 10, 3) := by decide +kernel
theorem dX2_readClause_68 : decode cX2_readClause 68 = .ok (.aload_n 1, 1) := by decide +kernel
theorem dX2_readClause_69 : decode cX2_readClause 69 = .ok (.iload_n 3, 1) := by decide +kernel
theorem dX2_readClause_70 : decode cX2_readClause 70 = .ok (.putfield 50, 3) := by decide +kernel
theorem dX2_readClause_73 : decode cX2_readClause 73 = .ok (.iconst 1, 1) := by decide +kernel
theorem dX2_readClause_74 : decode cX2_readClause 74 = .ok (.ireturn, 1) := by decide +kernel
theorem dX2_readClause_75 : decode cX2_readClause 75 = .ok (.aload_n 0, 1) := by decide +kernel
theorem dX2_readClause_76 : decode cX2_readClause 76 = .ok (.bipush 32, 2) := by decide +kernel
theorem dX2_readClause_78 : decode cX2_readClause 78 = .ok (.invokevirtual 31, 3) := by decide +kernel
theorem dX2_readClause_81 : decode cX2_readClause 81 = .ok (.ifCond .eq 12, 3) := by decide +kernel
theorem dX2_readClause_84 : decode cX2_readClause 84 = .ok (.aload_n 0, 1) := by decide +kernel
theorem dX2_readClause_85 : decode cX2_readClause 85 = .ok (.aload_n 1, 1) := by decide +kernel
theorem dX2_readClause_86 : decode cX2_readClause 86 = .ok (.iconst 0, 1) := by decide +kernel
theorem dX2_readClause_87 : decode cX2_readClause 87 = .ok (.invokevirtual 53, 3) := by decide +kernel
theorem dX2_readClause_90 : decode cX2_readClause 90 = .ok (.ifCond .ne 5, 3) := by decide +kernel
theorem dX2_readClause_93 : decode cX2_readClause 93 = .ok (.iconst 0, 1) := by decide +kernel
theorem dX2_readClause_94 : decode cX2_readClause 94 = .ok (.ireturn, 1) := by decide +kernel
theorem dX2_readClause_95 : decode cX2_readClause 95 = .ok (.aload_n 1, 1) := by decide +kernel
theorem dX2_readClause_96 : decode cX2_readClause 96 = .ok (.iload_n 2, 1) := by decide +kernel
theorem dX2_readClause_97 : decode cX2_readClause 97 = .ok (.bipush 116, 2) := by decide +kernel
theorem dX2_readClause_99 : decode cX2_readClause 99 = .ok (.if_icmp .ne 7, 3) := by decide +kernel
theorem dX2_readClause_102 : decode cX2_readClause 102 = .ok (.iload_n 3, 1) := by decide +kernel
theorem dX2_readClause_103 : decode cX2_readClause 103 = .ok (.goto 5, 3) := by decide +kernel
theorem dX2_readClause_106 : decode cX2_readClause 106 = .ok (.iload_n 3, 1) := by decide +kernel
theorem dX2_readClause_107 : decode cX2_readClause 107 = .ok (.ineg, 1) := by decide +kernel
theorem dX2_readClause_108 : decode cX2_readClause 108 = .ok (.invokevirtual 57, 3) := by decide +kernel
theorem dX2_readClause_111 : decode cX2_readClause 111 = .ok (.iconst 1, 1) := by decide +kernel
theorem dX2_readClause_112 : decode cX2_readClause 112 = .ok (.ireturn, 1) := by decide +kernel
theorem dX2_wordFrom_0 : decode cX2_wordFrom 0 = .ok (.iload_n 0, 1) := by decide +kernel
theorem dX2_wordFrom_1 : decode cX2_wordFrom 1 = .ok (.tableswitch 67 110 119 #[61, 67, 67, 67, 67, 58, 55, 67, 67, 64], 55) := by decide +kernel
theorem dX2_wordFrom_56 : decode cX2_wordFrom 56 = .ok (.ldc 61, 2) := by decide +kernel
theorem dX2_wordFrom_58 : decode cX2_wordFrom 58 = .ok (.areturn, 1) := by decide +kernel
theorem dX2_wordFrom_59 : decode cX2_wordFrom 59 = .ok (.ldc 63, 2) := by decide +kernel
theorem dX2_wordFrom_61 : decode cX2_wordFrom 61 = .ok (.areturn, 1) := by decide +kernel
theorem dX2_wordFrom_62 : decode cX2_wordFrom 62 = .ok (.ldc 65, 2) := by decide +kernel
theorem dX2_wordFrom_64 : decode cX2_wordFrom 64 = .ok (.areturn, 1) := by decide +kernel
theorem dX2_wordFrom_65 : decode cX2_wordFrom 65 = .ok (.ldc 67, 2) := by decide +kernel
theorem dX2_wordFrom_67 : decode cX2_wordFrom 67 = .ok (.areturn, 1) := by decide +kernel
theorem dX2_wordFrom_68 : decode cX2_wordFrom 68 = .ok (.ldc 69, 2) := by decide +kernel
theorem dX2_wordFrom_70 : decode cX2_wordFrom 70 = .ok (.areturn, 1) := by decide +kernel
theorem dX2_takesWord_0 : decode cX2_takesWord 0 = .ok (.iconst 0, 1) := by decide +kernel
theorem dX2_takesWord_1 : decode cX2_takesWord 1 = .ok (.istore_n 2, 1) := by decide +kernel
theorem dX2_takesWord_2 : decode cX2_takesWord 2 = .ok (.iload_n 2, 1) := by decide +kernel
theorem dX2_takesWord_3 : decode cX2_takesWord 3 = .ok (.aload_n 1, 1) := by decide +kernel
theorem dX2_takesWord_4 : decode cX2_takesWord 4 = .ok (.invokevirtual 71, 3) := by decide +kernel
theorem dX2_takesWord_7 : decode cX2_takesWord 7 = .ok (.if_icmp .ge 23, 3) := by decide +kernel
theorem dX2_takesWord_10 : decode cX2_takesWord 10 = .ok (.aload_n 0, 1) := by decide +kernel
theorem dX2_takesWord_11 : decode cX2_takesWord 11 = .ok (.aload_n 1, 1) := by decide +kernel
theorem dX2_takesWord_12 : decode cX2_takesWord 12 = .ok (.iload_n 2, 1) := by decide +kernel
theorem dX2_takesWord_13 : decode cX2_takesWord 13 = .ok (.invokevirtual 75, 3) := by decide +kernel
theorem dX2_takesWord_16 : decode cX2_takesWord 16 = .ok (.invokevirtual 31, 3) := by decide +kernel
theorem dX2_takesWord_19 : decode cX2_takesWord 19 = .ok (.ifCond .ne 5, 3) := by decide +kernel
theorem dX2_takesWord_22 : decode cX2_takesWord 22 = .ok (.iconst 0, 1) := by decide +kernel
theorem dX2_takesWord_23 : decode cX2_takesWord 23 = .ok (.ireturn, 1) := by decide +kernel
theorem dX2_takesWord_24 : decode cX2_takesWord 24 = .ok (.iinc 2 1, 3) := by decide +kernel
theorem dX2_takesWord_27 : decode cX2_takesWord 27 = .ok (.goto (-25), 3) := by decide +kernel
theorem dX2_takesWord_30 : decode cX2_takesWord 30 = .ok (.aload_n 1, 1) := by decide +kernel
theorem dX2_takesWord_31 : decode cX2_takesWord 31 = .ok (.invokevirtual 79, 3) := by decide +kernel
theorem dX2_takesWord_34 : decode cX2_takesWord 34 = .ok (.ifCond .ne 7, 3) := by decide +kernel
theorem dX2_takesWord_37 : decode cX2_takesWord 37 = .ok (.iconst 1, 1) := by decide +kernel
theorem dX2_takesWord_38 : decode cX2_takesWord 38 = .ok (.goto 4, 3) := by decide +kernel
theorem dX2_takesWord_41 : decode cX2_takesWord 41 = .ok (.iconst 0, 1) := by decide +kernel
theorem dX2_takesWord_42 : decode cX2_takesWord 42 = .ok (.ireturn, 1) := by decide +kernel
theorem dX2_takes_0 : decode cX2_takes 0 = .ok (.aload_n 0, 1) := by decide +kernel
theorem dX2_takes_1 : decode cX2_takes 1 = .ok (.getfield 20, 3) := by decide +kernel
theorem dX2_takes_4 : decode cX2_takes 4 = .ok (.aload_n 0, 1) := by decide +kernel
theorem dX2_takes_5 : decode cX2_takes 5 = .ok (.getfield 28, 3) := by decide +kernel
theorem dX2_takes_8 : decode cX2_takes 8 = .ok (.if_icmp .ge 16, 3) := by decide +kernel
theorem dX2_takes_11 : decode cX2_takes 11 = .ok (.aload_n 0, 1) := by decide +kernel
theorem dX2_takes_12 : decode cX2_takes 12 = .ok (.getfield 9, 3) := by decide +kernel
theorem dX2_takes_15 : decode cX2_takes 15 = .ok (.aload_n 0, 1) := by decide +kernel
theorem dX2_takes_16 : decode cX2_takes 16 = .ok (.getfield 20, 3) := by decide +kernel
theorem dX2_takes_19 : decode cX2_takes 19 = .ok (.baload, 1) := by decide +kernel
theorem dX2_takes_20 : decode cX2_takes 20 = .ok (.iload_n 1, 1) := by decide +kernel
theorem dX2_takes_21 : decode cX2_takes 21 = .ok (.if_icmp .eq 5, 3) := by decide +kernel
theorem dX2_takes_24 : decode cX2_takes 24 = .ok (.iconst 0, 1) := by decide +kernel
theorem dX2_takes_25 : decode cX2_takes 25 = .ok (.ireturn, 1) := by decide +kernel
theorem dX2_takes_26 : decode cX2_takes 26 = .ok (.aload_n 0, 1) := by decide +kernel
theorem dX2_takes_27 : decode cX2_takes 27 = .ok (.dup, 1) := by decide +kernel
theorem dX2_takes_28 : decode cX2_takes 28 = .ok (.getfield 20, 3) := by decide +kernel
theorem dX2_takes_31 : decode cX2_takes 31 = .ok (.iconst 1, 1) := by decide +kernel
theorem dX2_takes_32 : decode cX2_takes 32 = .ok (.iadd, 1) := by decide +kernel
theorem dX2_takes_33 : decode cX2_takes 33 = .ok (.putfield 20, 3) := by decide +kernel
theorem dX2_takes_36 : decode cX2_takes 36 = .ok (.iconst 1, 1) := by decide +kernel
theorem dX2_takes_37 : decode cX2_takes 37 = .ok (.ireturn, 1) := by decide +kernel
theorem dX2_readNumber_0 : decode cX2_readNumber 0 = .ok (.iconst (-1), 1) := by decide +kernel
theorem dX2_readNumber_1 : decode cX2_readNumber 1 = .ok (.istore_n 1, 1) := by decide +kernel
theorem dX2_readNumber_2 : decode cX2_readNumber 2 = .ok (.iconst 0, 1) := by decide +kernel
theorem dX2_readNumber_3 : decode cX2_readNumber 3 = .ok (.istore_n 2, 1) := by decide +kernel
theorem dX2_readNumber_4 : decode cX2_readNumber 4 = .ok (.iload_n 2, 1) := by decide +kernel
theorem dX2_readNumber_5 : decode cX2_readNumber 5 = .ok (.iconst 2, 1) := by decide +kernel
theorem dX2_readNumber_6 : decode cX2_readNumber 6 = .ok (.if_icmp .ge 82, 3) := by decide +kernel
theorem dX2_readNumber_9 : decode cX2_readNumber 9 = .ok (.aload_n 0, 1) := by decide +kernel
theorem dX2_readNumber_10 : decode cX2_readNumber 10 = .ok (.getfield 20, 3) := by decide +kernel
theorem dX2_readNumber_13 : decode cX2_readNumber 13 = .ok (.aload_n 0, 1) := by decide +kernel
theorem dX2_readNumber_14 : decode cX2_readNumber 14 = .ok (.getfield 28, 3) := by decide +kernel
theorem dX2_readNumber_17 : decode cX2_readNumber 17 = .ok (.if_icmp .ge 31, 3) := by decide +kernel
theorem dX2_readNumber_20 : decode cX2_readNumber 20 = .ok (.aload_n 0, 1) := by decide +kernel
theorem dX2_readNumber_21 : decode cX2_readNumber 21 = .ok (.getfield 9, 3) := by decide +kernel
theorem dX2_readNumber_24 : decode cX2_readNumber 24 = .ok (.aload_n 0, 1) := by decide +kernel
theorem dX2_readNumber_25 : decode cX2_readNumber 25 = .ok (.getfield 20, 3) := by decide +kernel
theorem dX2_readNumber_28 : decode cX2_readNumber 28 = .ok (.baload, 1) := by decide +kernel
theorem dX2_readNumber_29 : decode cX2_readNumber 29 = .ok (.bipush 48, 2) := by decide +kernel
theorem dX2_readNumber_31 : decode cX2_readNumber 31 = .ok (.if_icmp .lt 17, 3) := by decide +kernel
theorem dX2_readNumber_34 : decode cX2_readNumber 34 = .ok (.aload_n 0, 1) := by decide +kernel
theorem dX2_readNumber_35 : decode cX2_readNumber 35 = .ok (.getfield 9, 3) := by decide +kernel
theorem dX2_readNumber_38 : decode cX2_readNumber 38 = .ok (.aload_n 0, 1) := by decide +kernel
theorem dX2_readNumber_39 : decode cX2_readNumber 39 = .ok (.getfield 20, 3) := by decide +kernel
theorem dX2_readNumber_42 : decode cX2_readNumber 42 = .ok (.baload, 1) := by decide +kernel
theorem dX2_readNumber_43 : decode cX2_readNumber 43 = .ok (.bipush 57, 2) := by decide +kernel
theorem dX2_readNumber_45 : decode cX2_readNumber 45 = .ok (.if_icmp .le 5, 3) := by decide +kernel
theorem dX2_readNumber_48 : decode cX2_readNumber 48 = .ok (.iload_n 1, 1) := by decide +kernel
theorem dX2_readNumber_49 : decode cX2_readNumber 49 = .ok (.ireturn, 1) := by decide +kernel
theorem dX2_readNumber_50 : decode cX2_readNumber 50 = .ok (.iload_n 1, 1) := by decide +kernel
theorem dX2_readNumber_51 : decode cX2_readNumber 51 = .ok (.iconst 0, 1) := by decide +kernel
theorem dX2_readNumber_52 : decode cX2_readNumber 52 = .ok (.invokestatic 83, 3) := by decide +kernel
theorem dX2_readNumber_55 : decode cX2_readNumber 55 = .ok (.bipush 10, 2) := by decide +kernel
theorem dX2_readNumber_57 : decode cX2_readNumber 57 = .ok (.imul, 1) := by decide +kernel
theorem dX2_readNumber_58 : decode cX2_readNumber 58 = .ok (.aload_n 0, 1) := by decide +kernel
theorem dX2_readNumber_59 : decode cX2_readNumber 59 = .ok (.getfield 9, 3) := by decide +kernel
theorem dX2_readNumber_62 : decode cX2_readNumber 62 = .ok (.aload_n 0, 1) := by decide +kernel
theorem dX2_readNumber_63 : decode cX2_readNumber 63 = .ok (.getfield 20, 3) := by decide +kernel
theorem dX2_readNumber_66 : decode cX2_readNumber 66 = .ok (.baload, 1) := by decide +kernel
theorem dX2_readNumber_67 : decode cX2_readNumber 67 = .ok (.iadd, 1) := by decide +kernel
theorem dX2_readNumber_68 : decode cX2_readNumber 68 = .ok (.bipush 48, 2) := by decide +kernel
theorem dX2_readNumber_70 : decode cX2_readNumber 70 = .ok (.isub, 1) := by decide +kernel
theorem dX2_readNumber_71 : decode cX2_readNumber 71 = .ok (.istore_n 1, 1) := by decide +kernel
theorem dX2_readNumber_72 : decode cX2_readNumber 72 = .ok (.aload_n 0, 1) := by decide +kernel
theorem dX2_readNumber_73 : decode cX2_readNumber 73 = .ok (.dup, 1) := by decide +kernel
theorem dX2_readNumber_74 : decode cX2_readNumber 74 = .ok (.getfield 20, 3) := by decide +kernel
theorem dX2_readNumber_77 : decode cX2_readNumber 77 = .ok (.iconst 1, 1) := by decide +kernel
theorem dX2_readNumber_78 : decode cX2_readNumber 78 = .ok (.iadd, 1) := by decide +kernel
theorem dX2_readNumber_79 : decode cX2_readNumber 79 = .ok (.putfield 20, 3) := by decide +kernel
theorem dX2_readNumber_82 : decode cX2_readNumber 82 = .ok (.iinc 2 1, 3) := by decide +kernel
theorem dX2_readNumber_85 : decode cX2_readNumber 85 = .ok (.goto (-81), 3) := by decide +kernel
theorem dX2_readNumber_88 : decode cX2_readNumber 88 = .ok (.iload_n 1, 1) := by decide +kernel
theorem dX2_readNumber_89 : decode cX2_readNumber 89 = .ok (.ireturn, 1) := by decide +kernel
theorem dX2_readEither_0 : decode cX2_readEither 0 = .ok (.aload_n 0, 1) := by decide +kernel
theorem dX2_readEither_1 : decode cX2_readEither 1 = .ok (.aload_n 1, 1) := by decide +kernel
theorem dX2_readEither_2 : decode cX2_readEither 2 = .ok (.iload_n 2, 1) := by decide +kernel
theorem dX2_readEither_3 : decode cX2_readEither 3 = .ok (.invokevirtual 89, 3) := by decide +kernel
theorem dX2_readEither_6 : decode cX2_readEither 6 = .ok (.ifCond .ne 5, 3) := by decide +kernel
theorem dX2_readEither_9 : decode cX2_readEither 9 = .ok (.iconst 0, 1) := by decide +kernel
theorem dX2_readEither_10 : decode cX2_readEither 10 = .ok (.ireturn, 1) := by decide +kernel
theorem dX2_readEither_11 : decode cX2_readEither 11 = .ok (.iconst 0, 1) := by decide +kernel
theorem dX2_readEither_12 : decode cX2_readEither 12 = .ok (.istore_n 3, 1) := by decide +kernel
theorem dX2_readEither_13 : decode cX2_readEither 13 = .ok (.iload_n 3, 1) := by decide +kernel
theorem dX2_readEither_14 : decode cX2_readEither 14 = .ok (.bipush 100, 2) := by decide +kernel
theorem dX2_readEither_16 : decode cX2_readEither 16 = .ok (.if_icmp .ge 35, 3) := by decide +kernel
theorem dX2_readEither_19 : decode cX2_readEither 19 = .ok (.aload_n 0, 1) := by decide +kernel
theorem dX2_readEither_20 : decode cX2_readEither 20 = .ok (.bipush 124, 2) := by decide +kernel
theorem dX2_readEither_22 : decode cX2_readEither 22 = .ok (.invokevirtual 31, 3) := by decide +kernel
theorem dX2_readEither_25 : decode cX2_readEither 25 = .ok (.ifCond .eq 26, 3) := by decide +kernel
theorem dX2_readEither_28 : decode cX2_readEither 28 = .ok (.aload_n 0, 1) := by decide +kernel
theorem dX2_readEither_29 : decode cX2_readEither 29 = .ok (.aload_n 1, 1) := by decide +kernel
theorem dX2_readEither_30 : decode cX2_readEither 30 = .ok (.iload_n 2, 1) := by decide +kernel
theorem dX2_readEither_31 : decode cX2_readEither 31 = .ok (.invokevirtual 89, 3) := by decide +kernel
theorem dX2_readEither_34 : decode cX2_readEither 34 = .ok (.ifCond .ne 5, 3) := by decide +kernel
theorem dX2_readEither_37 : decode cX2_readEither 37 = .ok (.iconst 0, 1) := by decide +kernel
theorem dX2_readEither_38 : decode cX2_readEither 38 = .ok (.ireturn, 1) := by decide +kernel
theorem dX2_readEither_39 : decode cX2_readEither 39 = .ok (.aload_n 1, 1) := by decide +kernel
theorem dX2_readEither_40 : decode cX2_readEither 40 = .ok (.bipush (-3), 2) := by decide +kernel
theorem dX2_readEither_42 : decode cX2_readEither 42 = .ok (.invokevirtual 92, 3) := by decide +kernel
theorem dX2_readEither_45 : decode cX2_readEither 45 = .ok (.iinc 3 1, 3) := by decide +kernel
theorem dX2_readEither_48 : decode cX2_readEither 48 = .ok (.goto (-35), 3) := by decide +kernel
theorem dX2_readEither_51 : decode cX2_readEither 51 = .ok (.iconst 1, 1) := by decide +kernel
theorem dX2_readEither_52 : decode cX2_readEither 52 = .ok (.ireturn, 1) := by decide +kernel
theorem dX2_readBoth_0 : decode cX2_readBoth 0 = .ok (.aload_n 0, 1) := by decide +kernel
theorem dX2_readBoth_1 : decode cX2_readBoth 1 = .ok (.aload_n 1, 1) := by decide +kernel
theorem dX2_readBoth_2 : decode cX2_readBoth 2 = .ok (.iload_n 2, 1) := by decide +kernel
theorem dX2_readBoth_3 : decode cX2_readBoth 3 = .ok (.invokevirtual 95, 3) := by decide +kernel
theorem dX2_readBoth_6 : decode cX2_readBoth 6 = .ok (.ifCond .ne 5, 3) := by decide +kernel
theorem dX2_readBoth_9 : decode cX2_readBoth 9 = .ok (.iconst 0, 1) := by decide +kernel
theorem dX2_readBoth_10 : decode cX2_readBoth 10 = .ok (.ireturn, 1) := by decide +kernel
theorem dX2_readBoth_11 : decode cX2_readBoth 11 = .ok (.iconst 0, 1) := by decide +kernel
theorem dX2_readBoth_12 : decode cX2_readBoth 12 = .ok (.istore_n 3, 1) := by decide +kernel
theorem dX2_readBoth_13 : decode cX2_readBoth 13 = .ok (.iload_n 3, 1) := by decide +kernel
theorem dX2_readBoth_14 : decode cX2_readBoth 14 = .ok (.bipush 100, 2) := by decide +kernel
theorem dX2_readBoth_16 : decode cX2_readBoth 16 = .ok (.if_icmp .ge 35, 3) := by decide +kernel
theorem dX2_readBoth_19 : decode cX2_readBoth 19 = .ok (.aload_n 0, 1) := by decide +kernel
theorem dX2_readBoth_20 : decode cX2_readBoth 20 = .ok (.bipush 38, 2) := by decide +kernel
theorem dX2_readBoth_22 : decode cX2_readBoth 22 = .ok (.invokevirtual 31, 3) := by decide +kernel
theorem dX2_readBoth_25 : decode cX2_readBoth 25 = .ok (.ifCond .eq 26, 3) := by decide +kernel
theorem dX2_readBoth_28 : decode cX2_readBoth 28 = .ok (.aload_n 0, 1) := by decide +kernel
theorem dX2_readBoth_29 : decode cX2_readBoth 29 = .ok (.aload_n 1, 1) := by decide +kernel
theorem dX2_readBoth_30 : decode cX2_readBoth 30 = .ok (.iload_n 2, 1) := by decide +kernel
theorem dX2_readBoth_31 : decode cX2_readBoth 31 = .ok (.invokevirtual 95, 3) := by decide +kernel
theorem dX2_readBoth_34 : decode cX2_readBoth 34 = .ok (.ifCond .ne 5, 3) := by decide +kernel
theorem dX2_readBoth_37 : decode cX2_readBoth 37 = .ok (.iconst 0, 1) := by decide +kernel
theorem dX2_readBoth_38 : decode cX2_readBoth 38 = .ok (.ireturn, 1) := by decide +kernel
theorem dX2_readBoth_39 : decode cX2_readBoth 39 = .ok (.aload_n 1, 1) := by decide +kernel
theorem dX2_readBoth_40 : decode cX2_readBoth 40 = .ok (.bipush (-2), 2) := by decide +kernel
theorem dX2_readBoth_42 : decode cX2_readBoth 42 = .ok (.invokevirtual 92, 3) := by decide +kernel
theorem dX2_readBoth_45 : decode cX2_readBoth 45 = .ok (.iinc 3 1, 3) := by decide +kernel
theorem dX2_readBoth_48 : decode cX2_readBoth 48 = .ok (.goto (-35), 3) := by decide +kernel
theorem dX2_readBoth_51 : decode cX2_readBoth 51 = .ok (.iconst 1, 1) := by decide +kernel
theorem dX2_readBoth_52 : decode cX2_readBoth 52 = .ok (.ireturn, 1) := by decide +kernel
theorem dX2_readPart_0 : decode cX2_readPart 0 = .ok (.iload_n 2, 1) := by decide +kernel
theorem dX2_readPart_1 : decode cX2_readPart 1 = .ok (.iconst 4, 1) := by decide +kernel
theorem dX2_readPart_2 : decode cX2_readPart 2 = .ok (.if_icmp .ge 7, 3) := by decide +kernel
theorem dX2_readPart_5 : decode cX2_readPart 5 = .ok (.iconst 1, 1) := by decide +kernel
theorem dX2_readPart_6 : decode cX2_readPart 6 = .ok (.goto 4, 3) := by decide +kernel
theorem dX2_readPart_9 : decode cX2_readPart 9 = .ok (.iconst 0, 1) := by decide +kernel
theorem dX2_readPart_10 : decode cX2_readPart 10 = .ok (.istore_n 3, 1) := by decide +kernel
theorem dX2_readPart_11 : decode cX2_readPart 11 = .ok (.iload_n 3, 1) := by decide +kernel
theorem dX2_readPart_12 : decode cX2_readPart 12 = .ok (.ifCond .eq 38, 3) := by decide +kernel
theorem dX2_readPart_15 : decode cX2_readPart 15 = .ok (.aload_n 0, 1) := by decide +kernel
theorem dX2_readPart_16 : decode cX2_readPart 16 = .ok (.bipush 40, 2) := by decide +kernel
theorem dX2_readPart_18 : decode cX2_readPart 18 = .ok (.invokevirtual 31, 3) := by decide +kernel
theorem dX2_readPart_21 : decode cX2_readPart 21 = .ok (.ifCond .eq 29, 3) := by decide +kernel
theorem dX2_readPart_24 : decode cX2_readPart 24 = .ok (.aload_n 0, 1) := by decide +kernel
theorem dX2_readPart_25 : decode cX2_readPart 25 = .ok (.aload_n 1, 1) := by decide +kernel
theorem dX2_readPart_26 : decode cX2_readPart 26 = .ok (.iload_n 2, 1) := by decide +kernel
theorem dX2_readPart_27 : decode cX2_readPart 27 = .ok (.iconst 1, 1) := by decide +kernel
theorem dX2_readPart_28 : decode cX2_readPart 28 = .ok (.iadd, 1) := by decide +kernel
theorem dX2_readPart_29 : decode cX2_readPart 29 = .ok (.invokevirtual 53, 3) := by decide +kernel
theorem dX2_readPart_32 : decode cX2_readPart 32 = .ok (.ifCond .eq 16, 3) := by decide +kernel
theorem dX2_readPart_35 : decode cX2_readPart 35 = .ok (.aload_n 0, 1) := by decide +kernel
theorem dX2_readPart_36 : decode cX2_readPart 36 = .ok (.bipush 41, 2) := by decide +kernel
theorem dX2_readPart_38 : decode cX2_readPart 38 = .ok (.invokevirtual 31, 3) := by decide +kernel
theorem dX2_readPart_41 : decode cX2_readPart 41 = .ok (.ifCond .eq 7, 3) := by decide +kernel
theorem dX2_readPart_44 : decode cX2_readPart 44 = .ok (.iconst 1, 1) := by decide +kernel
theorem dX2_readPart_45 : decode cX2_readPart 45 = .ok (.goto 4, 3) := by decide +kernel
theorem dX2_readPart_48 : decode cX2_readPart 48 = .ok (.iconst 0, 1) := by decide +kernel
theorem dX2_readPart_49 : decode cX2_readPart 49 = .ok (.ireturn, 1) := by decide +kernel
theorem dX2_readPart_50 : decode cX2_readPart 50 = .ok (.iload_n 3, 1) := by decide +kernel
theorem dX2_readPart_51 : decode cX2_readPart 51 = .ok (.ifCond .eq 30, 3) := by decide +kernel
theorem dX2_readPart_54 : decode cX2_readPart 54 = .ok (.aload_n 0, 1) := by decide +kernel
theorem dX2_readPart_55 : decode cX2_readPart 55 = .ok (.bipush 33, 2) := by decide +kernel
theorem dX2_readPart_57 : decode cX2_readPart 57 = .ok (.invokevirtual 31, 3) := by decide +kernel
theorem dX2_readPart_60 : decode cX2_readPart 60 = .ok (.ifCond .eq 21, 3) := by decide +kernel
theorem dX2_readPart_63 : decode cX2_readPart 63 = .ok (.aload_n 0, 1) := by decide +kernel
theorem dX2_readPart_64 : decode cX2_readPart 64 = .ok (.aload_n 1, 1) := by decide +kernel
theorem dX2_readPart_65 : decode cX2_readPart 65 = .ok (.iload_n 2, 1) := by decide +kernel
theorem dX2_readPart_66 : decode cX2_readPart 66 = .ok (.iconst 1, 1) := by decide +kernel
theorem dX2_readPart_67 : decode cX2_readPart 67 = .ok (.iadd, 1) := by decide +kernel
theorem dX2_readPart_68 : decode cX2_readPart 68 = .ok (.invokevirtual 95, 3) := by decide +kernel
theorem dX2_readPart_71 : decode cX2_readPart 71 = .ok (.istore 4, 2) := by decide +kernel
theorem dX2_readPart_73 : decode cX2_readPart 73 = .ok (.aload_n 1, 1) := by decide +kernel
theorem dX2_readPart_74 : decode cX2_readPart 74 = .ok (.iconst (-1), 1) := by decide +kernel
theorem dX2_readPart_75 : decode cX2_readPart 75 = .ok (.invokevirtual 92, 3) := by decide +kernel
theorem dX2_readPart_78 : decode cX2_readPart 78 = .ok (.iload 4, 2) := by decide +kernel
theorem dX2_readPart_80 : decode cX2_readPart 80 = .ok (.ireturn, 1) := by decide +kernel
theorem dX2_readPart_81 : decode cX2_readPart 81 = .ok (.aload_n 0, 1) := by decide +kernel
theorem dX2_readPart_82 : decode cX2_readPart 82 = .ok (.ldc 98, 2) := by decide +kernel
theorem dX2_readPart_84 : decode cX2_readPart 84 = .ok (.invokevirtual 100, 3) := by decide +kernel
theorem dX2_readPart_87 : decode cX2_readPart 87 = .ok (.istore 4, 2) := by decide +kernel
theorem dX2_readPart_89 : decode cX2_readPart 89 = .ok (.iload 4, 2) := by decide +kernel
theorem dX2_readPart_91 : decode cX2_readPart 91 = .ok (.ifCond .ge 7, 3) := by decide +kernel
theorem dX2_readPart_94 : decode cX2_readPart 94 = .ok (.iconst (-1), 1) := by decide +kernel
theorem dX2_readPart_95 : decode cX2_readPart 95 = .ok (.goto 9, 3) := by decide +kernel
theorem dX2_readPart_98 : decode cX2_readPart 98 = .ok (.aload_n 0, 1) := by decide +kernel
theorem dX2_readPart_99 : decode cX2_readPart 99 = .ok (.ldc 104, 2) := by decide +kernel
theorem dX2_readPart_101 : decode cX2_readPart 101 = .ok (.invokevirtual 100, 3) := by decide +kernel
theorem dX2_readPart_104 : decode cX2_readPart 104 = .ok (.istore 5, 2) := by decide +kernel
theorem dX2_readPart_106 : decode cX2_readPart 106 = .ok (.iload 5, 2) := by decide +kernel
theorem dX2_readPart_108 : decode cX2_readPart 108 = .ok (.ifCond .ge 7, 3) := by decide +kernel
theorem dX2_readPart_111 : decode cX2_readPart 111 = .ok (.iconst (-1), 1) := by decide +kernel
theorem dX2_readPart_112 : decode cX2_readPart 112 = .ok (.goto 7, 3) := by decide +kernel
theorem dX2_readPart_115 : decode cX2_readPart 115 = .ok (.aload_n 0, 1) := by decide +kernel
theorem dX2_readPart_116 : decode cX2_readPart 116 = .ok (.invokevirtual 43, 3) := by decide +kernel
theorem dX2_readPart_119 : decode cX2_readPart 119 = .ok (.istore 6, 2) := by decide +kernel
theorem dX2_readPart_121 : decode cX2_readPart 121 = .ok (.iload 6, 2) := by decide +kernel
theorem dX2_readPart_123 : decode cX2_readPart 123 = .ok (.ifCond .ge 5, 3) := by decide +kernel
theorem dX2_readPart_126 : decode cX2_readPart 126 = .ok (.iconst 0, 1) := by decide +kernel
theorem dX2_readPart_127 : decode cX2_readPart 127 = .ok (.ireturn, 1) := by decide +kernel
theorem dX2_readPart_128 : decode cX2_readPart 128 = .ok (.aload_n 1, 1) := by decide +kernel
theorem dX2_readPart_129 : decode cX2_readPart 129 = .ok (.iload 4, 2) := by decide +kernel
theorem dX2_readPart_131 : decode cX2_readPart 131 = .ok (.iload 5, 2) := by decide +kernel
theorem dX2_readPart_133 : decode cX2_readPart 133 = .ok (.iload 6, 2) := by decide +kernel
theorem dX2_readPart_135 : decode cX2_readPart 135 = .ok (.invokevirtual 106, 3) := by decide +kernel
theorem dX2_readPart_138 : decode cX2_readPart 138 = .ok (.iconst 1, 1) := by decide +kernel
theorem dX2_readPart_139 : decode cX2_readPart 139 = .ok (.ireturn, 1) := by decide +kernel
theorem dX2_readOneOf_0 : decode cX2_readOneOf 0 = .ok (.aload_n 0, 1) := by decide +kernel
theorem dX2_readOneOf_1 : decode cX2_readOneOf 1 = .ok (.getfield 20, 3) := by decide +kernel
theorem dX2_readOneOf_4 : decode cX2_readOneOf 4 = .ok (.aload_n 0, 1) := by decide +kernel
theorem dX2_readOneOf_5 : decode cX2_readOneOf 5 = .ok (.getfield 28, 3) := by decide +kernel
theorem dX2_readOneOf_8 : decode cX2_readOneOf 8 = .ok (.if_icmp .ge 20, 3) := by decide +kernel
theorem dX2_readOneOf_11 : decode cX2_readOneOf 11 = .ok (.aload_n 1, 1) := by decide +kernel
theorem dX2_readOneOf_12 : decode cX2_readOneOf 12 = .ok (.aload_n 0, 1) := by decide +kernel
theorem dX2_readOneOf_13 : decode cX2_readOneOf 13 = .ok (.getfield 9, 3) := by decide +kernel
theorem dX2_readOneOf_16 : decode cX2_readOneOf 16 = .ok (.aload_n 0, 1) := by decide +kernel
theorem dX2_readOneOf_17 : decode cX2_readOneOf 17 = .ok (.getfield 20, 3) := by decide +kernel
theorem dX2_readOneOf_20 : decode cX2_readOneOf 20 = .ok (.baload, 1) := by decide +kernel
theorem dX2_readOneOf_21 : decode cX2_readOneOf 21 = .ok (.i2c, 1) := by decide +kernel
theorem dX2_readOneOf_22 : decode cX2_readOneOf 22 = .ok (.invokevirtual 110, 3) := by decide +kernel
theorem dX2_readOneOf_25 : decode cX2_readOneOf 25 = .ok (.goto 4, 3) := by decide +kernel
theorem dX2_readOneOf_28 : decode cX2_readOneOf 28 = .ok (.iconst (-1), 1) := by decide +kernel
theorem dX2_readOneOf_29 : decode cX2_readOneOf 29 = .ok (.istore_n 2, 1) := by decide +kernel
theorem dX2_readOneOf_30 : decode cX2_readOneOf 30 = .ok (.iload_n 2, 1) := by decide +kernel
theorem dX2_readOneOf_31 : decode cX2_readOneOf 31 = .ok (.ifCond .lt 13, 3) := by decide +kernel
theorem dX2_readOneOf_34 : decode cX2_readOneOf 34 = .ok (.aload_n 0, 1) := by decide +kernel
theorem dX2_readOneOf_35 : decode cX2_readOneOf 35 = .ok (.dup, 1) := by decide +kernel
theorem dX2_readOneOf_36 : decode cX2_readOneOf 36 = .ok (.getfield 20, 3) := by decide +kernel
theorem dX2_readOneOf_39 : decode cX2_readOneOf 39 = .ok (.iconst 1, 1) := by decide +kernel
theorem dX2_readOneOf_40 : decode cX2_readOneOf 40 = .ok (.iadd, 1) := by decide +kernel
theorem dX2_readOneOf_41 : decode cX2_readOneOf 41 = .ok (.putfield 20, 3) := by decide +kernel
theorem dX2_readOneOf_44 : decode cX2_readOneOf 44 = .ok (.iload_n 2, 1) := by decide +kernel
theorem dX2_readOneOf_45 : decode cX2_readOneOf 45 = .ok (.ireturn, 1) := by decide +kernel
theorem dX3_init_0 : decode cX3_init 0 = .ok (.aload_n 0, 1) := by decide +kernel
theorem dX3_init_1 : decode cX3_init 1 = .ok (.invokespecial 3, 3) := by decide +kernel
theorem dX3_init_4 : decode cX3_init 4 = .ok (.iload_n 1, 1) := by decide +kernel
theorem dX3_init_5 : decode cX3_init 5 = .ok (.iconst 0, 1) := by decide +kernel
theorem dX3_init_6 : decode cX3_init 6 = .ok (.invokestatic 9, 3) := by decide +kernel
theorem dX3_init_9 : decode cX3_init 9 = .ok (.istore_n 2, 1) := by decide +kernel
theorem dX3_init_10 : decode cX3_init 10 = .ok (.aload_n 0, 1) := by decide +kernel
theorem dX3_init_11 : decode cX3_init 11 = .ok (.iload_n 2, 1) := by decide +kernel
theorem dX3_init_12 : decode cX3_init 12 = .ok (.newarray .int, 2) := by decide +kernel
theorem dX3_init_14 : decode cX3_init 14 = .ok (.putfield 15, 3) := by decide +kernel
theorem dX3_init_17 : decode cX3_init 17 = .ok (.aload_n 0, 1) := by decide +kernel
theorem dX3_init_18 : decode cX3_init 18 = .ok (.iload_n 2, 1) := by decide +kernel
theorem dX3_init_19 : decode cX3_init 19 = .ok (.newarray .int, 2) := by decide +kernel
theorem dX3_init_21 : decode cX3_init 21 = .ok (.putfield 21, 3) := by decide +kernel
theorem dX3_init_24 : decode cX3_init 24 = .ok (.aload_n 0, 1) := by decide +kernel
theorem dX3_init_25 : decode cX3_init 25 = .ok (.iload_n 2, 1) := by decide +kernel
theorem dX3_init_26 : decode cX3_init 26 = .ok (.newarray .int, 2) := by decide +kernel
theorem dX3_init_28 : decode cX3_init 28 = .ok (.putfield 24, 3) := by decide +kernel
theorem dX3_init_31 : decode cX3_init 31 = .ok (.return_, 1) := by decide +kernel
theorem dX3_append_0 : decode cX3_append 0 = .ok (.aload_n 0, 1) := by decide +kernel
theorem dX3_append_1 : decode cX3_append 1 = .ok (.getfield 27, 3) := by decide +kernel
theorem dX3_append_4 : decode cX3_append 4 = .ok (.aload_n 0, 1) := by decide +kernel
theorem dX3_append_5 : decode cX3_append 5 = .ok (.getfield 15, 3) := by decide +kernel
theorem dX3_append_8 : decode cX3_append 8 = .ok (.arraylength, 1) := by decide +kernel
theorem dX3_append_9 : decode cX3_append 9 = .ok (.if_icmp .lt 6, 3) := by decide +kernel
theorem dX3_append_12 : decode cX3_append 12 = .ok (.bipush (-4), 2) := by decide +kernel
theorem dX3_append_14 : decode cX3_append 14 = .ok (.ireturn, 1) := by decide +kernel
theorem dX3_append_15 : decode cX3_append 15 = .ok (.aload_n 0, 1) := by decide +kernel
theorem dX3_append_16 : decode cX3_append 16 = .ok (.getfield 15, 3) := by decide +kernel
theorem dX3_append_19 : decode cX3_append 19 = .ok (.aload_n 0, 1) := by decide +kernel
theorem dX3_append_20 : decode cX3_append 20 = .ok (.getfield 27, 3) := by decide +kernel
theorem dX3_append_23 : decode cX3_append 23 = .ok (.iload_n 1, 1) := by decide +kernel
theorem dX3_append_24 : decode cX3_append 24 = .ok (.iastore, 1) := by decide +kernel
theorem dX3_append_25 : decode cX3_append 25 = .ok (.aload_n 0, 1) := by decide +kernel
theorem dX3_append_26 : decode cX3_append 26 = .ok (.getfield 21, 3) := by decide +kernel
theorem dX3_append_29 : decode cX3_append 29 = .ok (.aload_n 0, 1) := by decide +kernel
theorem dX3_append_30 : decode cX3_append 30 = .ok (.getfield 27, 3) := by decide +kernel
theorem dX3_append_33 : decode cX3_append 33 = .ok (.iload_n 2, 1) := by decide +kernel
theorem dX3_append_34 : decode cX3_append 34 = .ok (.iastore, 1) := by decide +kernel
theorem dX3_append_35 : decode cX3_append 35 = .ok (.aload_n 0, 1) := by decide +kernel
theorem dX3_append_36 : decode cX3_append 36 = .ok (.getfield 24, 3) := by decide +kernel
theorem dX3_append_39 : decode cX3_append 39 = .ok (.aload_n 0, 1) := by decide +kernel
theorem dX3_append_40 : decode cX3_append 40 = .ok (.getfield 27, 3) := by decide +kernel
theorem dX3_append_43 : decode cX3_append 43 = .ok (.iload_n 3, 1) := by decide +kernel
theorem dX3_append_44 : decode cX3_append 44 = .ok (.iastore, 1) := by decide +kernel
theorem dX3_append_45 : decode cX3_append 45 = .ok (.aload_n 0, 1) := by decide +kernel
theorem dX3_append_46 : decode cX3_append 46 = .ok (.dup, 1) := by decide +kernel
theorem dX3_append_47 : decode cX3_append 47 = .ok (.getfield 27, 3) := by decide +kernel
theorem dX3_append_50 : decode cX3_append 50 = .ok (.iconst 1, 1) := by decide +kernel
theorem dX3_append_51 : decode cX3_append 51 = .ok (.iadd, 1) := by decide +kernel
theorem dX3_append_52 : decode cX3_append 52 = .ok (.putfield 27, 3) := by decide +kernel
theorem dX3_append_55 : decode cX3_append 55 = .ok (.aload_n 0, 1) := by decide +kernel
theorem dX3_append_56 : decode cX3_append 56 = .ok (.getfield 27, 3) := by decide +kernel
theorem dX3_append_59 : decode cX3_append 59 = .ok (.ireturn, 1) := by decide +kernel
theorem dX3_empty_0 : decode cX3_empty 0 = .ok (.aload_n 0, 1) := by decide +kernel
theorem dX3_empty_1 : decode cX3_empty 1 = .ok (.iconst 0, 1) := by decide +kernel
theorem dX3_empty_2 : decode cX3_empty 2 = .ok (.putfield 27, 3) := by decide +kernel
theorem dX3_empty_5 : decode cX3_empty 5 = .ok (.aload_n 0, 1) := by decide +kernel
theorem dX3_empty_6 : decode cX3_empty 6 = .ok (.getfield 27, 3) := by decide +kernel
theorem dX3_empty_9 : decode cX3_empty 9 = .ok (.ireturn, 1) := by decide +kernel
theorem dX3_copyFrom_0 : decode cX3_copyFrom 0 = .ok (.aload_n 0, 1) := by decide +kernel
theorem dX3_copyFrom_1 : decode cX3_copyFrom 1 = .ok (.iconst 0, 1) := by decide +kernel
theorem dX3_copyFrom_2 : decode cX3_copyFrom 2 = .ok (.putfield 27, 3) := by decide +kernel
theorem dX3_copyFrom_5 : decode cX3_copyFrom 5 = .ok (.iconst 0, 1) := by decide +kernel
theorem dX3_copyFrom_6 : decode cX3_copyFrom 6 = .ok (.istore_n 2, 1) := by decide +kernel
theorem dX3_copyFrom_7 : decode cX3_copyFrom 7 = .ok (.iload_n 2, 1) := by decide +kernel
theorem dX3_copyFrom_8 : decode cX3_copyFrom 8 = .ok (.aload_n 1, 1) := by decide +kernel
theorem dX3_copyFrom_9 : decode cX3_copyFrom 9 = .ok (.getfield 27, 3) := by decide +kernel
theorem dX3_copyFrom_12 : decode cX3_copyFrom 12 = .ok (.if_icmp .ge 32, 3) := by decide +kernel
theorem dX3_copyFrom_15 : decode cX3_copyFrom 15 = .ok (.aload_n 0, 1) := by decide +kernel
theorem dX3_copyFrom_16 : decode cX3_copyFrom 16 = .ok (.aload_n 1, 1) := by decide +kernel
theorem dX3_copyFrom_17 : decode cX3_copyFrom 17 = .ok (.getfield 15, 3) := by decide +kernel
theorem dX3_copyFrom_20 : decode cX3_copyFrom 20 = .ok (.iload_n 2, 1) := by decide +kernel
theorem dX3_copyFrom_21 : decode cX3_copyFrom 21 = .ok (.iaload, 1) := by decide +kernel
theorem dX3_copyFrom_22 : decode cX3_copyFrom 22 = .ok (.aload_n 1, 1) := by decide +kernel
theorem dX3_copyFrom_23 : decode cX3_copyFrom 23 = .ok (.getfield 21, 3) := by decide +kernel
theorem dX3_copyFrom_26 : decode cX3_copyFrom 26 = .ok (.iload_n 2, 1) := by decide +kernel
theorem dX3_copyFrom_27 : decode cX3_copyFrom 27 = .ok (.iaload, 1) := by decide +kernel
theorem dX3_copyFrom_28 : decode cX3_copyFrom 28 = .ok (.aload_n 1, 1) := by decide +kernel
theorem dX3_copyFrom_29 : decode cX3_copyFrom 29 = .ok (.getfield 24, 3) := by decide +kernel
theorem dX3_copyFrom_32 : decode cX3_copyFrom 32 = .ok (.iload_n 2, 1) := by decide +kernel
theorem dX3_copyFrom_33 : decode cX3_copyFrom 33 = .ok (.iaload, 1) := by decide +kernel
theorem dX3_copyFrom_34 : decode cX3_copyFrom 34 = .ok (.invokevirtual 31, 3) := by decide +kernel
theorem dX3_copyFrom_37 : decode cX3_copyFrom 37 = .ok (.pop, 1) := by decide +kernel
theorem dX3_copyFrom_38 : decode cX3_copyFrom 38 = .ok (.iinc 2 1, 3) := by decide +kernel
theorem dX3_copyFrom_41 : decode cX3_copyFrom 41 = .ok (.goto (-34), 3) := by decide +kernel
theorem dX3_copyFrom_44 : decode cX3_copyFrom 44 = .ok (.return_, 1) := by decide +kernel
theorem dX4_init_0 : decode cX4_init 0 = .ok (.aload_n 0, 1) := by decide +kernel
theorem dX4_init_1 : decode cX4_init 1 = .ok (.invokespecial 3, 3) := by decide +kernel
theorem dX4_init_4 : decode cX4_init 4 = .ok (.aload_n 0, 1) := by decide +kernel
theorem dX4_init_5 : decode cX4_init 5 = .ok (.new 9, 3) := by decide +kernel
theorem dX4_init_8 : decode cX4_init 8 = .ok (.dup, 1) := by decide +kernel
theorem dX4_init_9 : decode cX4_init 9 = .ok (.invokespecial 11, 3) := by decide +kernel
theorem dX4_init_12 : decode cX4_init 12 = .ok (.putfield 12, 3) := by decide +kernel
theorem dX4_init_15 : decode cX4_init 15 = .ok (.aload_n 0, 1) := by decide +kernel
theorem dX4_init_16 : decode cX4_init 16 = .ok (.new 18, 3) := by decide +kernel
theorem dX4_init_19 : decode cX4_init 19 = .ok (.dup, 1) := by decide +kernel
theorem dX4_init_20 : decode cX4_init 20 = .ok (.iconst 5, 1) := by decide +kernel
theorem dX4_init_21 : decode cX4_init 21 = .ok (.invokespecial 20, 3) := by decide +kernel
theorem dX4_init_24 : decode cX4_init 24 = .ok (.putfield 23, 3) := by decide +kernel
theorem dX4_init_27 : decode cX4_init 27 = .ok (.aload_n 0, 1) := by decide +kernel
theorem dX4_init_28 : decode cX4_init 28 = .ok (.new 18, 3) := by decide +kernel
theorem dX4_init_31 : decode cX4_init 31 = .ok (.dup, 1) := by decide +kernel
theorem dX4_init_32 : decode cX4_init 32 = .ok (.bipush 10, 2) := by decide +kernel
theorem dX4_init_34 : decode cX4_init 34 = .ok (.invokespecial 20, 3) := by decide +kernel
theorem dX4_init_37 : decode cX4_init 37 = .ok (.putfield 27, 3) := by decide +kernel
theorem dX4_init_40 : decode cX4_init 40 = .ok (.aload_n 0, 1) := by decide +kernel
theorem dX4_init_41 : decode cX4_init 41 = .ok (.new 18, 3) := by decide +kernel
theorem dX4_init_44 : decode cX4_init 44 = .ok (.dup, 1) := by decide +kernel
theorem dX4_init_45 : decode cX4_init 45 = .ok (.bipush 8, 2) := by decide +kernel
theorem dX4_init_47 : decode cX4_init 47 = .ok (.invokespecial 20, 3) := by decide +kernel
theorem dX4_init_50 : decode cX4_init 50 = .ok (.putfield 30, 3) := by decide +kernel
theorem dX4_init_53 : decode cX4_init 53 = .ok (.return_, 1) := by decide +kernel
theorem dX4_copyFrom_0 : decode cX4_copyFrom 0 = .ok (.aload_n 0, 1) := by decide +kernel
theorem dX4_copyFrom_1 : decode cX4_copyFrom 1 = .ok (.getfield 12, 3) := by decide +kernel
theorem dX4_copyFrom_4 : decode cX4_copyFrom 4 = .ok (.aload_n 1, 1) := by decide +kernel
theorem dX4_copyFrom_5 : decode cX4_copyFrom 5 = .ok (.getfield 12, 3) := by decide +kernel
theorem dX4_copyFrom_8 : decode cX4_copyFrom 8 = .ok (.invokevirtual 33, 3) := by decide +kernel
theorem dX4_copyFrom_11 : decode cX4_copyFrom 11 = .ok (.aload_n 0, 1) := by decide +kernel
theorem dX4_copyFrom_12 : decode cX4_copyFrom 12 = .ok (.getfield 23, 3) := by decide +kernel
theorem dX4_copyFrom_15 : decode cX4_copyFrom 15 = .ok (.aload_n 1, 1) := by decide +kernel
theorem dX4_copyFrom_16 : decode cX4_copyFrom 16 = .ok (.getfield 23, 3) := by decide +kernel
theorem dX4_copyFrom_19 : decode cX4_copyFrom 19 = .ok (.invokevirtual 37, 3) := by decide +kernel
theorem dX4_copyFrom_22 : decode cX4_copyFrom 22 = .ok (.aload_n 0, 1) := by decide +kernel
theorem dX4_copyFrom_23 : decode cX4_copyFrom 23 = .ok (.getfield 27, 3) := by decide +kernel
theorem dX4_copyFrom_26 : decode cX4_copyFrom 26 = .ok (.aload_n 1, 1) := by decide +kernel
theorem dX4_copyFrom_27 : decode cX4_copyFrom 27 = .ok (.getfield 27, 3) := by decide +kernel
theorem dX4_copyFrom_30 : decode cX4_copyFrom 30 = .ok (.invokevirtual 37, 3) := by decide +kernel
theorem dX4_copyFrom_33 : decode cX4_copyFrom 33 = .ok (.aload_n 0, 1) := by decide +kernel
theorem dX4_copyFrom_34 : decode cX4_copyFrom 34 = .ok (.getfield 30, 3) := by decide +kernel
theorem dX4_copyFrom_37 : decode cX4_copyFrom 37 = .ok (.aload_n 1, 1) := by decide +kernel
theorem dX4_copyFrom_38 : decode cX4_copyFrom 38 = .ok (.getfield 30, 3) := by decide +kernel
theorem dX4_copyFrom_41 : decode cX4_copyFrom 41 = .ok (.invokevirtual 37, 3) := by decide +kernel
theorem dX4_copyFrom_44 : decode cX4_copyFrom 44 = .ok (.return_, 1) := by decide +kernel
theorem dX5_init_0 : decode cX5_init 0 = .ok (.aload_n 0, 1) := by decide +kernel
theorem dX5_init_1 : decode cX5_init 1 = .ok (.invokespecial 3, 3) := by decide +kernel
theorem dX5_init_4 : decode cX5_init 4 = .ok (.aload_n 0, 1) := by decide +kernel
theorem dX5_init_5 : decode cX5_init 5 = .ok (.iconst (-1), 1) := by decide +kernel
theorem dX5_init_6 : decode cX5_init 6 = .ok (.putfield 9, 3) := by decide +kernel
theorem dX5_init_9 : decode cX5_init 9 = .ok (.aload_n 0, 1) := by decide +kernel
theorem dX5_init_10 : decode cX5_init 10 = .ok (.bipush 60, 2) := by decide +kernel
theorem dX5_init_12 : decode cX5_init 12 = .ok (.newarray .long, 2) := by decide +kernel
theorem dX5_init_14 : decode cX5_init 14 = .ok (.putfield 15, 3) := by decide +kernel
theorem dX5_init_17 : decode cX5_init 17 = .ok (.return_, 1) := by decide +kernel
theorem dX5_becomes_0 : decode cX5_becomes 0 = .ok (.aload_n 0, 1) := by decide +kernel
theorem dX5_becomes_1 : decode cX5_becomes 1 = .ok (.iload_n 1, 1) := by decide +kernel
theorem dX5_becomes_2 : decode cX5_becomes 2 = .ok (.putfield 9, 3) := by decide +kernel
theorem dX5_becomes_5 : decode cX5_becomes 5 = .ok (.aload_n 0, 1) := by decide +kernel
theorem dX5_becomes_6 : decode cX5_becomes 6 = .ok (.iload_n 2, 1) := by decide +kernel
theorem dX5_becomes_7 : decode cX5_becomes 7 = .ok (.putfield 19, 3) := by decide +kernel
theorem dX5_becomes_10 : decode cX5_becomes 10 = .ok (.iconst 0, 1) := by decide +kernel
theorem dX5_becomes_11 : decode cX5_becomes 11 = .ok (.istore_n 3, 1) := by decide +kernel
theorem dX5_becomes_12 : decode cX5_becomes 12 = .ok (.iload_n 3, 1) := by decide +kernel
theorem dX5_becomes_13 : decode cX5_becomes 13 = .ok (.bipush 60, 2) := by decide +kernel
theorem dX5_becomes_15 : decode cX5_becomes 15 = .ok (.if_icmp .ge 16, 3) := by decide +kernel
theorem dX5_becomes_18 : decode cX5_becomes 18 = .ok (.aload_n 0, 1) := by decide +kernel
theorem dX5_becomes_19 : decode cX5_becomes 19 = .ok (.getfield 15, 3) := by decide +kernel
theorem dX5_becomes_22 : decode cX5_becomes 22 = .ok (.iload_n 3, 1) := by decide +kernel
theorem dX5_becomes_23 : decode cX5_becomes 23 = .ok (.lconst 0, 1) := by decide +kernel
theorem dX5_becomes_24 : decode cX5_becomes 24 = .ok (.lastore, 1) := by decide +kernel
theorem dX5_becomes_25 : decode cX5_becomes 25 = .ok (.iinc 3 1, 3) := by decide +kernel
theorem dX5_becomes_28 : decode cX5_becomes 28 = .ok (.goto (-16), 3) := by decide +kernel
theorem dX5_becomes_31 : decode cX5_becomes 31 = .ok (.return_, 1) := by decide +kernel
theorem dX5_cut_0 : decode cX5_cut 0 = .ok (.aload_n 0, 1) := by decide +kernel
theorem dX5_cut_1 : decode cX5_cut 1 = .ok (.getfield 9, 3) := by decide +kernel
theorem dX5_cut_4 : decode cX5_cut 4 = .ok (.tableswitch 62 0 4 #[36, 41, 46, 62, 50], 36) := by decide +kernel
theorem dX5_cut_40 : decode cX5_cut 40 = .ok (.lload_n 1, 1) := by decide +kernel
theorem dX5_cut_41 : decode cX5_cut 41 = .ok (.l2i, 1) := by decide +kernel
theorem dX5_cut_42 : decode cX5_cut 42 = .ok (.i2b, 1) := by decide +kernel
theorem dX5_cut_43 : decode cX5_cut 43 = .ok (.i2l, 1) := by decide +kernel
theorem dX5_cut_44 : decode cX5_cut 44 = .ok (.lreturn, 1) := by decide +kernel
theorem dX5_cut_45 : decode cX5_cut 45 = .ok (.lload_n 1, 1) := by decide +kernel
theorem dX5_cut_46 : decode cX5_cut 46 = .ok (.l2i, 1) := by decide +kernel
theorem dX5_cut_47 : decode cX5_cut 47 = .ok (.i2s, 1) := by decide +kernel
theorem dX5_cut_48 : decode cX5_cut 48 = .ok (.i2l, 1) := by decide +kernel
theorem dX5_cut_49 : decode cX5_cut 49 = .ok (.lreturn, 1) := by decide +kernel
theorem dX5_cut_50 : decode cX5_cut 50 = .ok (.lload_n 1, 1) := by decide +kernel
theorem dX5_cut_51 : decode cX5_cut 51 = .ok (.l2i, 1) := by decide +kernel
theorem dX5_cut_52 : decode cX5_cut 52 = .ok (.i2l, 1) := by decide +kernel
theorem dX5_cut_53 : decode cX5_cut 53 = .ok (.lreturn, 1) := by decide +kernel
theorem dX5_cut_54 : decode cX5_cut 54 = .ok (.lload_n 1, 1) := by decide +kernel
theorem dX5_cut_55 : decode cX5_cut 55 = .ok (.lconst 0, 1) := by decide +kernel
theorem dX5_cut_56 : decode cX5_cut 56 = .ok (.lcmp, 1) := by decide +kernel
theorem dX5_cut_57 : decode cX5_cut 57 = .ok (.ifCond .eq 7, 3) := by decide +kernel
theorem dX5_cut_60 : decode cX5_cut 60 = .ok (.lconst 1, 1) := by decide +kernel
theorem dX5_cut_61 : decode cX5_cut 61 = .ok (.goto 4, 3) := by decide +kernel
theorem dX5_cut_64 : decode cX5_cut 64 = .ok (.lconst 0, 1) := by decide +kernel
theorem dX5_cut_65 : decode cX5_cut 65 = .ok (.lreturn, 1) := by decide +kernel
theorem dX5_cut_66 : decode cX5_cut 66 = .ok (.lload_n 1, 1) := by decide +kernel
theorem dX5_cut_67 : decode cX5_cut 67 = .ok (.lreturn, 1) := by decide +kernel
theorem dX6_init_0 : decode cX6_init 0 = .ok (.aload_n 0, 1) := by decide +kernel
theorem dX6_init_1 : decode cX6_init 1 = .ok (.invokespecial 3, 3) := by decide +kernel
theorem dX6_init_4 : decode cX6_init 4 = .ok (.aload_n 0, 1) := by decide +kernel
theorem dX6_init_5 : decode cX6_init 5 = .ok (.bipush 6, 2) := by decide +kernel
theorem dX6_init_7 : decode cX6_init 7 = .ok (.newarray .int, 2) := by decide +kernel
theorem dX6_init_9 : decode cX6_init 9 = .ok (.putfield 9, 3) := by decide +kernel
theorem dX6_init_12 : decode cX6_init 12 = .ok (.aload_n 0, 1) := by decide +kernel
theorem dX6_init_13 : decode cX6_init 13 = .ok (.bipush 6, 2) := by decide +kernel
theorem dX6_init_15 : decode cX6_init 15 = .ok (.newarray .int, 2) := by decide +kernel
theorem dX6_init_17 : decode cX6_init 17 = .ok (.putfield 15, 3) := by decide +kernel
theorem dX6_init_20 : decode cX6_init 20 = .ok (.aload_n 0, 1) := by decide +kernel
theorem dX6_init_21 : decode cX6_init 21 = .ok (.bipush 6, 2) := by decide +kernel
theorem dX6_init_23 : decode cX6_init 23 = .ok (.newarray .int, 2) := by decide +kernel
theorem dX6_init_25 : decode cX6_init 25 = .ok (.putfield 18, 3) := by decide +kernel
theorem dX6_init_28 : decode cX6_init 28 = .ok (.aload_n 0, 1) := by decide +kernel
theorem dX6_init_29 : decode cX6_init 29 = .ok (.bipush 24, 2) := by decide +kernel
theorem dX6_init_31 : decode cX6_init 31 = .ok (.newarray .int, 2) := by decide +kernel
theorem dX6_init_33 : decode cX6_init 33 = .ok (.putfield 21, 3) := by decide +kernel
theorem dX6_init_36 : decode cX6_init 36 = .ok (.aload_n 0, 1) := by decide +kernel
theorem dX6_init_37 : decode cX6_init 37 = .ok (.bipush 6, 2) := by decide +kernel
theorem dX6_init_39 : decode cX6_init 39 = .ok (.newarray .int, 2) := by decide +kernel
theorem dX6_init_41 : decode cX6_init 41 = .ok (.putfield 24, 3) := by decide +kernel
theorem dX6_init_44 : decode cX6_init 44 = .ok (.aload_n 0, 1) := by decide +kernel
theorem dX6_init_45 : decode cX6_init 45 = .ok (.bipush 6, 2) := by decide +kernel
theorem dX6_init_47 : decode cX6_init 47 = .ok (.newarray .int, 2) := by decide +kernel
theorem dX6_init_49 : decode cX6_init 49 = .ok (.putfield 29, 3) := by decide +kernel
theorem dX6_init_52 : decode cX6_init 52 = .ok (.aload_n 0, 1) := by decide +kernel
theorem dX6_init_53 : decode cX6_init 53 = .ok (.bipush 6, 2) := by decide +kernel
theorem dX6_init_55 : decode cX6_init 55 = .ok (.newarray .int, 2) := by decide +kernel
theorem dX6_init_57 : decode cX6_init 57 = .ok (.putfield 32, 3) := by decide +kernel
theorem dX6_init_60 : decode cX6_init 60 = .ok (.return_, 1) := by decide +kernel
theorem dX6_copyFrom_0 : decode cX6_copyFrom 0 = .ok (.aload_n 0, 1) := by decide +kernel
theorem dX6_copyFrom_1 : decode cX6_copyFrom 1 = .ok (.aload_n 1, 1) := by decide +kernel
theorem dX6_copyFrom_2 : decode cX6_copyFrom 2 = .ok (.getfield 35, 3) := by decide +kernel
theorem dX6_copyFrom_5 : decode cX6_copyFrom 5 = .ok (.putfield 35, 3) := by decide +kernel
theorem dX6_copyFrom_8 : decode cX6_copyFrom 8 = .ok (.aload_n 0, 1) := by decide +kernel
theorem dX6_copyFrom_9 : decode cX6_copyFrom 9 = .ok (.aload_n 1, 1) := by decide +kernel
theorem dX6_copyFrom_10 : decode cX6_copyFrom 10 = .ok (.getfield 39, 3) := by decide +kernel
theorem dX6_copyFrom_13 : decode cX6_copyFrom 13 = .ok (.putfield 39, 3) := by decide +kernel
theorem dX6_copyFrom_16 : decode cX6_copyFrom 16 = .ok (.aload_n 0, 1) := by decide +kernel
theorem dX6_copyFrom_17 : decode cX6_copyFrom 17 = .ok (.aload_n 1, 1) := by decide +kernel
theorem dX6_copyFrom_18 : decode cX6_copyFrom 18 = .ok (.getfield 42, 3) := by decide +kernel
theorem dX6_copyFrom_21 : decode cX6_copyFrom 21 = .ok (.putfield 42, 3) := by decide +kernel
theorem dX6_copyFrom_24 : decode cX6_copyFrom 24 = .ok (.aload_n 0, 1) := by decide +kernel
theorem dX6_copyFrom_25 : decode cX6_copyFrom 25 = .ok (.aload_n 1, 1) := by decide +kernel
theorem dX6_copyFrom_26 : decode cX6_copyFrom 26 = .ok (.getfield 45, 3) := by decide +kernel
theorem dX6_copyFrom_29 : decode cX6_copyFrom 29 = .ok (.putfield 45, 3) := by decide +kernel
theorem dX6_copyFrom_32 : decode cX6_copyFrom 32 = .ok (.aload_n 0, 1) := by decide +kernel
theorem dX6_copyFrom_33 : decode cX6_copyFrom 33 = .ok (.aload_n 1, 1) := by decide +kernel
theorem dX6_copyFrom_34 : decode cX6_copyFrom 34 = .ok (.getfield 48, 3) := by decide +kernel
theorem dX6_copyFrom_37 : decode cX6_copyFrom 37 = .ok (.putfield 48, 3) := by decide +kernel
theorem dX6_copyFrom_40 : decode cX6_copyFrom 40 = .ok (.aload_n 0, 1) := by decide +kernel
theorem dX6_copyFrom_41 : decode cX6_copyFrom 41 = .ok (.aload_n 1, 1) := by decide +kernel
theorem dX6_copyFrom_42 : decode cX6_copyFrom 42 = .ok (.getfield 51, 3) := by decide +kernel
theorem dX6_copyFrom_45 : decode cX6_copyFrom 45 = .ok (.putfield 51, 3) := by decide +kernel
theorem dX6_copyFrom_48 : decode cX6_copyFrom 48 = .ok (.aload_n 1, 1) := by decide +kernel
theorem dX6_copyFrom_49 : decode cX6_copyFrom 49 = .ok (.getfield 9, 3) := by decide +kernel
theorem dX6_copyFrom_52 : decode cX6_copyFrom 52 = .ok (.iconst 0, 1) := by decide +kernel
theorem dX6_copyFrom_53 : decode cX6_copyFrom 53 = .ok (.aload_n 0, 1) := by decide +kernel
theorem dX6_copyFrom_54 : decode cX6_copyFrom 54 = .ok (.getfield 9, 3) := by decide +kernel
theorem dX6_copyFrom_57 : decode cX6_copyFrom 57 = .ok (.iconst 0, 1) := by decide +kernel
theorem dX6_copyFrom_58 : decode cX6_copyFrom 58 = .ok (.bipush 6, 2) := by decide +kernel
theorem dX6_copyFrom_60 : decode cX6_copyFrom 60 = .ok (.invokestatic 55, 3) := by decide +kernel
theorem dX6_copyFrom_63 : decode cX6_copyFrom 63 = .ok (.aload_n 1, 1) := by decide +kernel
theorem dX6_copyFrom_64 : decode cX6_copyFrom 64 = .ok (.getfield 15, 3) := by decide +kernel
theorem dX6_copyFrom_67 : decode cX6_copyFrom 67 = .ok (.iconst 0, 1) := by decide +kernel
theorem dX6_copyFrom_68 : decode cX6_copyFrom 68 = .ok (.aload_n 0, 1) := by decide +kernel
theorem dX6_copyFrom_69 : decode cX6_copyFrom 69 = .ok (.getfield 15, 3) := by decide +kernel
theorem dX6_copyFrom_72 : decode cX6_copyFrom 72 = .ok (.iconst 0, 1) := by decide +kernel
theorem dX6_copyFrom_73 : decode cX6_copyFrom 73 = .ok (.bipush 6, 2) := by decide +kernel
theorem dX6_copyFrom_75 : decode cX6_copyFrom 75 = .ok (.invokestatic 55, 3) := by decide +kernel
theorem dX6_copyFrom_78 : decode cX6_copyFrom 78 = .ok (.aload_n 1, 1) := by decide +kernel
theorem dX6_copyFrom_79 : decode cX6_copyFrom 79 = .ok (.getfield 18, 3) := by decide +kernel
theorem dX6_copyFrom_82 : decode cX6_copyFrom 82 = .ok (.iconst 0, 1) := by decide +kernel
theorem dX6_copyFrom_83 : decode cX6_copyFrom 83 = .ok (.aload_n 0, 1) := by decide +kernel
theorem dX6_copyFrom_84 : decode cX6_copyFrom 84 = .ok (.getfield 18, 3) := by decide +kernel
theorem dX6_copyFrom_87 : decode cX6_copyFrom 87 = .ok (.iconst 0, 1) := by decide +kernel
theorem dX6_copyFrom_88 : decode cX6_copyFrom 88 = .ok (.bipush 6, 2) := by decide +kernel
theorem dX6_copyFrom_90 : decode cX6_copyFrom 90 = .ok (.invokestatic 55, 3) := by decide +kernel
theorem dX6_copyFrom_93 : decode cX6_copyFrom 93 = .ok (.aload_n 1, 1) := by decide +kernel
theorem dX6_copyFrom_94 : decode cX6_copyFrom 94 = .ok (.getfield 21, 3) := by decide +kernel
theorem dX6_copyFrom_97 : decode cX6_copyFrom 97 = .ok (.iconst 0, 1) := by decide +kernel
theorem dX6_copyFrom_98 : decode cX6_copyFrom 98 = .ok (.aload_n 0, 1) := by decide +kernel
theorem dX6_copyFrom_99 : decode cX6_copyFrom 99 = .ok (.getfield 21, 3) := by decide +kernel
theorem dX6_copyFrom_102 : decode cX6_copyFrom 102 = .ok (.iconst 0, 1) := by decide +kernel
theorem dX6_copyFrom_103 : decode cX6_copyFrom 103 = .ok (.bipush 24, 2) := by decide +kernel
theorem dX6_copyFrom_105 : decode cX6_copyFrom 105 = .ok (.invokestatic 55, 3) := by decide +kernel
theorem dX6_copyFrom_108 : decode cX6_copyFrom 108 = .ok (.aload_n 1, 1) := by decide +kernel
theorem dX6_copyFrom_109 : decode cX6_copyFrom 109 = .ok (.getfield 24, 3) := by decide +kernel
theorem dX6_copyFrom_112 : decode cX6_copyFrom 112 = .ok (.iconst 0, 1) := by decide +kernel
theorem dX6_copyFrom_113 : decode cX6_copyFrom 113 = .ok (.aload_n 0, 1) := by decide +kernel
theorem dX6_copyFrom_114 : decode cX6_copyFrom 114 = .ok (.getfield 24, 3) := by decide +kernel
theorem dX6_copyFrom_117 : decode cX6_copyFrom 117 = .ok (.iconst 0, 1) := by decide +kernel
theorem dX6_copyFrom_118 : decode cX6_copyFrom 118 = .ok (.bipush 6, 2) := by decide +kernel
theorem dX6_copyFrom_120 : decode cX6_copyFrom 120 = .ok (.invokestatic 55, 3) := by decide +kernel
theorem dX6_copyFrom_123 : decode cX6_copyFrom 123 = .ok (.return_, 1) := by decide +kernel
theorem dX6_addPerson_0 : decode cX6_addPerson 0 = .ok (.aload_n 0, 1) := by decide +kernel
theorem dX6_addPerson_1 : decode cX6_addPerson 1 = .ok (.getfield 35, 3) := by decide +kernel
theorem dX6_addPerson_4 : decode cX6_addPerson 4 = .ok (.bipush 6, 2) := by decide +kernel
theorem dX6_addPerson_6 : decode cX6_addPerson 6 = .ok (.if_icmp .lt 6, 3) := by decide +kernel
theorem dX6_addPerson_9 : decode cX6_addPerson 9 = .ok (.bipush (-4), 2) := by decide +kernel
theorem dX6_addPerson_11 : decode cX6_addPerson 11 = .ok (.ireturn, 1) := by decide +kernel
theorem dX6_addPerson_12 : decode cX6_addPerson 12 = .ok (.aload_n 0, 1) := by decide +kernel
theorem dX6_addPerson_13 : decode cX6_addPerson 13 = .ok (.getfield 35, 3) := by decide +kernel
theorem dX6_addPerson_16 : decode cX6_addPerson 16 = .ok (.istore 4, 2) := by decide +kernel
theorem dX6_addPerson_18 : decode cX6_addPerson 18 = .ok (.aload_n 0, 1) := by decide +kernel
theorem dX6_addPerson_19 : decode cX6_addPerson 19 = .ok (.dup, 1) := by decide +kernel
theorem dX6_addPerson_20 : decode cX6_addPerson 20 = .ok (.getfield 35, 3) := by decide +kernel
theorem dX6_addPerson_23 : decode cX6_addPerson 23 = .ok (.iconst 1, 1) := by decide +kernel
theorem dX6_addPerson_24 : decode cX6_addPerson 24 = .ok (.iadd, 1) := by decide +kernel
theorem dX6_addPerson_25 : decode cX6_addPerson 25 = .ok (.putfield 35, 3) := by decide +kernel
theorem dX6_addPerson_28 : decode cX6_addPerson 28 = .ok (.aload_n 0, 1) := by decide +kernel
theorem dX6_addPerson_29 : decode cX6_addPerson 29 = .ok (.getfield 9, 3) := by decide +kernel
theorem dX6_addPerson_32 : decode cX6_addPerson 32 = .ok (.iload 4, 2) := by decide +kernel
theorem dX6_addPerson_34 : decode cX6_addPerson 34 = .ok (.iload_n 1, 1) := by decide +kernel
theorem dX6_addPerson_35 : decode cX6_addPerson 35 = .ok (.iastore, 1) := by decide +kernel
theorem dX6_addPerson_36 : decode cX6_addPerson 36 = .ok (.aload_n 0, 1) := by decide +kernel
theorem dX6_addPerson_37 : decode cX6_addPerson 37 = .ok (.getfield 15, 3) := by decide +kernel
theorem dX6_addPerson_40 : decode cX6_addPerson 40 = .ok (.iload 4, 2) := by decide +kernel
theorem dX6_addPerson_42 : decode cX6_addPerson 42 = .ok (.iload_n 2, 1) := by decide +kernel
theorem dX6_addPerson_43 : decode cX6_addPerson 43 = .ok (.iastore, 1) := by decide +kernel
theorem dX6_addPerson_44 : decode cX6_addPerson 44 = .ok (.aload_n 0, 1) := by decide +kernel
theorem dX6_addPerson_45 : decode cX6_addPerson 45 = .ok (.getfield 18, 3) := by decide +kernel
theorem dX6_addPerson_48 : decode cX6_addPerson 48 = .ok (.iload 4, 2) := by decide +kernel
theorem dX6_addPerson_50 : decode cX6_addPerson 50 = .ok (.iload_n 3, 1) := by decide +kernel
theorem dX6_addPerson_51 : decode cX6_addPerson 51 = .ok (.iastore, 1) := by decide +kernel
theorem dX6_addPerson_52 : decode cX6_addPerson 52 = .ok (.iconst 0, 1) := by decide +kernel
theorem dX6_addPerson_53 : decode cX6_addPerson 53 = .ok (.istore 5, 2) := by decide +kernel
theorem dX6_addPerson_55 : decode cX6_addPerson 55 = .ok (.iload 5, 2) := by decide +kernel
theorem dX6_addPerson_57 : decode cX6_addPerson 57 = .ok (.iconst 4, 1) := by decide +kernel
theorem dX6_addPerson_58 : decode cX6_addPerson 58 = .ok (.if_icmp .ge 22, 3) := by decide +kernel
theorem dX6_addPerson_61 : decode cX6_addPerson 61 = .ok (.aload_n 0, 1) := by decide +kernel
theorem dX6_addPerson_62 : decode cX6_addPerson 62 = .ok (.getfield 21, 3) := by decide +kernel
theorem dX6_addPerson_65 : decode cX6_addPerson 65 = .ok (.iload 4, 2) := by decide +kernel
theorem dX6_addPerson_67 : decode cX6_addPerson 67 = .ok (.iconst 4, 1) := by decide +kernel
theorem dX6_addPerson_68 : decode cX6_addPerson 68 = .ok (.imul, 1) := by decide +kernel
theorem dX6_addPerson_69 : decode cX6_addPerson 69 = .ok (.iload 5, 2) := by decide +kernel
theorem dX6_addPerson_71 : decode cX6_addPerson 71 = .ok (.iadd, 1) := by decide +kernel
theorem dX6_addPerson_72 : decode cX6_addPerson 72 = .ok (.iconst 0, 1) := by decide +kernel
theorem dX6_addPerson_73 : decode cX6_addPerson 73 = .ok (.iastore, 1) := by decide +kernel
theorem dX6_addPerson_74 : decode cX6_addPerson 74 = .ok (.iinc 5 1, 3) := by decide +kernel
theorem dX6_addPerson_77 : decode cX6_addPerson 77 = .ok (.goto (-22), 3) := by decide +kernel
theorem dX6_addPerson_80 : decode cX6_addPerson 80 = .ok (.aload_n 0, 1) := by decide +kernel
theorem dX6_addPerson_81 : decode cX6_addPerson 81 = .ok (.iload 4, 2) := by decide +kernel
theorem dX6_addPerson_83 : decode cX6_addPerson 83 = .ok (.invokevirtual 61, 3) := by decide +kernel
theorem dX6_addPerson_86 : decode cX6_addPerson 86 = .ok (.iload 4, 2) := by decide +kernel
theorem dX6_addPerson_88 : decode cX6_addPerson 88 = .ok (.ireturn, 1) := by decide +kernel
theorem dX6_near_0 : decode cX6_near 0 = .ok (.aload_n 0, 1) := by decide +kernel
theorem dX6_near_1 : decode cX6_near 1 = .ok (.getfield 51, 3) := by decide +kernel
theorem dX6_near_4 : decode cX6_near 4 = .ok (.ifnonnull 7, 3) := by decide +kernel
theorem dX6_near_7 : decode cX6_near 7 = .ok (.iconst 3, 1) := by decide +kernel
theorem dX6_near_8 : decode cX6_near 8 = .ok (.goto 10, 3) := by decide +kernel
theorem dX6_near_11 : decode cX6_near 11 = .ok (.aload_n 0, 1) := by decide +kernel
theorem dX6_near_12 : decode cX6_near 12 = .ok (.getfield 51, 3) := by decide +kernel
theorem dX6_near_15 : decode cX6_near 15 = .ok (.getfield 65, 3) := by decide +kernel
theorem dX6_near_18 : decode cX6_near 18 = .ok (.ireturn, 1) := by decide +kernel
theorem dX6_wind_0 : decode cX6_wind 0 = .ok (.aload_n 0, 1) := by decide +kernel
theorem dX6_wind_1 : decode cX6_wind 1 = .ok (.getfield 51, 3) := by decide +kernel
theorem dX6_wind_4 : decode cX6_wind 4 = .ok (.ifnonnull 7, 3) := by decide +kernel
theorem dX6_wind_7 : decode cX6_wind 7 = .ok (.iconst 2, 1) := by decide +kernel
theorem dX6_wind_8 : decode cX6_wind 8 = .ok (.goto 10, 3) := by decide +kernel
theorem dX6_wind_11 : decode cX6_wind 11 = .ok (.aload_n 0, 1) := by decide +kernel
theorem dX6_wind_12 : decode cX6_wind 12 = .ok (.getfield 51, 3) := by decide +kernel
theorem dX6_wind_15 : decode cX6_wind 15 = .ok (.getfield 68, 3) := by decide +kernel
theorem dX6_wind_18 : decode cX6_wind 18 = .ok (.ireturn, 1) := by decide +kernel
theorem dX6_placeOf_0 : decode cX6_placeOf 0 = .ok (.iconst 0, 1) := by decide +kernel
theorem dX6_placeOf_1 : decode cX6_placeOf 1 = .ok (.istore_n 2, 1) := by decide +kernel
theorem dX6_placeOf_2 : decode cX6_placeOf 2 = .ok (.iload_n 2, 1) := by decide +kernel
theorem dX6_placeOf_3 : decode cX6_placeOf 3 = .ok (.aload_n 0, 1) := by decide +kernel
theorem dX6_placeOf_4 : decode cX6_placeOf 4 = .ok (.getfield 39, 3) := by decide +kernel
theorem dX6_placeOf_7 : decode cX6_placeOf 7 = .ok (.if_icmp .ge 21, 3) := by decide +kernel
theorem dX6_placeOf_10 : decode cX6_placeOf 10 = .ok (.aload_n 0, 1) := by decide +kernel
theorem dX6_placeOf_11 : decode cX6_placeOf 11 = .ok (.getfield 24, 3) := by decide +kernel
theorem dX6_placeOf_14 : decode cX6_placeOf 14 = .ok (.iload_n 2, 1) := by decide +kernel
theorem dX6_placeOf_15 : decode cX6_placeOf 15 = .ok (.iaload, 1) := by decide +kernel
theorem dX6_placeOf_16 : decode cX6_placeOf 16 = .ok (.iload_n 1, 1) := by decide +kernel
theorem dX6_placeOf_17 : decode cX6_placeOf 17 = .ok (.if_icmp .ne 5, 3) := by decide +kernel
theorem dX6_placeOf_20 : decode cX6_placeOf 20 = .ok (.iload_n 2, 1) := by decide +kernel
theorem dX6_placeOf_21 : decode cX6_placeOf 21 = .ok (.ireturn, 1) := by decide +kernel
theorem dX6_placeOf_22 : decode cX6_placeOf 22 = .ok (.iinc 2 1, 3) := by decide +kernel
theorem dX6_placeOf_25 : decode cX6_placeOf 25 = .ok (.goto (-23), 3) := by decide +kernel
theorem dX6_placeOf_28 : decode cX6_placeOf 28 = .ok (.iconst (-1), 1) := by decide +kernel
theorem dX6_placeOf_29 : decode cX6_placeOf 29 = .ok (.ireturn, 1) := by decide +kernel
theorem dX6_joinRoad_0 : decode cX6_joinRoad 0 = .ok (.aload_n 0, 1) := by decide +kernel
theorem dX6_joinRoad_1 : decode cX6_joinRoad 1 = .ok (.getfield 39, 3) := by decide +kernel
theorem dX6_joinRoad_4 : decode cX6_joinRoad 4 = .ok (.bipush 6, 2) := by decide +kernel
theorem dX6_joinRoad_6 : decode cX6_joinRoad 6 = .ok (.if_icmp .ge 23, 3) := by decide +kernel
theorem dX6_joinRoad_9 : decode cX6_joinRoad 9 = .ok (.aload_n 0, 1) := by decide +kernel
theorem dX6_joinRoad_10 : decode cX6_joinRoad 10 = .ok (.getfield 24, 3) := by decide +kernel
theorem dX6_joinRoad_13 : decode cX6_joinRoad 13 = .ok (.aload_n 0, 1) := by decide +kernel
theorem dX6_joinRoad_14 : decode cX6_joinRoad 14 = .ok (.getfield 39, 3) := by decide +kernel
theorem dX6_joinRoad_17 : decode cX6_joinRoad 17 = .ok (.iload_n 1, 1) := by decide +kernel
theorem dX6_joinRoad_18 : decode cX6_joinRoad 18 = .ok (.iastore, 1) := by decide +kernel
theorem dX6_joinRoad_19 : decode cX6_joinRoad 19 = .ok (.aload_n 0, 1) := by decide +kernel
theorem dX6_joinRoad_20 : decode cX6_joinRoad 20 = .ok (.dup, 1) := by decide +kernel
theorem dX6_joinRoad_21 : decode cX6_joinRoad 21 = .ok (.getfield 39, 3) := by decide +kernel
theorem dX6_joinRoad_24 : decode cX6_joinRoad 24 = .ok (.iconst 1, 1) := by decide +kernel
theorem dX6_joinRoad_25 : decode cX6_joinRoad 25 = .ok (.iadd, 1) := by decide +kernel
theorem dX6_joinRoad_26 : decode cX6_joinRoad 26 = .ok (.putfield 39, 3) := by decide +kernel
theorem dX6_joinRoad_29 : decode cX6_joinRoad 29 = .ok (.return_, 1) := by decide +kernel
theorem dX6_exchange_0 : decode cX6_exchange 0 = .ok (.aload_n 0, 1) := by decide +kernel
theorem dX6_exchange_1 : decode cX6_exchange 1 = .ok (.iload_n 1, 1) := by decide +kernel
theorem dX6_exchange_2 : decode cX6_exchange 2 = .ok (.invokevirtual 71, 3) := by decide +kernel
theorem dX6_exchange_5 : decode cX6_exchange 5 = .ok (.istore_n 3, 1) := by decide +kernel
theorem dX6_exchange_6 : decode cX6_exchange 6 = .ok (.aload_n 0, 1) := by decide +kernel
theorem dX6_exchange_7 : decode cX6_exchange 7 = .ok (.iload_n 2, 1) := by decide +kernel
theorem dX6_exchange_8 : decode cX6_exchange 8 = .ok (.invokevirtual 71, 3) := by decide +kernel
theorem dX6_exchange_11 : decode cX6_exchange 11 = .ok (.istore 4, 2) := by decide +kernel
theorem dX6_exchange_13 : decode cX6_exchange 13 = .ok (.iload_n 3, 1) := by decide +kernel
theorem dX6_exchange_14 : decode cX6_exchange 14 = .ok (.ifCond .lt 8, 3) := by decide +kernel
theorem dX6_exchange_17 : decode cX6_exchange 17 = .ok (.iload 4, 2) := by decide +kernel
theorem dX6_exchange_19 : decode cX6_exchange 19 = .ok (.ifCond .ge 5, 3) := by decide +kernel
theorem dX6_exchange_22 : decode cX6_exchange 22 = .ok (.iconst 0, 1) := by decide +kernel
theorem dX6_exchange_23 : decode cX6_exchange 23 = .ok (.ireturn, 1) := by decide +kernel
theorem dX6_exchange_24 : decode cX6_exchange 24 = .ok (.aload_n 0, 1) := by decide +kernel
theorem dX6_exchange_25 : decode cX6_exchange 25 = .ok (.getfield 24, 3) := by decide +kernel
theorem dX6_exchange_28 : decode cX6_exchange 28 = .ok (.iload_n 3, 1) := by decide +kernel
theorem dX6_exchange_29 : decode cX6_exchange 29 = .ok (.iload_n 2, 1) := by decide +kernel
theorem dX6_exchange_30 : decode cX6_exchange 30 = .ok (.iastore, 1) := by decide +kernel
theorem dX6_exchange_31 : decode cX6_exchange 31 = .ok (.aload_n 0, 1) := by decide +kernel
theorem dX6_exchange_32 : decode cX6_exchange 32 = .ok (.getfield 24, 3) := by decide +kernel
theorem dX6_exchange_35 : decode cX6_exchange 35 = .ok (.iload 4, 2) := by decide +kernel
theorem dX6_exchange_37 : decode cX6_exchange 37 = .ok (.iload_n 1, 1) := by decide +kernel
theorem dX6_exchange_38 : decode cX6_exchange 38 = .ok (.iastore, 1) := by decide +kernel
theorem dX6_exchange_39 : decode cX6_exchange 39 = .ok (.iconst 1, 1) := by decide +kernel
theorem dX6_exchange_40 : decode cX6_exchange 40 = .ok (.ireturn, 1) := by decide +kernel
theorem dX6_sober_0 : decode cX6_sober 0 = .ok (.iconst 0, 1) := by decide +kernel
theorem dX6_sober_1 : decode cX6_sober 1 = .ok (.istore_n 2, 1) := by decide +kernel
theorem dX6_sober_2 : decode cX6_sober 2 = .ok (.iload_n 2, 1) := by decide +kernel
theorem dX6_sober_3 : decode cX6_sober 3 = .ok (.aload_n 0, 1) := by decide +kernel
theorem dX6_sober_4 : decode cX6_sober 4 = .ok (.getfield 35, 3) := by decide +kernel
theorem dX6_sober_7 : decode cX6_sober 7 = .ok (.if_icmp .ge 25, 3) := by decide +kernel
theorem dX6_sober_10 : decode cX6_sober 10 = .ok (.iload_n 1, 1) := by decide +kernel
theorem dX6_sober_11 : decode cX6_sober 11 = .ok (.iload_n 2, 1) := by decide +kernel
theorem dX6_sober_12 : decode cX6_sober 12 = .ok (.ishr, 1) := by decide +kernel
theorem dX6_sober_13 : decode cX6_sober 13 = .ok (.iconst 1, 1) := by decide +kernel
theorem dX6_sober_14 : decode cX6_sober 14 = .ok (.iand, 1) := by decide +kernel
theorem dX6_sober_15 : decode cX6_sober 15 = .ok (.iconst 1, 1) := by decide +kernel
theorem dX6_sober_16 : decode cX6_sober 16 = .ok (.if_icmp .ne 10, 3) := by decide +kernel
theorem dX6_sober_19 : decode cX6_sober 19 = .ok (.aload_n 0, 1) := by decide +kernel
theorem dX6_sober_20 : decode cX6_sober 20 = .ok (.getfield 18, 3) := by decide +kernel
theorem dX6_sober_23 : decode cX6_sober 23 = .ok (.iload_n 2, 1) := by decide +kernel
theorem dX6_sober_24 : decode cX6_sober 24 = .ok (.iconst 0, 1) := by decide +kernel
theorem dX6_sober_25 : decode cX6_sober 25 = .ok (.iastore, 1) := by decide +kernel
theorem dX6_sober_26 : decode cX6_sober 26 = .ok (.iinc 2 1, 3) := by decide +kernel
theorem dX6_sober_29 : decode cX6_sober 29 = .ok (.goto (-27), 3) := by decide +kernel
theorem dX6_sober_32 : decode cX6_sober 32 = .ok (.return_, 1) := by decide +kernel
theorem dX6_hoursGo_0 : decode cX6_hoursGo 0 = .ok (.iconst 0, 1) := by decide +kernel
theorem dX6_hoursGo_1 : decode cX6_hoursGo 1 = .ok (.istore_n 2, 1) := by decide +kernel
theorem dX6_hoursGo_2 : decode cX6_hoursGo 2 = .ok (.iload_n 2, 1) := by decide +kernel
theorem dX6_hoursGo_3 : decode cX6_hoursGo 3 = .ok (.iload_n 1, 1) := by decide +kernel
theorem dX6_hoursGo_4 : decode cX6_hoursGo 4 = .ok (.if_icmp .ge 13, 3) := by decide +kernel
theorem dX6_hoursGo_7 : decode cX6_hoursGo 7 = .ok (.aload_n 0, 1) := by decide +kernel
theorem dX6_hoursGo_8 : decode cX6_hoursGo 8 = .ok (.invokevirtual 75, 3) := by decide +kernel
theorem dX6_hoursGo_11 : decode cX6_hoursGo 11 = .ok (.iinc 2 1, 3) := by decide +kernel
theorem dX6_hoursGo_14 : decode cX6_hoursGo 14 = .ok (.goto (-12), 3) := by decide +kernel
theorem dX6_hoursGo_17 : decode cX6_hoursGo 17 = .ok (.return_, 1) := by decide +kernel
theorem dX6_hourGoes_0 : decode cX6_hourGoes 0 = .ok (.aload_n 0, 1) := by decide +kernel
theorem dX6_hourGoes_1 : decode cX6_hourGoes 1 = .ok (.getfield 42, 3) := by decide +kernel
theorem dX6_hourGoes_4 : decode cX6_hourGoes 4 = .ok (.ifCond .ne 7, 3) := by decide +kernel
theorem dX6_hourGoes_7 : decode cX6_hourGoes 7 = .ok (.aload_n 0, 1) := by decide +kernel
theorem dX6_hourGoes_8 : decode cX6_hourGoes 8 = .ok (.invokevirtual 78, 3) := by decide +kernel
theorem dX6_hourGoes_11 : decode cX6_hourGoes 11 = .ok (.aload_n 0, 1) := by decide +kernel
theorem dX6_hourGoes_12 : decode cX6_hourGoes 12 = .ok (.invokevirtual 81, 3) := by decide +kernel
theorem dX6_hourGoes_15 : decode cX6_hourGoes 15 = .ok (.istore_n 1, 1) := by decide +kernel
theorem dX6_hourGoes_16 : decode cX6_hourGoes 16 = .ok (.iconst 1, 1) := by decide +kernel
theorem dX6_hourGoes_17 : decode cX6_hourGoes 17 = .ok (.aload_n 0, 1) := by decide +kernel
theorem dX6_hourGoes_18 : decode cX6_hourGoes 18 = .ok (.invokevirtual 85, 3) := by decide +kernel
theorem dX6_hourGoes_21 : decode cX6_hourGoes 21 = .ok (.bipush 6, 2) := by decide +kernel
theorem dX6_hourGoes_23 : decode cX6_hourGoes 23 = .ok (.invokestatic 87, 3) := by decide +kernel
theorem dX6_hourGoes_26 : decode cX6_hourGoes 26 = .ok (.ishl, 1) := by decide +kernel
theorem dX6_hourGoes_27 : decode cX6_hourGoes 27 = .ok (.iconst 1, 1) := by decide +kernel
theorem dX6_hourGoes_28 : decode cX6_hourGoes 28 = .ok (.isub, 1) := by decide +kernel
theorem dX6_hourGoes_29 : decode cX6_hourGoes 29 = .ok (.istore_n 2, 1) := by decide +kernel
theorem dX6_hourGoes_30 : decode cX6_hourGoes 30 = .ok (.iload_n 1, 1) := by decide +kernel
theorem dX6_hourGoes_31 : decode cX6_hourGoes 31 = .ok (.iload_n 2, 1) := by decide +kernel
theorem dX6_hourGoes_32 : decode cX6_hourGoes 32 = .ok (.iand, 1) := by decide +kernel
theorem dX6_hourGoes_33 : decode cX6_hourGoes 33 = .ok (.ifCond .eq 24, 3) := by decide +kernel
theorem dX6_hourGoes_36 : decode cX6_hourGoes 36 = .ok (.aload_n 0, 1) := by decide +kernel
theorem dX6_hourGoes_37 : decode cX6_hourGoes 37 = .ok (.aload_n 0, 1) := by decide +kernel
theorem dX6_hourGoes_38 : decode cX6_hourGoes 38 = .ok (.invokevirtual 93, 3) := by decide +kernel
theorem dX6_hourGoes_41 : decode cX6_hourGoes 41 = .ok (.putfield 42, 3) := by decide +kernel
theorem dX6_hourGoes_44 : decode cX6_hourGoes 44 = .ok (.aload_n 0, 1) := by decide +kernel
theorem dX6_hourGoes_45 : decode cX6_hourGoes 45 = .ok (.dup, 1) := by decide +kernel
theorem dX6_hourGoes_46 : decode cX6_hourGoes 46 = .ok (.getfield 45, 3) := by decide +kernel
theorem dX6_hourGoes_49 : decode cX6_hourGoes 49 = .ok (.iconst 1, 1) := by decide +kernel
theorem dX6_hourGoes_50 : decode cX6_hourGoes 50 = .ok (.iadd, 1) := by decide +kernel
theorem dX6_hourGoes_51 : decode cX6_hourGoes 51 = .ok (.putfield 45, 3) := by decide +kernel
theorem dX6_hourGoes_54 : decode cX6_hourGoes 54 = .ok (.goto 20, 3) := by decide +kernel
theorem dX6_hourGoes_57 : decode cX6_hourGoes 57 = .ok (.aload_n 0, 1) := by decide +kernel
theorem dX6_hourGoes_58 : decode cX6_hourGoes 58 = .ok (.getfield 42, 3) := by decide +kernel
theorem dX6_hourGoes_61 : decode cX6_hourGoes 61 = .ok (.ifCond .le 13, 3) := by decide +kernel
theorem dX6_hourGoes_64 : decode cX6_hourGoes 64 = .ok (.aload_n 0, 1) := by decide +kernel
theorem dX6_hourGoes_65 : decode cX6_hourGoes 65 = .ok (.dup, 1) := by decide +kernel
theorem dX6_hourGoes_66 : decode cX6_hourGoes 66 = .ok (.getfield 42, 3) := by decide +kernel
theorem dX6_hourGoes_69 : decode cX6_hourGoes 69 = .ok (.iconst 1, 1) := by decide +kernel
theorem dX6_hourGoes_70 : decode cX6_hourGoes 70 = .ok (.isub, 1) := by decide +kernel
theorem dX6_hourGoes_71 : decode cX6_hourGoes 71 = .ok (.putfield 42, 3) := by decide +kernel
theorem dX6_hourGoes_74 : decode cX6_hourGoes 74 = .ok (.iconst 0, 1) := by decide +kernel
theorem dX6_hourGoes_75 : decode cX6_hourGoes 75 = .ok (.istore_n 3, 1) := by decide +kernel
theorem dX6_hourGoes_76 : decode cX6_hourGoes 76 = .ok (.iload_n 3, 1) := by decide +kernel
theorem dX6_hourGoes_77 : decode cX6_hourGoes 77 = .ok (.aload_n 0, 1) := by decide +kernel
theorem dX6_hourGoes_78 : decode cX6_hourGoes 78 = .ok (.getfield 39, 3) := by decide +kernel
theorem dX6_hourGoes_81 : decode cX6_hourGoes 81 = .ok (.if_icmp .ge 63, 3) := by decide +kernel
theorem dX6_hourGoes_84 : decode cX6_hourGoes 84 = .ok (.aload_n 0, 1) := by decide +kernel
theorem dX6_hourGoes_85 : decode cX6_hourGoes 85 = .ok (.getfield 24, 3) := by decide +kernel
theorem dX6_hourGoes_88 : decode cX6_hourGoes 88 = .ok (.iload_n 3, 1) := by decide +kernel
theorem dX6_hourGoes_89 : decode cX6_hourGoes 89 = .ok (.iaload, 1) := by decide +kernel
theorem dX6_hourGoes_90 : decode cX6_hourGoes 90 = .ok (.istore 4, 2) := by decide +kernel
theorem dX6_hourGoes_92 : decode cX6_hourGoes 92 = .ok (.iload_n 1, 1) := by decide +kernel
theorem dX6_hourGoes_93 : decode cX6_hourGoes 93 = .ok (.iload_n 3, 1) := by decide +kernel
theorem dX6_hourGoes_94 : decode cX6_hourGoes 94 = .ok (.ishr, 1) := by decide +kernel
theorem dX6_hourGoes_95 : decode cX6_hourGoes 95 = .ok (.iconst 1, 1) := by decide +kernel
theorem dX6_hourGoes_96 : decode cX6_hourGoes 96 = .ok (.iand, 1) := by decide +kernel
theorem dX6_hourGoes_97 : decode cX6_hourGoes 97 = .ok (.iconst 1, 1) := by decide +kernel
theorem dX6_hourGoes_98 : decode cX6_hourGoes 98 = .ok (.if_icmp .ne 7, 3) := by decide +kernel
theorem dX6_hourGoes_101 : decode cX6_hourGoes 101 = .ok (.iconst 1, 1) := by decide +kernel
theorem dX6_hourGoes_102 : decode cX6_hourGoes 102 = .ok (.goto 4, 3) := by decide +kernel
theorem dX6_hourGoes_105 : decode cX6_hourGoes 105 = .ok (.iconst 0, 1) := by decide +kernel
theorem dX6_hourGoes_106 : decode cX6_hourGoes 106 = .ok (.istore 5, 2) := by decide +kernel
theorem dX6_hourGoes_108 : decode cX6_hourGoes 108 = .ok (.aload_n 0, 1) := by decide +kernel
theorem dX6_hourGoes_109 : decode cX6_hourGoes 109 = .ok (.getfield 18, 3) := by decide +kernel
theorem dX6_hourGoes_112 : decode cX6_hourGoes 112 = .ok (.iload 4, 2) := by decide +kernel
theorem dX6_hourGoes_114 : decode cX6_hourGoes 114 = .ok (.iload 5, 2) := by decide +kernel
theorem dX6_hourGoes_116 : decode cX6_hourGoes 116 = .ok (.ifCond .eq 7, 3) := by decide +kernel
theorem dX6_hourGoes_119 : decode cX6_hourGoes 119 = .ok (.iconst 0, 1) := by decide +kernel
theorem dX6_hourGoes_120 : decode cX6_hourGoes 120 = .ok (.goto 17, 3) := by decide +kernel
theorem dX6_hourGoes_123 : decode cX6_hourGoes 123 = .ok (.aload_n 0, 1) := by decide +kernel
theorem dX6_hourGoes_124 : decode cX6_hourGoes 124 = .ok (.getfield 18, 3) := by decide +kernel
theorem dX6_hourGoes_127 : decode cX6_hourGoes 127 = .ok (.iload 4, 2) := by decide +kernel
theorem dX6_hourGoes_129 : decode cX6_hourGoes 129 = .ok (.iaload, 1) := by decide +kernel
theorem dX6_hourGoes_130 : decode cX6_hourGoes 130 = .ok (.iconst 1, 1) := by decide +kernel
theorem dX6_hourGoes_131 : decode cX6_hourGoes 131 = .ok (.iadd, 1) := by decide +kernel
theorem dX6_hourGoes_132 : decode cX6_hourGoes 132 = .ok (.bipush 9, 2) := by decide +kernel
theorem dX6_hourGoes_134 : decode cX6_hourGoes 134 = .ok (.invokestatic 87, 3) := by decide +kernel
theorem dX6_hourGoes_137 : decode cX6_hourGoes 137 = .ok (.iastore, 1) := by decide +kernel
theorem dX6_hourGoes_138 : decode cX6_hourGoes 138 = .ok (.iinc 3 1, 3) := by decide +kernel
theorem dX6_hourGoes_141 : decode cX6_hourGoes 141 = .ok (.goto (-65), 3) := by decide +kernel
theorem dX6_hourGoes_144 : decode cX6_hourGoes 144 = .ok (.aload_n 0, 1) := by decide +kernel
theorem dX6_hourGoes_145 : decode cX6_hourGoes 145 = .ok (.dup, 1) := by decide +kernel
theorem dX6_hourGoes_146 : decode cX6_hourGoes 146 = .ok (.getfield 48, 3) := by decide +kernel
theorem dX6_hourGoes_149 : decode cX6_hourGoes 149 = .ok (.iconst 1, 1) := by decide +kernel
theorem dX6_hourGoes_150 : decode cX6_hourGoes 150 = .ok (.iadd, 1) := by decide +kernel
theorem dX6_hourGoes_151 : decode cX6_hourGoes 151 = .ok (.putfield 48, 3) := by decide +kernel
theorem dX6_hourGoes_154 : decode cX6_hourGoes 154 = .ok (.return_, 1) := by decide +kernel
theorem dX6_letFirstIn_0 : decode cX6_letFirstIn 0 = .ok (.aload_n 0, 1) := by decide +kernel
theorem dX6_letFirstIn_1 : decode cX6_letFirstIn 1 = .ok (.getfield 39, 3) := by decide +kernel
theorem dX6_letFirstIn_4 : decode cX6_letFirstIn 4 = .ok (.ifCond .le 30, 3) := by decide +kernel
theorem dX6_letFirstIn_7 : decode cX6_letFirstIn 7 = .ok (.aload_n 0, 1) := by decide +kernel
theorem dX6_letFirstIn_8 : decode cX6_letFirstIn 8 = .ok (.dup, 1) := by decide +kernel
theorem dX6_letFirstIn_9 : decode cX6_letFirstIn 9 = .ok (.getfield 39, 3) := by decide +kernel
theorem dX6_letFirstIn_12 : decode cX6_letFirstIn 12 = .ok (.iconst 1, 1) := by decide +kernel
theorem dX6_letFirstIn_13 : decode cX6_letFirstIn 13 = .ok (.isub, 1) := by decide +kernel
theorem dX6_letFirstIn_14 : decode cX6_letFirstIn 14 = .ok (.putfield 39, 3) := by decide +kernel
theorem dX6_letFirstIn_17 : decode cX6_letFirstIn 17 = .ok (.aload_n 0, 1) := by decide +kernel
theorem dX6_letFirstIn_18 : decode cX6_letFirstIn 18 = .ok (.getfield 24, 3) := by decide +kernel
theorem dX6_letFirstIn_21 : decode cX6_letFirstIn 21 = .ok (.iconst 1, 1) := by decide +kernel
theorem dX6_letFirstIn_22 : decode cX6_letFirstIn 22 = .ok (.aload_n 0, 1) := by decide +kernel
theorem dX6_letFirstIn_23 : decode cX6_letFirstIn 23 = .ok (.getfield 24, 3) := by decide +kernel
theorem dX6_letFirstIn_26 : decode cX6_letFirstIn 26 = .ok (.iconst 0, 1) := by decide +kernel
theorem dX6_letFirstIn_27 : decode cX6_letFirstIn 27 = .ok (.aload_n 0, 1) := by decide +kernel
theorem dX6_letFirstIn_28 : decode cX6_letFirstIn 28 = .ok (.getfield 39, 3) := by decide +kernel
theorem dX6_letFirstIn_31 : decode cX6_letFirstIn 31 = .ok (.invokestatic 55, 3) := by decide +kernel
theorem dX6_letFirstIn_34 : decode cX6_letFirstIn 34 = .ok (.return_, 1) := by decide +kernel
theorem dX6_laughers_0 : decode cX6_laughers 0 = .ok (.aload_n 0, 1) := by decide +kernel
theorem dX6_laughers_1 : decode cX6_laughers 1 = .ok (.invokevirtual 81, 3) := by decide +kernel
theorem dX6_laughers_4 : decode cX6_laughers 4 = .ok (.istore_n 1, 1) := by decide +kernel
theorem dX6_laughers_5 : decode cX6_laughers 5 = .ok (.iconst 0, 1) := by decide +kernel
theorem dX6_laughers_6 : decode cX6_laughers 6 = .ok (.istore_n 2, 1) := by decide +kernel
theorem dX6_laughers_7 : decode cX6_laughers 7 = .ok (.iconst 0, 1) := by decide +kernel
theorem dX6_laughers_8 : decode cX6_laughers 8 = .ok (.istore_n 3, 1) := by decide +kernel
theorem dX6_laughers_9 : decode cX6_laughers 9 = .ok (.iload_n 3, 1) := by decide +kernel
theorem dX6_laughers_10 : decode cX6_laughers 10 = .ok (.aload_n 0, 1) := by decide +kernel
theorem dX6_laughers_11 : decode cX6_laughers 11 = .ok (.getfield 39, 3) := by decide +kernel
theorem dX6_laughers_14 : decode cX6_laughers 14 = .ok (.if_icmp .ge 29, 3) := by decide +kernel
theorem dX6_laughers_17 : decode cX6_laughers 17 = .ok (.iload_n 1, 1) := by decide +kernel
theorem dX6_laughers_18 : decode cX6_laughers 18 = .ok (.iload_n 3, 1) := by decide +kernel
theorem dX6_laughers_19 : decode cX6_laughers 19 = .ok (.ishr, 1) := by decide +kernel
theorem dX6_laughers_20 : decode cX6_laughers 20 = .ok (.iconst 1, 1) := by decide +kernel
theorem dX6_laughers_21 : decode cX6_laughers 21 = .ok (.iand, 1) := by decide +kernel
theorem dX6_laughers_22 : decode cX6_laughers 22 = .ok (.iconst 1, 1) := by decide +kernel
theorem dX6_laughers_23 : decode cX6_laughers 23 = .ok (.if_icmp .ne 14, 3) := by decide +kernel
theorem dX6_laughers_26 : decode cX6_laughers 26 = .ok (.iload_n 2, 1) := by decide +kernel
theorem dX6_laughers_27 : decode cX6_laughers 27 = .ok (.iconst 1, 1) := by decide +kernel
theorem dX6_laughers_28 : decode cX6_laughers 28 = .ok (.aload_n 0, 1) := by decide +kernel
theorem dX6_laughers_29 : decode cX6_laughers 29 = .ok (.getfield 24, 3) := by decide +kernel
theorem dX6_laughers_32 : decode cX6_laughers 32 = .ok (.iload_n 3, 1) := by decide +kernel
theorem dX6_laughers_33 : decode cX6_laughers 33 = .ok (.iaload, 1) := by decide +kernel
theorem dX6_laughers_34 : decode cX6_laughers 34 = .ok (.ishl, 1) := by decide +kernel
theorem dX6_laughers_35 : decode cX6_laughers 35 = .ok (.ior, 1) := by decide +kernel
theorem dX6_laughers_36 : decode cX6_laughers 36 = .ok (.istore_n 2, 1) := by decide +kernel
theorem dX6_laughers_37 : decode cX6_laughers 37 = .ok (.iinc 3 1, 3) := by decide +kernel
theorem dX6_laughers_40 : decode cX6_laughers 40 = .ok (.goto (-31), 3) := by decide +kernel
theorem dX6_laughers_43 : decode cX6_laughers 43 = .ok (.iload_n 2, 1) := by decide +kernel
theorem dX6_laughers_44 : decode cX6_laughers 44 = .ok (.ireturn, 1) := by decide +kernel
theorem dX6_laughingPlaces_0 : decode cX6_laughingPlaces 0 = .ok (.iconst 0, 1) := by decide +kernel
theorem dX6_laughingPlaces_1 : decode cX6_laughingPlaces 1 = .ok (.istore_n 1, 1) := by decide +kernel
theorem dX6_laughingPlaces_2 : decode cX6_laughingPlaces 2 = .ok (.iload_n 1, 1) := by decide +kernel
theorem dX6_laughingPlaces_3 : decode cX6_laughingPlaces 3 = .ok (.aload_n 0, 1) := by decide +kernel
theorem dX6_laughingPlaces_4 : decode cX6_laughingPlaces 4 = .ok (.getfield 39, 3) := by decide +kernel
theorem dX6_laughingPlaces_7 : decode cX6_laughingPlaces 7 = .ok (.if_icmp .ge 20, 3) := by decide +kernel
theorem dX6_laughingPlaces_10 : decode cX6_laughingPlaces 10 = .ok (.aload_n 0, 1) := by decide +kernel
theorem dX6_laughingPlaces_11 : decode cX6_laughingPlaces 11 = .ok (.getfield 32, 3) := by decide +kernel
theorem dX6_laughingPlaces_14 : decode cX6_laughingPlaces 14 = .ok (.iload_n 1, 1) := by decide +kernel
theorem dX6_laughingPlaces_15 : decode cX6_laughingPlaces 15 = .ok (.aload_n 0, 1) := by decide +kernel
theorem dX6_laughingPlaces_16 : decode cX6_laughingPlaces 16 = .ok (.iload_n 1, 1) := by decide +kernel
theorem dX6_laughingPlaces_17 : decode cX6_laughingPlaces 17 = .ok (.invokevirtual 95, 3) := by decide +kernel
theorem dX6_laughingPlaces_20 : decode cX6_laughingPlaces 20 = .ok (.iastore, 1) := by decide +kernel
theorem dX6_laughingPlaces_21 : decode cX6_laughingPlaces 21 = .ok (.iinc 1 1, 3) := by decide +kernel
theorem dX6_laughingPlaces_24 : decode cX6_laughingPlaces 24 = .ok (.goto (-22), 3) := by decide +kernel
theorem dX6_laughingPlaces_27 : decode cX6_laughingPlaces 27 = .ok (.iconst 0, 1) := by decide +kernel
theorem dX6_laughingPlaces_28 : decode cX6_laughingPlaces 28 = .ok (.istore_n 1, 1) := by decide +kernel
theorem dX6_laughingPlaces_29 : decode cX6_laughingPlaces 29 = .ok (.iconst 0, 1) := by decide +kernel
theorem dX6_laughingPlaces_30 : decode cX6_laughingPlaces 30 = .ok (.istore_n 2, 1) := by decide +kernel
theorem dX6_laughingPlaces_31 : decode cX6_laughingPlaces 31 = .ok (.iload_n 2, 1) := by decide +kernel
theorem dX6_laughingPlaces_32 : decode cX6_laughingPlaces 32 = .ok (.aload_n 0, 1) := by decide +kernel
theorem dX6_laughingPlaces_33 : decode cX6_laughingPlaces 33 = .ok (.getfield 39, 3) := by decide +kernel
theorem dX6_laughingPlaces_36 : decode cX6_laughingPlaces 36 = .ok (.if_icmp .gt 88, 3) := by decide +kernel
theorem dX6_laughingPlaces_39 : decode cX6_laughingPlaces 39 = .ok (.iload_n 1, 1) := by decide +kernel
theorem dX6_laughingPlaces_40 : decode cX6_laughingPlaces 40 = .ok (.istore_n 3, 1) := by decide +kernel
theorem dX6_laughingPlaces_41 : decode cX6_laughingPlaces 41 = .ok (.iconst 0, 1) := by decide +kernel
theorem dX6_laughingPlaces_42 : decode cX6_laughingPlaces 42 = .ok (.istore 4, 2) := by decide +kernel
theorem dX6_laughingPlaces_44 : decode cX6_laughingPlaces 44 = .ok (.iload 4, 2) := by decide +kernel
theorem dX6_laughingPlaces_46 : decode cX6_laughingPlaces 46 = .ok (.aload_n 0, 1) := by decide +kernel
theorem dX6_laughingPlaces_47 : decode cX6_laughingPlaces 47 = .ok (.getfield 39, 3) := by decide +kernel
theorem dX6_laughingPlaces_50 : decode cX6_laughingPlaces 50 = .ok (.if_icmp .ge 60, 3) := by decide +kernel
theorem dX6_laughingPlaces_53 : decode cX6_laughingPlaces 53 = .ok (.iload_n 3, 1) := by decide +kernel
theorem dX6_laughingPlaces_54 : decode cX6_laughingPlaces 54 = .ok (.iconst 1, 1) := by decide +kernel
theorem dX6_laughingPlaces_55 : decode cX6_laughingPlaces 55 = .ok (.ishl, 1) := by decide +kernel
theorem dX6_laughingPlaces_56 : decode cX6_laughingPlaces 56 = .ok (.iload 4, 2) := by decide +kernel
theorem dX6_laughingPlaces_58 : decode cX6_laughingPlaces 58 = .ok (.ishr, 1) := by decide +kernel
theorem dX6_laughingPlaces_59 : decode cX6_laughingPlaces 59 = .ok (.iconst 1, 1) := by decide +kernel
theorem dX6_laughingPlaces_60 : decode cX6_laughingPlaces 60 = .ok (.iand, 1) := by decide +kernel
theorem dX6_laughingPlaces_61 : decode cX6_laughingPlaces 61 = .ok (.iload_n 3, 1) := by decide +kernel
theorem dX6_laughingPlaces_62 : decode cX6_laughingPlaces 62 = .ok (.iload 4, 2) := by decide +kernel
theorem dX6_laughingPlaces_64 : decode cX6_laughingPlaces 64 = .ok (.iconst 1, 1) := by decide +kernel
theorem dX6_laughingPlaces_65 : decode cX6_laughingPlaces 65 = .ok (.iadd, 1) := by decide +kernel
theorem dX6_laughingPlaces_66 : decode cX6_laughingPlaces 66 = .ok (.ishr, 1) := by decide +kernel
theorem dX6_laughingPlaces_67 : decode cX6_laughingPlaces 67 = .ok (.iconst 1, 1) := by decide +kernel
theorem dX6_laughingPlaces_68 : decode cX6_laughingPlaces 68 = .ok (.iand, 1) := by decide +kernel
theorem dX6_laughingPlaces_69 : decode cX6_laughingPlaces 69 = .ok (.iadd, 1) := by decide +kernel
theorem dX6_laughingPlaces_70 : decode cX6_laughingPlaces 70 = .ok (.istore 5, 2) := by decide +kernel
theorem dX6_laughingPlaces_72 : decode cX6_laughingPlaces 72 = .ok (.aload_n 0, 1) := by decide +kernel
theorem dX6_laughingPlaces_73 : decode cX6_laughingPlaces 73 = .ok (.aload_n 0, 1) := by decide +kernel
theorem dX6_laughingPlaces_74 : decode cX6_laughingPlaces 74 = .ok (.getfield 24, 3) := by decide +kernel
theorem dX6_laughingPlaces_77 : decode cX6_laughingPlaces 77 = .ok (.iload 4, 2) := by decide +kernel
theorem dX6_laughingPlaces_79 : decode cX6_laughingPlaces 79 = .ok (.iaload, 1) := by decide +kernel
theorem dX6_laughingPlaces_80 : decode cX6_laughingPlaces 80 = .ok (.aload_n 0, 1) := by decide +kernel
theorem dX6_laughingPlaces_81 : decode cX6_laughingPlaces 81 = .ok (.getfield 32, 3) := by decide +kernel
theorem dX6_laughingPlaces_84 : decode cX6_laughingPlaces 84 = .ok (.iload 4, 2) := by decide +kernel
theorem dX6_laughingPlaces_86 : decode cX6_laughingPlaces 86 = .ok (.iaload, 1) := by decide +kernel
theorem dX6_laughingPlaces_87 : decode cX6_laughingPlaces 87 = .ok (.iload 5, 2) := by decide +kernel
theorem dX6_laughingPlaces_89 : decode cX6_laughingPlaces 89 = .ok (.invokevirtual 98, 3) := by decide +kernel
theorem dX6_laughingPlaces_92 : decode cX6_laughingPlaces 92 = .ok (.bipush 10, 2) := by decide +kernel
theorem dX6_laughingPlaces_94 : decode cX6_laughingPlaces 94 = .ok (.if_icmp .lt 10, 3) := by decide +kernel
theorem dX6_laughingPlaces_97 : decode cX6_laughingPlaces 97 = .ok (.iload_n 1, 1) := by decide +kernel
theorem dX6_laughingPlaces_98 : decode cX6_laughingPlaces 98 = .ok (.iconst 1, 1) := by decide +kernel
theorem dX6_laughingPlaces_99 : decode cX6_laughingPlaces 99 = .ok (.iload 4, 2) := by decide +kernel
theorem dX6_laughingPlaces_101 : decode cX6_laughingPlaces 101 = .ok (.ishl, 1) := by decide +kernel
theorem dX6_laughingPlaces_102 : decode cX6_laughingPlaces 102 = .ok (.ior, 1) := by decide +kernel
theorem dX6_laughingPlaces_103 : decode cX6_laughingPlaces 103 = .ok (.istore_n 1, 1) := by decide +kernel
theorem dX6_laughingPlaces_104 : decode cX6_laughingPlaces 104 = .ok (.iinc 4 1, 3) := by decide +kernel
theorem dX6_laughingPlaces_107 : decode cX6_laughingPlaces 107 = .ok (.goto (-63), 3) := by decide +kernel
theorem dX6_laughingPlaces_110 : decode cX6_laughingPlaces 110 = .ok (.iload_n 1, 1) := by decide +kernel
theorem dX6_laughingPlaces_111 : decode cX6_laughingPlaces 111 = .ok (.iload_n 3, 1) := by decide +kernel
theorem dX6_laughingPlaces_112 : decode cX6_laughingPlaces 112 = .ok (.if_icmp .ne 6, 3) := by decide +kernel
theorem dX6_laughingPlaces_115 : decode cX6_laughingPlaces 115 = .ok (.goto 9, 3) := by decide +kernel
theorem dX6_laughingPlaces_118 : decode cX6_laughingPlaces 118 = .ok (.iinc 2 1, 3) := by decide +kernel
theorem dX6_laughingPlaces_121 : decode cX6_laughingPlaces 121 = .ok (.goto (-90), 3) := by decide +kernel
theorem dX6_laughingPlaces_124 : decode cX6_laughingPlaces 124 = .ok (.iload_n 1, 1) := by decide +kernel
theorem dX6_laughingPlaces_125 : decode cX6_laughingPlaces 125 = .ok (.ireturn, 1) := by decide +kernel
theorem dX6_sumAt_0 : decode cX6_sumAt 0 = .ok (.aload_n 0, 1) := by decide +kernel
theorem dX6_sumAt_1 : decode cX6_sumAt 1 = .ok (.getfield 24, 3) := by decide +kernel
theorem dX6_sumAt_4 : decode cX6_sumAt 4 = .ok (.iload_n 1, 1) := by decide +kernel
theorem dX6_sumAt_5 : decode cX6_sumAt 5 = .ok (.iaload, 1) := by decide +kernel
theorem dX6_sumAt_6 : decode cX6_sumAt 6 = .ok (.istore_n 2, 1) := by decide +kernel
theorem dX6_sumAt_7 : decode cX6_sumAt 7 = .ok (.aload_n 0, 1) := by decide +kernel
theorem dX6_sumAt_8 : decode cX6_sumAt 8 = .ok (.getfield 18, 3) := by decide +kernel
theorem dX6_sumAt_11 : decode cX6_sumAt 11 = .ok (.iload_n 2, 1) := by decide +kernel
theorem dX6_sumAt_12 : decode cX6_sumAt 12 = .ok (.iaload, 1) := by decide +kernel
theorem dX6_sumAt_13 : decode cX6_sumAt 13 = .ok (.istore_n 3, 1) := by decide +kernel
theorem dX6_sumAt_14 : decode cX6_sumAt 14 = .ok (.aload_n 0, 1) := by decide +kernel
theorem dX6_sumAt_15 : decode cX6_sumAt 15 = .ok (.getfield 51, 3) := by decide +kernel
theorem dX6_sumAt_18 : decode cX6_sumAt 18 = .ok (.ifnonnull 5, 3) := by decide +kernel
theorem dX6_sumAt_21 : decode cX6_sumAt 21 = .ok (.iload_n 3, 1) := by decide +kernel
theorem dX6_sumAt_22 : decode cX6_sumAt 22 = .ok (.ireturn, 1) := by decide +kernel
theorem dX6_sumAt_23 : decode cX6_sumAt 23 = .ok (.aload_n 0, 1) := by decide +kernel
theorem dX6_sumAt_24 : decode cX6_sumAt 24 = .ok (.getfield 29, 3) := by decide +kernel
theorem dX6_sumAt_27 : decode cX6_sumAt 27 = .ok (.iconst 0, 1) := by decide +kernel
theorem dX6_sumAt_28 : decode cX6_sumAt 28 = .ok (.iload_n 2, 1) := by decide +kernel
theorem dX6_sumAt_29 : decode cX6_sumAt 29 = .ok (.iastore, 1) := by decide +kernel
theorem dX6_sumAt_30 : decode cX6_sumAt 30 = .ok (.aload_n 0, 1) := by decide +kernel
theorem dX6_sumAt_31 : decode cX6_sumAt 31 = .ok (.getfield 29, 3) := by decide +kernel
theorem dX6_sumAt_34 : decode cX6_sumAt 34 = .ok (.iconst 1, 1) := by decide +kernel
theorem dX6_sumAt_35 : decode cX6_sumAt 35 = .ok (.aload_n 0, 1) := by decide +kernel
theorem dX6_sumAt_36 : decode cX6_sumAt 36 = .ok (.getfield 9, 3) := by decide +kernel
theorem dX6_sumAt_39 : decode cX6_sumAt 39 = .ok (.iload_n 2, 1) := by decide +kernel
theorem dX6_sumAt_40 : decode cX6_sumAt 40 = .ok (.iaload, 1) := by decide +kernel
theorem dX6_sumAt_41 : decode cX6_sumAt 41 = .ok (.iastore, 1) := by decide +kernel
theorem dX6_sumAt_42 : decode cX6_sumAt 42 = .ok (.aload_n 0, 1) := by decide +kernel
theorem dX6_sumAt_43 : decode cX6_sumAt 43 = .ok (.getfield 29, 3) := by decide +kernel
theorem dX6_sumAt_46 : decode cX6_sumAt 46 = .ok (.iconst 2, 1) := by decide +kernel
theorem dX6_sumAt_47 : decode cX6_sumAt 47 = .ok (.aload_n 0, 1) := by decide +kernel
theorem dX6_sumAt_48 : decode cX6_sumAt 48 = .ok (.getfield 15, 3) := by decide +kernel
theorem dX6_sumAt_51 : decode cX6_sumAt 51 = .ok (.iload_n 2, 1) := by decide +kernel
theorem dX6_sumAt_52 : decode cX6_sumAt 52 = .ok (.iaload, 1) := by decide +kernel
theorem dX6_sumAt_53 : decode cX6_sumAt 53 = .ok (.iastore, 1) := by decide +kernel
theorem dX6_sumAt_54 : decode cX6_sumAt 54 = .ok (.aload_n 0, 1) := by decide +kernel
theorem dX6_sumAt_55 : decode cX6_sumAt 55 = .ok (.getfield 29, 3) := by decide +kernel
theorem dX6_sumAt_58 : decode cX6_sumAt 58 = .ok (.iconst 3, 1) := by decide +kernel
theorem dX6_sumAt_59 : decode cX6_sumAt 59 = .ok (.aload_n 0, 1) := by decide +kernel
theorem dX6_sumAt_60 : decode cX6_sumAt 60 = .ok (.getfield 18, 3) := by decide +kernel
theorem dX6_sumAt_63 : decode cX6_sumAt 63 = .ok (.iload_n 2, 1) := by decide +kernel
theorem dX6_sumAt_64 : decode cX6_sumAt 64 = .ok (.iaload, 1) := by decide +kernel
theorem dX6_sumAt_65 : decode cX6_sumAt 65 = .ok (.iastore, 1) := by decide +kernel
theorem dX6_sumAt_66 : decode cX6_sumAt 66 = .ok (.aload_n 0, 1) := by decide +kernel
theorem dX6_sumAt_67 : decode cX6_sumAt 67 = .ok (.getfield 29, 3) := by decide +kernel
theorem dX6_sumAt_70 : decode cX6_sumAt 70 = .ok (.iconst 4, 1) := by decide +kernel
theorem dX6_sumAt_71 : decode cX6_sumAt 71 = .ok (.iload_n 1, 1) := by decide +kernel
theorem dX6_sumAt_72 : decode cX6_sumAt 72 = .ok (.iastore, 1) := by decide +kernel
theorem dX6_sumAt_73 : decode cX6_sumAt 73 = .ok (.aload_n 0, 1) := by decide +kernel
theorem dX6_sumAt_74 : decode cX6_sumAt 74 = .ok (.getfield 29, 3) := by decide +kernel
theorem dX6_sumAt_77 : decode cX6_sumAt 77 = .ok (.iconst 5, 1) := by decide +kernel
theorem dX6_sumAt_78 : decode cX6_sumAt 78 = .ok (.aload_n 0, 1) := by decide +kernel
theorem dX6_sumAt_79 : decode cX6_sumAt 79 = .ok (.getfield 48, 3) := by decide +kernel
theorem dX6_sumAt_82 : decode cX6_sumAt 82 = .ok (.bipush 10, 2) := by decide +kernel
theorem dX6_sumAt_84 : decode cX6_sumAt 84 = .ok (.irem, 1) := by decide +kernel
theorem dX6_sumAt_85 : decode cX6_sumAt 85 = .ok (.iastore, 1) := by decide +kernel
theorem dX6_sumAt_86 : decode cX6_sumAt 86 = .ok (.iconst 0, 1) := by decide +kernel
theorem dX6_sumAt_87 : decode cX6_sumAt 87 = .ok (.istore 4, 2) := by decide +kernel
theorem dX6_sumAt_89 : decode cX6_sumAt 89 = .ok (.iload 4, 2) := by decide +kernel
theorem dX6_sumAt_91 : decode cX6_sumAt 91 = .ok (.aload_n 0, 1) := by decide +kernel
theorem dX6_sumAt_92 : decode cX6_sumAt 92 = .ok (.getfield 51, 3) := by decide +kernel
theorem dX6_sumAt_95 : decode cX6_sumAt 95 = .ok (.getfield 102, 3) := by decide +kernel
theorem dX6_sumAt_98 : decode cX6_sumAt 98 = .ok (.if_icmp .ge 38, 3) := by decide +kernel
theorem dX6_sumAt_101 : decode cX6_sumAt 101 = .ok (.aload_n 0, 1) := by decide +kernel
theorem dX6_sumAt_102 : decode cX6_sumAt 102 = .ok (.getfield 51, 3) := by decide +kernel
theorem dX6_sumAt_105 : decode cX6_sumAt 105 = .ok (.iload 4, 2) := by decide +kernel
theorem dX6_sumAt_107 : decode cX6_sumAt 107 = .ok (.aload_n 0, 1) := by decide +kernel
theorem dX6_sumAt_108 : decode cX6_sumAt 108 = .ok (.getfield 29, 3) := by decide +kernel
theorem dX6_sumAt_111 : decode cX6_sumAt 111 = .ok (.invokevirtual 105, 3) := by decide +kernel
theorem dX6_sumAt_114 : decode cX6_sumAt 114 = .ok (.ifCond .eq 16, 3) := by decide +kernel
theorem dX6_sumAt_117 : decode cX6_sumAt 117 = .ok (.iload_n 3, 1) := by decide +kernel
theorem dX6_sumAt_118 : decode cX6_sumAt 118 = .ok (.aload_n 0, 1) := by decide +kernel
theorem dX6_sumAt_119 : decode cX6_sumAt 119 = .ok (.getfield 51, 3) := by decide +kernel
theorem dX6_sumAt_122 : decode cX6_sumAt 122 = .ok (.getfield 109, 3) := by decide +kernel
theorem dX6_sumAt_125 : decode cX6_sumAt 125 = .ok (.iload 4, 2) := by decide +kernel
theorem dX6_sumAt_127 : decode cX6_sumAt 127 = .ok (.iaload, 1) := by decide +kernel
theorem dX6_sumAt_128 : decode cX6_sumAt 128 = .ok (.iadd, 1) := by decide +kernel
theorem dX6_sumAt_129 : decode cX6_sumAt 129 = .ok (.istore_n 3, 1) := by decide +kernel
theorem dX6_sumAt_130 : decode cX6_sumAt 130 = .ok (.iinc 4 1, 3) := by decide +kernel
theorem dX6_sumAt_133 : decode cX6_sumAt 133 = .ok (.goto (-44), 3) := by decide +kernel
theorem dX6_sumAt_136 : decode cX6_sumAt 136 = .ok (.iload_n 3, 1) := by decide +kernel
theorem dX6_sumAt_137 : decode cX6_sumAt 137 = .ok (.ireturn, 1) := by decide +kernel
theorem dX6_urge_0 : decode cX6_urge 0 = .ok (.iload_n 2, 1) := by decide +kernel
theorem dX6_urge_1 : decode cX6_urge 1 = .ok (.iconst 3, 1) := by decide +kernel
theorem dX6_urge_2 : decode cX6_urge 2 = .ok (.iload_n 3, 1) := by decide +kernel
theorem dX6_urge_3 : decode cX6_urge 3 = .ok (.imul, 1) := by decide +kernel
theorem dX6_urge_4 : decode cX6_urge 4 = .ok (.iadd, 1) := by decide +kernel
theorem dX6_urge_5 : decode cX6_urge 5 = .ok (.istore 4, 2) := by decide +kernel
theorem dX6_urge_7 : decode cX6_urge 7 = .ok (.aload_n 0, 1) := by decide +kernel
theorem dX6_urge_8 : decode cX6_urge 8 = .ok (.getfield 15, 3) := by decide +kernel
theorem dX6_urge_11 : decode cX6_urge 11 = .ok (.iload_n 1, 1) := by decide +kernel
theorem dX6_urge_12 : decode cX6_urge 12 = .ok (.iaload, 1) := by decide +kernel
theorem dX6_urge_13 : decode cX6_urge 13 = .ok (.istore 5, 2) := by decide +kernel
theorem dX6_urge_15 : decode cX6_urge 15 = .ok (.aload_n 0, 1) := by decide +kernel
theorem dX6_urge_16 : decode cX6_urge 16 = .ok (.getfield 9, 3) := by decide +kernel
theorem dX6_urge_19 : decode cX6_urge 19 = .ok (.iload_n 1, 1) := by decide +kernel
theorem dX6_urge_20 : decode cX6_urge 20 = .ok (.iaload, 1) := by decide +kernel
theorem dX6_urge_21 : decode cX6_urge 21 = .ok (.tableswitch 119 1 6 #[39, 45, 50, 57, 74, 94], 39) := by decide +kernel
theorem dX6_urge_60 : decode cX6_urge 60 = .ok (.iload 4, 2) := by decide +kernel
theorem dX6_urge_62 : decode cX6_urge 62 = .ok (.iload 5, 2) := by decide +kernel
theorem dX6_urge_64 : decode cX6_urge 64 = .ok (.iadd, 1) := by decide +kernel
theorem dX6_urge_65 : decode cX6_urge 65 = .ok (.ireturn, 1) := by decide +kernel
theorem dX6_urge_66 : decode cX6_urge 66 = .ok (.iload 4, 2) := by decide +kernel
theorem dX6_urge_68 : decode cX6_urge 68 = .ok (.iconst 2, 1) := by decide +kernel
theorem dX6_urge_69 : decode cX6_urge 69 = .ok (.idiv, 1) := by decide +kernel
theorem dX6_urge_70 : decode cX6_urge 70 = .ok (.ireturn, 1) := by decide +kernel
theorem dX6_urge_71 : decode cX6_urge 71 = .ok (.iload 4, 2) := by decide +kernel
theorem dX6_urge_73 : decode cX6_urge 73 = .ok (.iconst 2, 1) := by decide +kernel
theorem dX6_urge_74 : decode cX6_urge 74 = .ok (.iload_n 3, 1) := by decide +kernel
theorem dX6_urge_75 : decode cX6_urge 75 = .ok (.imul, 1) := by decide +kernel
theorem dX6_urge_76 : decode cX6_urge 76 = .ok (.iadd, 1) := by decide +kernel
theorem dX6_urge_77 : decode cX6_urge 77 = .ok (.ireturn, 1) := by decide +kernel
theorem dX6_urge_78 : decode cX6_urge 78 = .ok (.iload 4, 2) := by decide +kernel
theorem dX6_urge_80 : decode cX6_urge 80 = .ok (.iload 5, 2) := by decide +kernel
theorem dX6_urge_82 : decode cX6_urge 82 = .ok (.iadd, 1) := by decide +kernel
theorem dX6_urge_83 : decode cX6_urge 83 = .ok (.iload_n 3, 1) := by decide +kernel
theorem dX6_urge_84 : decode cX6_urge 84 = .ok (.iconst 2, 1) := by decide +kernel
theorem dX6_urge_85 : decode cX6_urge 85 = .ok (.if_icmp .ne 7, 3) := by decide +kernel
theorem dX6_urge_88 : decode cX6_urge 88 = .ok (.iconst 2, 1) := by decide +kernel
theorem dX6_urge_89 : decode cX6_urge 89 = .ok (.goto 4, 3) := by decide +kernel
theorem dX6_urge_92 : decode cX6_urge 92 = .ok (.iconst 1, 1) := by decide +kernel
theorem dX6_urge_93 : decode cX6_urge 93 = .ok (.imul, 1) := by decide +kernel
theorem dX6_urge_94 : decode cX6_urge 94 = .ok (.ireturn, 1) := by decide +kernel
theorem dX6_urge_95 : decode cX6_urge 95 = .ok (.iload 4, 2) := by decide +kernel
theorem dX6_urge_97 : decode cX6_urge 97 = .ok (.iconst 2, 1) := by decide +kernel
theorem dX6_urge_98 : decode cX6_urge 98 = .ok (.idiv, 1) := by decide +kernel
theorem dX6_urge_99 : decode cX6_urge 99 = .ok (.aload_n 0, 1) := by decide +kernel
theorem dX6_urge_100 : decode cX6_urge 100 = .ok (.getfield 48, 3) := by decide +kernel
theorem dX6_urge_103 : decode cX6_urge 103 = .ok (.iconst 4, 1) := by decide +kernel
theorem dX6_urge_104 : decode cX6_urge 104 = .ok (.irem, 1) := by decide +kernel
theorem dX6_urge_105 : decode cX6_urge 105 = .ok (.ifCond .ne 7, 3) := by decide +kernel
theorem dX6_urge_108 : decode cX6_urge 108 = .ok (.iconst 4, 1) := by decide +kernel
theorem dX6_urge_109 : decode cX6_urge 109 = .ok (.goto 4, 3) := by decide +kernel
theorem dX6_urge_112 : decode cX6_urge 112 = .ok (.iconst 0, 1) := by decide +kernel
theorem dX6_urge_113 : decode cX6_urge 113 = .ok (.isub, 1) := by decide +kernel
theorem dX6_urge_114 : decode cX6_urge 114 = .ok (.ireturn, 1) := by decide +kernel
theorem dX6_urge_115 : decode cX6_urge 115 = .ok (.iload 4, 2) := by decide +kernel
theorem dX6_urge_117 : decode cX6_urge 117 = .ok (.iconst 2, 1) := by decide +kernel
theorem dX6_urge_118 : decode cX6_urge 118 = .ok (.iload_n 3, 1) := by decide +kernel
theorem dX6_urge_119 : decode cX6_urge 119 = .ok (.imul, 1) := by decide +kernel
theorem dX6_urge_120 : decode cX6_urge 120 = .ok (.iadd, 1) := by decide +kernel
theorem dX6_urge_121 : decode cX6_urge 121 = .ok (.aload_n 0, 1) := by decide +kernel
theorem dX6_urge_122 : decode cX6_urge 122 = .ok (.getfield 21, 3) := by decide +kernel
theorem dX6_urge_125 : decode cX6_urge 125 = .ok (.iload_n 1, 1) := by decide +kernel
theorem dX6_urge_126 : decode cX6_urge 126 = .ok (.iconst 4, 1) := by decide +kernel
theorem dX6_urge_127 : decode cX6_urge 127 = .ok (.imul, 1) := by decide +kernel
theorem dX6_urge_128 : decode cX6_urge 128 = .ok (.aload_n 0, 1) := by decide +kernel
theorem dX6_urge_129 : decode cX6_urge 129 = .ok (.getfield 48, 3) := by decide +kernel
theorem dX6_urge_132 : decode cX6_urge 132 = .ok (.iconst 4, 1) := by decide +kernel
theorem dX6_urge_133 : decode cX6_urge 133 = .ok (.irem, 1) := by decide +kernel
theorem dX6_urge_134 : decode cX6_urge 134 = .ok (.iadd, 1) := by decide +kernel
theorem dX6_urge_135 : decode cX6_urge 135 = .ok (.iaload, 1) := by decide +kernel
theorem dX6_urge_136 : decode cX6_urge 136 = .ok (.iadd, 1) := by decide +kernel
theorem dX6_urge_137 : decode cX6_urge 137 = .ok (.iconst 4, 1) := by decide +kernel
theorem dX6_urge_138 : decode cX6_urge 138 = .ok (.isub, 1) := by decide +kernel
theorem dX6_urge_139 : decode cX6_urge 139 = .ok (.ireturn, 1) := by decide +kernel
theorem dX6_urge_140 : decode cX6_urge 140 = .ok (.iload 4, 2) := by decide +kernel
theorem dX6_urge_142 : decode cX6_urge 142 = .ok (.ireturn, 1) := by decide +kernel
theorem dX7_init_0 : decode cX7_init 0 = .ok (.aload_n 0, 1) := by decide +kernel
theorem dX7_init_1 : decode cX7_init 1 = .ok (.invokespecial 3, 3) := by decide +kernel
theorem dX7_init_4 : decode cX7_init 4 = .ok (.aload_n 0, 1) := by decide +kernel
theorem dX7_init_5 : decode cX7_init 5 = .ok (.new 9, 3) := by decide +kernel
theorem dX7_init_8 : decode cX7_init 8 = .ok (.dup, 1) := by decide +kernel
theorem dX7_init_9 : decode cX7_init 9 = .ok (.invokespecial 11, 3) := by decide +kernel
theorem dX7_init_12 : decode cX7_init 12 = .ok (.putfield 12, 3) := by decide +kernel
theorem dX7_init_15 : decode cX7_init 15 = .ok (.aload_n 0, 1) := by decide +kernel
theorem dX7_init_16 : decode cX7_init 16 = .ok (.new 9, 3) := by decide +kernel
theorem dX7_init_19 : decode cX7_init 19 = .ok (.dup, 1) := by decide +kernel
theorem dX7_init_20 : decode cX7_init 20 = .ok (.invokespecial 11, 3) := by decide +kernel
theorem dX7_init_23 : decode cX7_init 23 = .ok (.putfield 18, 3) := by decide +kernel
theorem dX7_init_26 : decode cX7_init 26 = .ok (.aload_n 0, 1) := by decide +kernel
theorem dX7_init_27 : decode cX7_init 27 = .ok (.new 21, 3) := by decide +kernel
theorem dX7_init_30 : decode cX7_init 30 = .ok (.dup, 1) := by decide +kernel
theorem dX7_init_31 : decode cX7_init 31 = .ok (.invokespecial 23, 3) := by decide +kernel
theorem dX7_init_34 : decode cX7_init 34 = .ok (.putfield 24, 3) := by decide +kernel
theorem dX7_init_37 : decode cX7_init 37 = .ok (.aload_n 0, 1) := by decide +kernel
theorem dX7_init_38 : decode cX7_init 38 = .ok (.new 28, 3) := by decide +kernel
theorem dX7_init_41 : decode cX7_init 41 = .ok (.dup, 1) := by decide +kernel
theorem dX7_init_42 : decode cX7_init 42 = .ok (.invokespecial 30, 3) := by decide +kernel
theorem dX7_init_45 : decode cX7_init 45 = .ok (.putfield 31, 3) := by decide +kernel
theorem dX7_init_48 : decode cX7_init 48 = .ok (.aload_n 0, 1) := by decide +kernel
theorem dX7_init_49 : decode cX7_init 49 = .ok (.bipush 6, 2) := by decide +kernel
theorem dX7_init_51 : decode cX7_init 51 = .ok (.anewarray 35, 3) := by decide +kernel
theorem dX7_init_54 : decode cX7_init 54 = .ok (.putfield 37, 3) := by decide +kernel
theorem dX7_init_57 : decode cX7_init 57 = .ok (.aload_n 0, 1) := by decide +kernel
theorem dX7_init_58 : decode cX7_init 58 = .ok (.new 41, 3) := by decide +kernel
theorem dX7_init_61 : decode cX7_init 61 = .ok (.dup, 1) := by decide +kernel
theorem dX7_init_62 : decode cX7_init 62 = .ok (.invokespecial 43, 3) := by decide +kernel
theorem dX7_init_65 : decode cX7_init 65 = .ok (.putfield 44, 3) := by decide +kernel
theorem dX7_init_68 : decode cX7_init 68 = .ok (.aload_n 0, 1) := by decide +kernel
theorem dX7_init_69 : decode cX7_init 69 = .ok (.bipush 6, 2) := by decide +kernel
theorem dX7_init_71 : decode cX7_init 71 = .ok (.anewarray 48, 3) := by decide +kernel
theorem dX7_init_74 : decode cX7_init 74 = .ok (.putfield 50, 3) := by decide +kernel
theorem dX7_init_77 : decode cX7_init 77 = .ok (.iconst 0, 1) := by decide +kernel
theorem dX7_init_78 : decode cX7_init 78 = .ok (.istore_n 1, 1) := by decide +kernel
theorem dX7_init_79 : decode cX7_init 79 = .ok (.iload_n 1, 1) := by decide +kernel
theorem dX7_init_80 : decode cX7_init 80 = .ok (.bipush 6, 2) := by decide +kernel
theorem dX7_init_82 : decode cX7_init 82 = .ok (.if_icmp .ge 22, 3) := by decide +kernel
theorem dX7_init_85 : decode cX7_init 85 = .ok (.aload_n 0, 1) := by decide +kernel
theorem dX7_init_86 : decode cX7_init 86 = .ok (.getfield 37, 3) := by decide +kernel
theorem dX7_init_89 : decode cX7_init 89 = .ok (.iload_n 1, 1) := by decide +kernel
theorem dX7_init_90 : decode cX7_init 90 = .ok (.new 35, 3) := by decide +kernel
theorem dX7_init_93 : decode cX7_init 93 = .ok (.dup, 1) := by decide +kernel
theorem dX7_init_94 : decode cX7_init 94 = .ok (.invokespecial 54, 3) := by decide +kernel
theorem dX7_init_97 : decode cX7_init 97 = .ok (.aastore, 1) := by decide +kernel
theorem dX7_init_98 : decode cX7_init 98 = .ok (.iinc 1 1, 3) := by decide +kernel
theorem dX7_init_101 : decode cX7_init 101 = .ok (.goto (-22), 3) := by decide +kernel
theorem dX7_init_104 : decode cX7_init 104 = .ok (.iconst 0, 1) := by decide +kernel
theorem dX7_init_105 : decode cX7_init 105 = .ok (.istore_n 1, 1) := by decide +kernel
theorem dX7_init_106 : decode cX7_init 106 = .ok (.iload_n 1, 1) := by decide +kernel
theorem dX7_init_107 : decode cX7_init 107 = .ok (.bipush 6, 2) := by decide +kernel
theorem dX7_init_109 : decode cX7_init 109 = .ok (.if_icmp .ge 22, 3) := by decide +kernel
theorem dX7_init_112 : decode cX7_init 112 = .ok (.aload_n 0, 1) := by decide +kernel
theorem dX7_init_113 : decode cX7_init 113 = .ok (.getfield 50, 3) := by decide +kernel
theorem dX7_init_116 : decode cX7_init 116 = .ok (.iload_n 1, 1) := by decide +kernel
theorem dX7_init_117 : decode cX7_init 117 = .ok (.new 48, 3) := by decide +kernel
theorem dX7_init_120 : decode cX7_init 120 = .ok (.dup, 1) := by decide +kernel
theorem dX7_init_121 : decode cX7_init 121 = .ok (.invokespecial 55, 3) := by decide +kernel
theorem dX7_init_124 : decode cX7_init 124 = .ok (.aastore, 1) := by decide +kernel
theorem dX7_init_125 : decode cX7_init 125 = .ok (.iinc 1 1, 3) := by decide +kernel
theorem dX7_init_128 : decode cX7_init 128 = .ok (.goto (-22), 3) := by decide +kernel
theorem dX7_init_131 : decode cX7_init 131 = .ok (.return_, 1) := by decide +kernel
theorem dX7_one_0 : decode cX7_one 0 = .ok (.iload_n 1, 1) := by decide +kernel
theorem dX7_one_1 : decode cX7_one 1 = .ok (.iconst 0, 1) := by decide +kernel
theorem dX7_one_2 : decode cX7_one 2 = .ok (.bipush 6, 2) := by decide +kernel
theorem dX7_one_4 : decode cX7_one 4 = .ok (.invokestatic 56, 3) := by decide +kernel
theorem dX7_one_7 : decode cX7_one 7 = .ok (.ifCond .ne 5, 3) := by decide +kernel
theorem dX7_one_10 : decode cX7_one 10 = .ok (.iconst (-1), 1) := by decide +kernel
theorem dX7_one_11 : decode cX7_one 11 = .ok (.ireturn, 1) := by decide +kernel
theorem dX7_one_12 : decode cX7_one 12 = .ok (.iload_n 2, 1) := by decide +kernel
theorem dX7_one_13 : decode cX7_one 13 = .ok (.iconst 0, 1) := by decide +kernel
theorem dX7_one_14 : decode cX7_one 14 = .ok (.bipush 9, 2) := by decide +kernel
theorem dX7_one_16 : decode cX7_one 16 = .ok (.invokestatic 56, 3) := by decide +kernel
theorem dX7_one_19 : decode cX7_one 19 = .ok (.ifCond .eq 13, 3) := by decide +kernel
theorem dX7_one_22 : decode cX7_one 22 = .ok (.iload_n 3, 1) := by decide +kernel
theorem dX7_one_23 : decode cX7_one 23 = .ok (.iconst 0, 1) := by decide +kernel
theorem dX7_one_24 : decode cX7_one 24 = .ok (.bipush 9, 2) := by decide +kernel
theorem dX7_one_26 : decode cX7_one 26 = .ok (.invokestatic 56, 3) := by decide +kernel
theorem dX7_one_29 : decode cX7_one 29 = .ok (.ifCond .ne 6, 3) := by decide +kernel
theorem dX7_one_32 : decode cX7_one 32 = .ok (.bipush (-2), 2) := by decide +kernel
theorem dX7_one_34 : decode cX7_one 34 = .ok (.ireturn, 1) := by decide +kernel
theorem dX7_one_35 : decode cX7_one 35 = .ok (.aload_n 0, 1) := by decide +kernel
theorem dX7_one_36 : decode cX7_one 36 = .ok (.getfield 12, 3) := by decide +kernel
theorem dX7_one_39 : decode cX7_one 39 = .ok (.getfield 60, 3) := by decide +kernel
theorem dX7_one_42 : decode cX7_one 42 = .ok (.getfield 63, 3) := by decide +kernel
theorem dX7_one_45 : decode cX7_one 45 = .ok (.bipush 6, 2) := by decide +kernel
theorem dX7_one_47 : decode cX7_one 47 = .ok (.if_icmp .lt 6, 3) := by decide +kernel
theorem dX7_one_50 : decode cX7_one 50 = .ok (.bipush (-4), 2) := by decide +kernel
theorem dX7_one_52 : decode cX7_one 52 = .ok (.ireturn, 1) := by decide +kernel
theorem dX7_one_53 : decode cX7_one 53 = .ok (.aload_n 0, 1) := by decide +kernel
theorem dX7_one_54 : decode cX7_one 54 = .ok (.getfield 12, 3) := by decide +kernel
theorem dX7_one_57 : decode cX7_one 57 = .ok (.getfield 60, 3) := by decide +kernel
theorem dX7_one_60 : decode cX7_one 60 = .ok (.iload_n 1, 1) := by decide +kernel
theorem dX7_one_61 : decode cX7_one 61 = .ok (.iload_n 2, 1) := by decide +kernel
theorem dX7_one_62 : decode cX7_one 62 = .ok (.iload_n 3, 1) := by decide +kernel
theorem dX7_one_63 : decode cX7_one 63 = .ok (.invokevirtual 67, 3) := by decide +kernel
theorem dX7_one_66 : decode cX7_one 66 = .ok (.ireturn, 1) := by decide +kernel
theorem dX7_of_0 : decode cX7_of 0 = .ok (.aload_n 0, 1) := by decide +kernel
theorem dX7_of_1 : decode cX7_of 1 = .ok (.iload_n 1, 1) := by decide +kernel
theorem dX7_of_2 : decode cX7_of 2 = .ok (.invokevirtual 71, 3) := by decide +kernel
theorem dX7_of_5 : decode cX7_of 5 = .ok (.ifCond .ne 7, 3) := by decide +kernel
theorem dX7_of_8 : decode cX7_of 8 = .ok (.sipush (-10001), 3) := by decide +kernel
theorem dX7_of_11 : decode cX7_of 11 = .ok (.ireturn, 1) := by decide +kernel
theorem dX7_of_12 : decode cX7_of 12 = .ok (.aload_n 0, 1) := by decide +kernel
theorem dX7_of_13 : decode cX7_of 13 = .ok (.getfield 12, 3) := by decide +kernel
theorem dX7_of_16 : decode cX7_of 16 = .ok (.getfield 60, 3) := by decide +kernel
theorem dX7_of_19 : decode cX7_of 19 = .ok (.astore_n 3, 1) := by decide +kernel
theorem dX7_of_20 : decode cX7_of 20 = .ok (.iload_n 2, 1) := by decide +kernel
theorem dX7_of_21 : decode cX7_of 21 = .ok (.tableswitch 146 0 12 #[67, 74, 81, 88, 102, 108, 117, 123, 146, 146, 136, 136, 136], 67) := by decide +kernel
theorem dX7_of_88 : decode cX7_of 88 = .ok (.aload_n 3, 1) := by decide +kernel
theorem dX7_of_89 : decode cX7_of 89 = .ok (.getfield 75, 3) := by decide +kernel
theorem dX7_of_92 : decode cX7_of 92 = .ok (.iload_n 1, 1) := by decide +kernel
theorem dX7_of_93 : decode cX7_of 93 = .ok (.iaload, 1) := by decide +kernel
theorem dX7_of_94 : decode cX7_of 94 = .ok (.ireturn, 1) := by decide +kernel
theorem dX7_of_95 : decode cX7_of 95 = .ok (.aload_n 3, 1) := by decide +kernel
theorem dX7_of_96 : decode cX7_of 96 = .ok (.getfield 79, 3) := by decide +kernel
theorem dX7_of_99 : decode cX7_of 99 = .ok (.iload_n 1, 1) := by decide +kernel
theorem dX7_of_100 : decode cX7_of 100 = .ok (.iaload, 1) := by decide +kernel
theorem dX7_of_101 : decode cX7_of 101 = .ok (.ireturn, 1) := by decide +kernel
theorem dX7_of_102 : decode cX7_of 102 = .ok (.aload_n 3, 1) := by decide +kernel
theorem dX7_of_103 : decode cX7_of 103 = .ok (.getfield 82, 3) := by decide +kernel
theorem dX7_of_106 : decode cX7_of 106 = .ok (.iload_n 1, 1) := by decide +kernel
theorem dX7_of_107 : decode cX7_of 107 = .ok (.iaload, 1) := by decide +kernel
theorem dX7_of_108 : decode cX7_of 108 = .ok (.ireturn, 1) := by decide +kernel
theorem dX7_of_109 : decode cX7_of 109 = .ok (.aload_n 3, 1) := by decide +kernel
theorem dX7_of_110 : decode cX7_of 110 = .ok (.iload_n 1, 1) := by decide +kernel
theorem dX7_of_111 : decode cX7_of 111 = .ok (.invokevirtual 85, 3) := by decide +kernel
theorem dX7_of_114 : decode cX7_of 114 = .ok (.ifCond .ge 7, 3) := by decide +kernel
theorem dX7_of_117 : decode cX7_of 117 = .ok (.iconst 1, 1) := by decide +kernel
theorem dX7_of_118 : decode cX7_of 118 = .ok (.goto 4, 3) := by decide +kernel
theorem dX7_of_121 : decode cX7_of 121 = .ok (.iconst 0, 1) := by decide +kernel
theorem dX7_of_122 : decode cX7_of 122 = .ok (.ireturn, 1) := by decide +kernel
theorem dX7_of_123 : decode cX7_of 123 = .ok (.aload_n 0, 1) := by decide +kernel
theorem dX7_of_124 : decode cX7_of 124 = .ok (.iload_n 1, 1) := by decide +kernel
theorem dX7_of_125 : decode cX7_of 125 = .ok (.invokevirtual 89, 3) := by decide +kernel
theorem dX7_of_128 : decode cX7_of 128 = .ok (.ireturn, 1) := by decide +kernel
theorem dX7_of_129 : decode cX7_of 129 = .ok (.aload_n 3, 1) := by decide +kernel
theorem dX7_of_130 : decode cX7_of 130 = .ok (.invokevirtual 92, 3) := by decide +kernel
theorem dX7_of_133 : decode cX7_of 133 = .ok (.iload_n 1, 1) := by decide +kernel
theorem dX7_of_134 : decode cX7_of 134 = .ok (.ishr, 1) := by decide +kernel
theorem dX7_of_135 : decode cX7_of 135 = .ok (.iconst 1, 1) := by decide +kernel
theorem dX7_of_136 : decode cX7_of 136 = .ok (.iand, 1) := by decide +kernel
theorem dX7_of_137 : decode cX7_of 137 = .ok (.ireturn, 1) := by decide +kernel
theorem dX7_of_138 : decode cX7_of 138 = .ok (.aload_n 0, 1) := by decide +kernel
theorem dX7_of_139 : decode cX7_of 139 = .ok (.iload_n 1, 1) := by decide +kernel
theorem dX7_of_140 : decode cX7_of 140 = .ok (.invokevirtual 96, 3) := by decide +kernel
theorem dX7_of_143 : decode cX7_of 143 = .ok (.ireturn, 1) := by decide +kernel
theorem dX7_of_144 : decode cX7_of 144 = .ok (.aload_n 0, 1) := by decide +kernel
theorem dX7_of_145 : decode cX7_of 145 = .ok (.aload_n 0, 1) := by decide +kernel
theorem dX7_of_146 : decode cX7_of 146 = .ok (.getfield 24, 3) := by decide +kernel
theorem dX7_of_149 : decode cX7_of 149 = .ok (.getfield 82, 3) := by decide +kernel
theorem dX7_of_152 : decode cX7_of 152 = .ok (.iload_n 1, 1) := by decide +kernel
theorem dX7_of_153 : decode cX7_of 153 = .ok (.invokevirtual 99, 3) := by decide +kernel
theorem dX7_of_156 : decode cX7_of 156 = .ok (.ireturn, 1) := by decide +kernel
theorem dX7_of_157 : decode cX7_of 157 = .ok (.aload_n 0, 1) := by decide +kernel
theorem dX7_of_158 : decode cX7_of 158 = .ok (.iload_n 1, 1) := by decide +kernel
theorem dX7_of_159 : decode cX7_of 159 = .ok (.iload_n 2, 1) := by decide +kernel
theorem dX7_of_160 : decode cX7_of 160 = .ok (.bipush 10, 2) := by decide +kernel
theorem dX7_of_162 : decode cX7_of 162 = .ok (.isub, 1) := by decide +kernel
theorem dX7_of_163 : decode cX7_of 163 = .ok (.invokevirtual 103, 3) := by decide +kernel
theorem dX7_of_166 : decode cX7_of 166 = .ok (.ireturn, 1) := by decide +kernel
theorem dX7_of_167 : decode cX7_of 167 = .ok (.sipush (-10001), 3) := by decide +kernel
theorem dX7_of_170 : decode cX7_of 170 = .ok (.ireturn, 1) := by decide +kernel
theorem dX7_cheer_0 : decode cX7_cheer 0 = .ok (.aload_n 0, 1) := by decide +kernel
theorem dX7_cheer_1 : decode cX7_cheer 1 = .ok (.iload_n 1, 1) := by decide +kernel
theorem dX7_cheer_2 : decode cX7_cheer 2 = .ok (.invokevirtual 71, 3) := by decide +kernel
theorem dX7_cheer_5 : decode cX7_cheer 5 = .ok (.ifCond .ne 5, 3) := by decide +kernel
theorem dX7_cheer_8 : decode cX7_cheer 8 = .ok (.iconst (-1), 1) := by decide +kernel
theorem dX7_cheer_9 : decode cX7_cheer 9 = .ok (.ireturn, 1) := by decide +kernel
theorem dX7_cheer_10 : decode cX7_cheer 10 = .ok (.iload_n 2, 1) := by decide +kernel
theorem dX7_cheer_11 : decode cX7_cheer 11 = .ok (.iconst 0, 1) := by decide +kernel
theorem dX7_cheer_12 : decode cX7_cheer 12 = .ok (.bipush 9, 2) := by decide +kernel
theorem dX7_cheer_14 : decode cX7_cheer 14 = .ok (.invokestatic 56, 3) := by decide +kernel
theorem dX7_cheer_17 : decode cX7_cheer 17 = .ok (.ifCond .ne 6, 3) := by decide +kernel
theorem dX7_cheer_20 : decode cX7_cheer 20 = .ok (.bipush (-2), 2) := by decide +kernel
theorem dX7_cheer_22 : decode cX7_cheer 22 = .ok (.ireturn, 1) := by decide +kernel
theorem dX7_cheer_23 : decode cX7_cheer 23 = .ok (.aload_n 0, 1) := by decide +kernel
theorem dX7_cheer_24 : decode cX7_cheer 24 = .ok (.getfield 12, 3) := by decide +kernel
theorem dX7_cheer_27 : decode cX7_cheer 27 = .ok (.getfield 60, 3) := by decide +kernel
theorem dX7_cheer_30 : decode cX7_cheer 30 = .ok (.getfield 82, 3) := by decide +kernel
theorem dX7_cheer_33 : decode cX7_cheer 33 = .ok (.iload_n 1, 1) := by decide +kernel
theorem dX7_cheer_34 : decode cX7_cheer 34 = .ok (.iaload, 1) := by decide +kernel
theorem dX7_cheer_35 : decode cX7_cheer 35 = .ok (.istore_n 3, 1) := by decide +kernel
theorem dX7_cheer_36 : decode cX7_cheer 36 = .ok (.aload_n 0, 1) := by decide +kernel
theorem dX7_cheer_37 : decode cX7_cheer 37 = .ok (.getfield 12, 3) := by decide +kernel
theorem dX7_cheer_40 : decode cX7_cheer 40 = .ok (.getfield 60, 3) := by decide +kernel
theorem dX7_cheer_43 : decode cX7_cheer 43 = .ok (.getfield 82, 3) := by decide +kernel
theorem dX7_cheer_46 : decode cX7_cheer 46 = .ok (.iload_n 1, 1) := by decide +kernel
theorem dX7_cheer_47 : decode cX7_cheer 47 = .ok (.iload_n 2, 1) := by decide +kernel
theorem dX7_cheer_48 : decode cX7_cheer 48 = .ok (.iastore, 1) := by decide +kernel
theorem dX7_cheer_49 : decode cX7_cheer 49 = .ok (.iload_n 3, 1) := by decide +kernel
theorem dX7_cheer_50 : decode cX7_cheer 50 = .ok (.ireturn, 1) := by decide +kernel
theorem dX7_swap_0 : decode cX7_swap 0 = .ok (.aload_n 0, 1) := by decide +kernel
theorem dX7_swap_1 : decode cX7_swap 1 = .ok (.iload_n 1, 1) := by decide +kernel
theorem dX7_swap_2 : decode cX7_swap 2 = .ok (.invokevirtual 71, 3) := by decide +kernel
theorem dX7_swap_5 : decode cX7_swap 5 = .ok (.ifCond .eq 11, 3) := by decide +kernel
theorem dX7_swap_8 : decode cX7_swap 8 = .ok (.aload_n 0, 1) := by decide +kernel
theorem dX7_swap_9 : decode cX7_swap 9 = .ok (.iload_n 2, 1) := by decide +kernel
theorem dX7_swap_10 : decode cX7_swap 10 = .ok (.invokevirtual 71, 3) := by decide +kernel
theorem dX7_swap_13 : decode cX7_swap 13 = .ok (.ifCond .ne 5, 3) := by decide +kernel
theorem dX7_swap_16 : decode cX7_swap 16 = .ok (.iconst (-1), 1) := by decide +kernel
theorem dX7_swap_17 : decode cX7_swap 17 = .ok (.ireturn, 1) := by decide +kernel
theorem dX7_swap_18 : decode cX7_swap 18 = .ok (.iload_n 1, 1) := by decide +kernel
theorem dX7_swap_19 : decode cX7_swap 19 = .ok (.iload_n 2, 1) := by decide +kernel
theorem dX7_swap_20 : decode cX7_swap 20 = .ok (.if_icmp .ne 6, 3) := by decide +kernel
theorem dX7_swap_23 : decode cX7_swap 23 = .ok (.bipush (-2), 2) := by decide +kernel
theorem dX7_swap_25 : decode cX7_swap 25 = .ok (.ireturn, 1) := by decide +kernel
theorem dX7_swap_26 : decode cX7_swap 26 = .ok (.aload_n 0, 1) := by decide +kernel
theorem dX7_swap_27 : decode cX7_swap 27 = .ok (.getfield 12, 3) := by decide +kernel
theorem dX7_swap_30 : decode cX7_swap 30 = .ok (.getfield 60, 3) := by decide +kernel
theorem dX7_swap_33 : decode cX7_swap 33 = .ok (.iload_n 1, 1) := by decide +kernel
theorem dX7_swap_34 : decode cX7_swap 34 = .ok (.iload_n 2, 1) := by decide +kernel
theorem dX7_swap_35 : decode cX7_swap 35 = .ok (.invokevirtual 107, 3) := by decide +kernel
theorem dX7_swap_38 : decode cX7_swap 38 = .ok (.ifCond .eq 17, 3) := by decide +kernel
theorem dX7_swap_41 : decode cX7_swap 41 = .ok (.aload_n 0, 1) := by decide +kernel
theorem dX7_swap_42 : decode cX7_swap 42 = .ok (.getfield 12, 3) := by decide +kernel
theorem dX7_swap_45 : decode cX7_swap 45 = .ok (.getfield 60, 3) := by decide +kernel
theorem dX7_swap_48 : decode cX7_swap 48 = .ok (.iload_n 1, 1) := by decide +kernel
theorem dX7_swap_49 : decode cX7_swap 49 = .ok (.invokevirtual 85, 3) := by decide +kernel
theorem dX7_swap_52 : decode cX7_swap 52 = .ok (.goto 5, 3) := by decide +kernel
theorem dX7_swap_55 : decode cX7_swap 55 = .ok (.bipush (-3), 2) := by decide +kernel
theorem dX7_swap_57 : decode cX7_swap 57 = .ok (.ireturn, 1) := by decide +kernel
theorem dX7_again_0 : decode cX7_again 0 = .ok (.aload_n 0, 1) := by decide +kernel
theorem dX7_again_1 : decode cX7_again 1 = .ok (.iload_n 1, 1) := by decide +kernel
theorem dX7_again_2 : decode cX7_again 2 = .ok (.invokevirtual 71, 3) := by decide +kernel
theorem dX7_again_5 : decode cX7_again 5 = .ok (.ifCond .ne 5, 3) := by decide +kernel
theorem dX7_again_8 : decode cX7_again 8 = .ok (.iconst (-1), 1) := by decide +kernel
theorem dX7_again_9 : decode cX7_again 9 = .ok (.ireturn, 1) := by decide +kernel
theorem dX7_again_10 : decode cX7_again 10 = .ok (.aload_n 0, 1) := by decide +kernel
theorem dX7_again_11 : decode cX7_again 11 = .ok (.getfield 12, 3) := by decide +kernel
theorem dX7_again_14 : decode cX7_again 14 = .ok (.getfield 60, 3) := by decide +kernel
theorem dX7_again_17 : decode cX7_again 17 = .ok (.iload_n 1, 1) := by decide +kernel
theorem dX7_again_18 : decode cX7_again 18 = .ok (.invokevirtual 85, 3) := by decide +kernel
theorem dX7_again_21 : decode cX7_again 21 = .ok (.ifCond .lt 6, 3) := by decide +kernel
theorem dX7_again_24 : decode cX7_again 24 = .ok (.bipush (-3), 2) := by decide +kernel
theorem dX7_again_26 : decode cX7_again 26 = .ok (.ireturn, 1) := by decide +kernel
theorem dX7_again_27 : decode cX7_again 27 = .ok (.aload_n 0, 1) := by decide +kernel
theorem dX7_again_28 : decode cX7_again 28 = .ok (.getfield 12, 3) := by decide +kernel
theorem dX7_again_31 : decode cX7_again 31 = .ok (.getfield 60, 3) := by decide +kernel
theorem dX7_again_34 : decode cX7_again 34 = .ok (.iload_n 1, 1) := by decide +kernel
theorem dX7_again_35 : decode cX7_again 35 = .ok (.invokevirtual 111, 3) := by decide +kernel
theorem dX7_again_38 : decode cX7_again 38 = .ok (.aload_n 0, 1) := by decide +kernel
theorem dX7_again_39 : decode cX7_again 39 = .ok (.getfield 12, 3) := by decide +kernel
theorem dX7_again_42 : decode cX7_again 42 = .ok (.getfield 60, 3) := by decide +kernel
theorem dX7_again_45 : decode cX7_again 45 = .ok (.iload_n 1, 1) := by decide +kernel
theorem dX7_again_46 : decode cX7_again 46 = .ok (.invokevirtual 85, 3) := by decide +kernel
theorem dX7_again_49 : decode cX7_again 49 = .ok (.ireturn, 1) := by decide +kernel
theorem dX7_down_0 : decode cX7_down 0 = .ok (.iload_n 1, 1) := by decide +kernel
theorem dX7_down_1 : decode cX7_down 1 = .ok (.iconst 0, 1) := by decide +kernel
theorem dX7_down_2 : decode cX7_down 2 = .ok (.bipush 99, 2) := by decide +kernel
theorem dX7_down_4 : decode cX7_down 4 = .ok (.invokestatic 56, 3) := by decide +kernel
theorem dX7_down_7 : decode cX7_down 7 = .ok (.ifCond .ne 6, 3) := by decide +kernel
theorem dX7_down_10 : decode cX7_down 10 = .ok (.bipush (-2), 2) := by decide +kernel
theorem dX7_down_12 : decode cX7_down 12 = .ok (.ireturn, 1) := by decide +kernel
theorem dX7_down_13 : decode cX7_down 13 = .ok (.aload_n 0, 1) := by decide +kernel
theorem dX7_down_14 : decode cX7_down 14 = .ok (.getfield 12, 3) := by decide +kernel
theorem dX7_down_17 : decode cX7_down 17 = .ok (.getfield 60, 3) := by decide +kernel
theorem dX7_down_20 : decode cX7_down 20 = .ok (.getfield 115, 3) := by decide +kernel
theorem dX7_down_23 : decode cX7_down 23 = .ok (.istore_n 2, 1) := by decide +kernel
theorem dX7_down_24 : decode cX7_down 24 = .ok (.aload_n 0, 1) := by decide +kernel
theorem dX7_down_25 : decode cX7_down 25 = .ok (.getfield 12, 3) := by decide +kernel
theorem dX7_down_28 : decode cX7_down 28 = .ok (.getfield 60, 3) := by decide +kernel
theorem dX7_down_31 : decode cX7_down 31 = .ok (.iload_n 1, 1) := by decide +kernel
theorem dX7_down_32 : decode cX7_down 32 = .ok (.putfield 115, 3) := by decide +kernel
theorem dX7_down_35 : decode cX7_down 35 = .ok (.iload_n 2, 1) := by decide +kernel
theorem dX7_down_36 : decode cX7_down 36 = .ok (.ireturn, 1) := by decide +kernel
theorem dX7_row_0 : decode cX7_row 0 = .ok (.aload_n 0, 1) := by decide +kernel
theorem dX7_row_1 : decode cX7_row 1 = .ok (.iload_n 1, 1) := by decide +kernel
theorem dX7_row_2 : decode cX7_row 2 = .ok (.invokevirtual 71, 3) := by decide +kernel
theorem dX7_row_5 : decode cX7_row 5 = .ok (.ifCond .eq 12, 3) := by decide +kernel
theorem dX7_row_8 : decode cX7_row 8 = .ok (.iload_n 2, 1) := by decide +kernel
theorem dX7_row_9 : decode cX7_row 9 = .ok (.iconst 0, 1) := by decide +kernel
theorem dX7_row_10 : decode cX7_row 10 = .ok (.iconst 3, 1) := by decide +kernel
theorem dX7_row_11 : decode cX7_row 11 = .ok (.invokestatic 56, 3) := by decide +kernel
theorem dX7_row_14 : decode cX7_row 14 = .ok (.ifCond .ne 5, 3) := by decide +kernel
theorem dX7_row_17 : decode cX7_row 17 = .ok (.iconst (-1), 1) := by decide +kernel
theorem dX7_row_18 : decode cX7_row 18 = .ok (.ireturn, 1) := by decide +kernel
theorem dX7_row_19 : decode cX7_row 19 = .ok (.iload_n 3, 1) := by decide +kernel
theorem dX7_row_20 : decode cX7_row 20 = .ok (.iconst 0, 1) := by decide +kernel
theorem dX7_row_21 : decode cX7_row 21 = .ok (.bipush 9, 2) := by decide +kernel
theorem dX7_row_23 : decode cX7_row 23 = .ok (.invokestatic 56, 3) := by decide +kernel
theorem dX7_row_26 : decode cX7_row 26 = .ok (.ifCond .ne 6, 3) := by decide +kernel
theorem dX7_row_29 : decode cX7_row 29 = .ok (.bipush (-2), 2) := by decide +kernel
theorem dX7_row_31 : decode cX7_row 31 = .ok (.ireturn, 1) := by decide +kernel
theorem dX7_row_32 : decode cX7_row 32 = .ok (.aload_n 0, 1) := by decide +kernel
theorem dX7_row_33 : decode cX7_row 33 = .ok (.getfield 12, 3) := by decide +kernel
theorem dX7_row_36 : decode cX7_row 36 = .ok (.getfield 60, 3) := by decide +kernel
theorem dX7_row_39 : decode cX7_row 39 = .ok (.getfield 75, 3) := by decide +kernel
theorem dX7_row_42 : decode cX7_row 42 = .ok (.iload_n 1, 1) := by decide +kernel
theorem dX7_row_43 : decode cX7_row 43 = .ok (.iaload, 1) := by decide +kernel
theorem dX7_row_44 : decode cX7_row 44 = .ok (.bipush 6, 2) := by decide +kernel
theorem dX7_row_46 : decode cX7_row 46 = .ok (.if_icmp .eq 6, 3) := by decide +kernel
theorem dX7_row_49 : decode cX7_row 49 = .ok (.bipush (-3), 2) := by decide +kernel
theorem dX7_row_51 : decode cX7_row 51 = .ok (.ireturn, 1) := by decide +kernel
theorem dX7_row_52 : decode cX7_row 52 = .ok (.aload_n 0, 1) := by decide +kernel
theorem dX7_row_53 : decode cX7_row 53 = .ok (.getfield 12, 3) := by decide +kernel
theorem dX7_row_56 : decode cX7_row 56 = .ok (.getfield 60, 3) := by decide +kernel
theorem dX7_row_59 : decode cX7_row 59 = .ok (.getfield 118, 3) := by decide +kernel
theorem dX7_row_62 : decode cX7_row 62 = .ok (.iload_n 1, 1) := by decide +kernel
theorem dX7_row_63 : decode cX7_row 63 = .ok (.iconst 4, 1) := by decide +kernel
theorem dX7_row_64 : decode cX7_row 64 = .ok (.imul, 1) := by decide +kernel
theorem dX7_row_65 : decode cX7_row 65 = .ok (.iload_n 2, 1) := by decide +kernel
theorem dX7_row_66 : decode cX7_row 66 = .ok (.iadd, 1) := by decide +kernel
theorem dX7_row_67 : decode cX7_row 67 = .ok (.iaload, 1) := by decide +kernel
theorem dX7_row_68 : decode cX7_row 68 = .ok (.istore 4, 2) := by decide +kernel
theorem dX7_row_70 : decode cX7_row 70 = .ok (.aload_n 0, 1) := by decide +kernel
theorem dX7_row_71 : decode cX7_row 71 = .ok (.getfield 12, 3) := by decide +kernel
theorem dX7_row_74 : decode cX7_row 74 = .ok (.getfield 60, 3) := by decide +kernel
theorem dX7_row_77 : decode cX7_row 77 = .ok (.getfield 118, 3) := by decide +kernel
theorem dX7_row_80 : decode cX7_row 80 = .ok (.iload_n 1, 1) := by decide +kernel
theorem dX7_row_81 : decode cX7_row 81 = .ok (.iconst 4, 1) := by decide +kernel
theorem dX7_row_82 : decode cX7_row 82 = .ok (.imul, 1) := by decide +kernel
theorem dX7_row_83 : decode cX7_row 83 = .ok (.iload_n 2, 1) := by decide +kernel
theorem dX7_row_84 : decode cX7_row 84 = .ok (.iadd, 1) := by decide +kernel
theorem dX7_row_85 : decode cX7_row 85 = .ok (.iload_n 3, 1) := by decide +kernel
theorem dX7_row_86 : decode cX7_row 86 = .ok (.iastore, 1) := by decide +kernel
theorem dX7_row_87 : decode cX7_row 87 = .ok (.iload 4, 2) := by decide +kernel
theorem dX7_row_89 : decode cX7_row 89 = .ok (.ireturn, 1) := by decide +kernel
theorem dX7_feed_0 : decode cX7_feed 0 = .ok (.iload_n 1, 1) := by decide +kernel
theorem dX7_feed_1 : decode cX7_feed 1 = .ok (.iconst 0, 1) := by decide +kernel
theorem dX7_feed_2 : decode cX7_feed 2 = .ok (.bipush 127, 2) := by decide +kernel
theorem dX7_feed_4 : decode cX7_feed 4 = .ok (.invokestatic 56, 3) := by decide +kernel
theorem dX7_feed_7 : decode cX7_feed 7 = .ok (.ifCond .ne 6, 3) := by decide +kernel
theorem dX7_feed_10 : decode cX7_feed 10 = .ok (.bipush (-2), 2) := by decide +kernel
theorem dX7_feed_12 : decode cX7_feed 12 = .ok (.ireturn, 1) := by decide +kernel
theorem dX7_feed_13 : decode cX7_feed 13 = .ok (.aload_n 0, 1) := by decide +kernel
theorem dX7_feed_14 : decode cX7_feed 14 = .ok (.getfield 31, 3) := by decide +kernel
theorem dX7_feed_17 : decode cX7_feed 17 = .ok (.getfield 121, 3) := by decide +kernel
theorem dX7_feed_20 : decode cX7_feed 20 = .ok (.bipush 100, 2) := by decide +kernel
theorem dX7_feed_22 : decode cX7_feed 22 = .ok (.if_icmp .lt 6, 3) := by decide +kernel
theorem dX7_feed_25 : decode cX7_feed 25 = .ok (.bipush (-4), 2) := by decide +kernel
theorem dX7_feed_27 : decode cX7_feed 27 = .ok (.ireturn, 1) := by decide +kernel
theorem dX7_feed_28 : decode cX7_feed 28 = .ok (.aload_n 0, 1) := by decide +kernel
theorem dX7_feed_29 : decode cX7_feed 29 = .ok (.getfield 31, 3) := by decide +kernel
theorem dX7_feed_32 : decode cX7_feed 32 = .ok (.getfield 124, 3) := by decide +kernel
theorem dX7_feed_35 : decode cX7_feed 35 = .ok (.aload_n 0, 1) := by decide +kernel
theorem dX7_feed_36 : decode cX7_feed 36 = .ok (.getfield 31, 3) := by decide +kernel
theorem dX7_feed_39 : decode cX7_feed 39 = .ok (.getfield 121, 3) := by decide +kernel
theorem dX7_feed_42 : decode cX7_feed 42 = .ok (.iload_n 1, 1) := by decide +kernel
theorem dX7_feed_43 : decode cX7_feed 43 = .ok (.i2b, 1) := by decide +kernel
theorem dX7_feed_44 : decode cX7_feed 44 = .ok (.bastore, 1) := by decide +kernel
theorem dX7_feed_45 : decode cX7_feed 45 = .ok (.aload_n 0, 1) := by decide +kernel
theorem dX7_feed_46 : decode cX7_feed 46 = .ok (.getfield 31, 3) := by decide +kernel
theorem dX7_feed_49 : decode cX7_feed 49 = .ok (.dup, 1) := by decide +kernel
theorem dX7_feed_50 : decode cX7_feed 50 = .ok (.getfield 121, 3) := by decide +kernel
theorem dX7_feed_53 : decode cX7_feed 53 = .ok (.iconst 1, 1) := by decide +kernel
theorem dX7_feed_54 : decode cX7_feed 54 = .ok (.iadd, 1) := by decide +kernel
theorem dX7_feed_55 : decode cX7_feed 55 = .ok (.putfield 121, 3) := by decide +kernel
theorem dX7_feed_58 : decode cX7_feed 58 = .ok (.aload_n 0, 1) := by decide +kernel
theorem dX7_feed_59 : decode cX7_feed 59 = .ok (.getfield 31, 3) := by decide +kernel
theorem dX7_feed_62 : decode cX7_feed 62 = .ok (.getfield 121, 3) := by decide +kernel
theorem dX7_feed_65 : decode cX7_feed 65 = .ok (.ireturn, 1) := by decide +kernel
theorem dX7_city_0 : decode cX7_city 0 = .ok (.aload_n 0, 1) := by decide +kernel
theorem dX7_city_1 : decode cX7_city 1 = .ok (.getfield 128, 3) := by decide +kernel
theorem dX7_city_4 : decode cX7_city 4 = .ok (.bipush 6, 2) := by decide +kernel
theorem dX7_city_6 : decode cX7_city 6 = .ok (.if_icmp .lt 6, 3) := by decide +kernel
theorem dX7_city_9 : decode cX7_city 9 = .ok (.bipush (-4), 2) := by decide +kernel
theorem dX7_city_11 : decode cX7_city 11 = .ok (.ireturn, 1) := by decide +kernel
theorem dX7_city_12 : decode cX7_city 12 = .ok (.aload_n 0, 1) := by decide +kernel
theorem dX7_city_13 : decode cX7_city 13 = .ok (.getfield 37, 3) := by decide +kernel
theorem dX7_city_16 : decode cX7_city 16 = .ok (.aload_n 0, 1) := by decide +kernel
theorem dX7_city_17 : decode cX7_city 17 = .ok (.getfield 128, 3) := by decide +kernel
theorem dX7_city_20 : decode cX7_city 20 = .ok (.aaload, 1) := by decide +kernel
theorem dX7_city_21 : decode cX7_city 21 = .ok (.astore_n 1, 1) := by decide +kernel
theorem dX7_city_22 : decode cX7_city 22 = .ok (.aload_n 0, 1) := by decide +kernel
theorem dX7_city_23 : decode cX7_city 23 = .ok (.getfield 31, 3) := by decide +kernel
theorem dX7_city_26 : decode cX7_city 26 = .ok (.aload_n 1, 1) := by decide +kernel
theorem dX7_city_27 : decode cX7_city 27 = .ok (.invokevirtual 131, 3) := by decide +kernel
theorem dX7_city_30 : decode cX7_city 30 = .ok (.istore_n 2, 1) := by decide +kernel
theorem dX7_city_31 : decode cX7_city 31 = .ok (.aload_n 0, 1) := by decide +kernel
theorem dX7_city_32 : decode cX7_city 32 = .ok (.getfield 31, 3) := by decide +kernel
theorem dX7_city_35 : decode cX7_city 35 = .ok (.iconst 0, 1) := by decide +kernel
theorem dX7_city_36 : decode cX7_city 36 = .ok (.putfield 121, 3) := by decide +kernel
theorem dX7_city_39 : decode cX7_city 39 = .ok (.iload_n 2, 1) := by decide +kernel
theorem dX7_city_40 : decode cX7_city 40 = .ok (.ifCond .ne 14, 3) := by decide +kernel
theorem dX7_city_43 : decode cX7_city 43 = .ok (.bipush (-10), 2) := by decide +kernel
theorem dX7_city_45 : decode cX7_city 45 = .ok (.aload_n 0, 1) := by decide +kernel
theorem dX7_city_46 : decode cX7_city 46 = .ok (.getfield 31, 3) := by decide +kernel
theorem dX7_city_49 : decode cX7_city 49 = .ok (.getfield 135, 3) := by decide +kernel
theorem dX7_city_52 : decode cX7_city 52 = .ok (.isub, 1) := by decide +kernel
theorem dX7_city_53 : decode cX7_city 53 = .ok (.ireturn, 1) := by decide +kernel
theorem dX7_city_54 : decode cX7_city 54 = .ok (.aload_n 0, 1) := by decide +kernel
theorem dX7_city_55 : decode cX7_city 55 = .ok (.getfield 12, 3) := by decide +kernel
theorem dX7_city_58 : decode cX7_city 58 = .ok (.getfield 60, 3) := by decide +kernel
theorem dX7_city_61 : decode cX7_city 61 = .ok (.aload_n 1, 1) := by decide +kernel
theorem dX7_city_62 : decode cX7_city 62 = .ok (.putfield 138, 3) := by decide +kernel
theorem dX7_city_65 : decode cX7_city 65 = .ok (.aload_n 0, 1) := by decide +kernel
theorem dX7_city_66 : decode cX7_city 66 = .ok (.dup, 1) := by decide +kernel
theorem dX7_city_67 : decode cX7_city 67 = .ok (.getfield 128, 3) := by decide +kernel
theorem dX7_city_70 : decode cX7_city 70 = .ok (.iconst 1, 1) := by decide +kernel
theorem dX7_city_71 : decode cX7_city 71 = .ok (.iadd, 1) := by decide +kernel
theorem dX7_city_72 : decode cX7_city 72 = .ok (.putfield 128, 3) := by decide +kernel
theorem dX7_city_75 : decode cX7_city 75 = .ok (.aload_n 0, 1) := by decide +kernel
theorem dX7_city_76 : decode cX7_city 76 = .ok (.getfield 128, 3) := by decide +kernel
theorem dX7_city_79 : decode cX7_city 79 = .ok (.iconst 1, 1) := by decide +kernel
theorem dX7_city_80 : decode cX7_city 80 = .ok (.isub, 1) := by decide +kernel
theorem dX7_city_81 : decode cX7_city 81 = .ok (.ireturn, 1) := by decide +kernel
theorem dX7_told_0 : decode cX7_told 0 = .ok (.aload_n 0, 1) := by decide +kernel
theorem dX7_told_1 : decode cX7_told 1 = .ok (.getfield 12, 3) := by decide +kernel
theorem dX7_told_4 : decode cX7_told 4 = .ok (.getfield 60, 3) := by decide +kernel
theorem dX7_told_7 : decode cX7_told 7 = .ok (.astore_n 2, 1) := by decide +kernel
theorem dX7_told_8 : decode cX7_told 8 = .ok (.iload_n 1, 1) := by decide +kernel
theorem dX7_told_9 : decode cX7_told 9 = .ok (.tableswitch 114 0 9 #[55, 60, 65, 70, 75, 80, 85, 90, 99, 104], 55) := by decide +kernel
theorem dX7_told_64 : decode cX7_told 64 = .ok (.aload_n 2, 1) := by decide +kernel
theorem dX7_told_65 : decode cX7_told 65 = .ok (.getfield 142, 3) := by decide +kernel
theorem dX7_told_68 : decode cX7_told 68 = .ok (.ireturn, 1) := by decide +kernel
theorem dX7_told_69 : decode cX7_told 69 = .ok (.aload_n 2, 1) := by decide +kernel
theorem dX7_told_70 : decode cX7_told 70 = .ok (.invokevirtual 145, 3) := by decide +kernel
theorem dX7_told_73 : decode cX7_told 73 = .ok (.ireturn, 1) := by decide +kernel
theorem dX7_told_74 : decode cX7_told 74 = .ok (.aload_n 2, 1) := by decide +kernel
theorem dX7_told_75 : decode cX7_told 75 = .ok (.invokevirtual 148, 3) := by decide +kernel
theorem dX7_told_78 : decode cX7_told 78 = .ok (.ireturn, 1) := by decide +kernel
theorem dX7_told_79 : decode cX7_told 79 = .ok (.aload_n 2, 1) := by decide +kernel
theorem dX7_told_80 : decode cX7_told 80 = .ok (.getfield 115, 3) := by decide +kernel
theorem dX7_told_83 : decode cX7_told 83 = .ok (.ireturn, 1) := by decide +kernel
theorem dX7_told_84 : decode cX7_told 84 = .ok (.aload_n 2, 1) := by decide +kernel
theorem dX7_told_85 : decode cX7_told 85 = .ok (.getfield 151, 3) := by decide +kernel
theorem dX7_told_88 : decode cX7_told 88 = .ok (.ireturn, 1) := by decide +kernel
theorem dX7_told_89 : decode cX7_told 89 = .ok (.aload_n 2, 1) := by decide +kernel
theorem dX7_told_90 : decode cX7_told 90 = .ok (.invokevirtual 92, 3) := by decide +kernel
theorem dX7_told_93 : decode cX7_told 93 = .ok (.ireturn, 1) := by decide +kernel
theorem dX7_told_94 : decode cX7_told 94 = .ok (.aload_n 0, 1) := by decide +kernel
theorem dX7_told_95 : decode cX7_told 95 = .ok (.invokevirtual 154, 3) := by decide +kernel
theorem dX7_told_98 : decode cX7_told 98 = .ok (.ireturn, 1) := by decide +kernel
theorem dX7_told_99 : decode cX7_told 99 = .ok (.aload_n 0, 1) := by decide +kernel
theorem dX7_told_100 : decode cX7_told 100 = .ok (.aload_n 0, 1) := by decide +kernel
theorem dX7_told_101 : decode cX7_told 101 = .ok (.invokevirtual 154, 3) := by decide +kernel
theorem dX7_told_104 : decode cX7_told 104 = .ok (.invokevirtual 157, 3) := by decide +kernel
theorem dX7_told_107 : decode cX7_told 107 = .ok (.ireturn, 1) := by decide +kernel
theorem dX7_told_108 : decode cX7_told 108 = .ok (.aload_n 0, 1) := by decide +kernel
theorem dX7_told_109 : decode cX7_told 109 = .ok (.invokevirtual 160, 3) := by decide +kernel
theorem dX7_told_112 : decode cX7_told 112 = .ok (.ireturn, 1) := by decide +kernel
theorem dX7_told_113 : decode cX7_told 113 = .ok (.aload_n 2, 1) := by decide +kernel
theorem dX7_told_114 : decode cX7_told 114 = .ok (.getfield 63, 3) := by decide +kernel
theorem dX7_told_117 : decode cX7_told 117 = .ok (.aload_n 2, 1) := by decide +kernel
theorem dX7_told_118 : decode cX7_told 118 = .ok (.getfield 163, 3) := by decide +kernel
theorem dX7_told_121 : decode cX7_told 121 = .ok (.isub, 1) := by decide +kernel
theorem dX7_told_122 : decode cX7_told 122 = .ok (.ireturn, 1) := by decide +kernel
theorem dX7_told_123 : decode cX7_told 123 = .ok (.iload_n 1, 1) := by decide +kernel
theorem dX7_told_124 : decode cX7_told 124 = .ok (.bipush 10, 2) := by decide +kernel
theorem dX7_told_126 : decode cX7_told 126 = .ok (.if_icmp .lt 26, 3) := by decide +kernel
theorem dX7_told_129 : decode cX7_told 129 = .ok (.iload_n 1, 1) := by decide +kernel
theorem dX7_told_130 : decode cX7_told 130 = .ok (.bipush 10, 2) := by decide +kernel
theorem dX7_told_132 : decode cX7_told 132 = .ok (.isub, 1) := by decide +kernel
theorem dX7_told_133 : decode cX7_told 133 = .ok (.aload_n 2, 1) := by decide +kernel
theorem dX7_told_134 : decode cX7_told 134 = .ok (.getfield 163, 3) := by decide +kernel
theorem dX7_told_137 : decode cX7_told 137 = .ok (.if_icmp .ge 15, 3) := by decide +kernel
theorem dX7_told_140 : decode cX7_told 140 = .ok (.aload_n 2, 1) := by decide +kernel
theorem dX7_told_141 : decode cX7_told 141 = .ok (.getfield 166, 3) := by decide +kernel
theorem dX7_told_144 : decode cX7_told 144 = .ok (.iload_n 1, 1) := by decide +kernel
theorem dX7_told_145 : decode cX7_told 145 = .ok (.bipush 10, 2) := by decide +kernel
theorem dX7_told_147 : decode cX7_told 147 = .ok (.isub, 1) := by decide +kernel
theorem dX7_told_148 : decode cX7_told 148 = .ok (.iaload, 1) := by decide +kernel
theorem dX7_told_149 : decode cX7_told 149 = .ok (.goto 4, 3) := by decide +kernel
theorem dX7_told_152 : decode cX7_told 152 = .ok (.iconst (-1), 1) := by decide +kernel
theorem dX7_told_153 : decode cX7_told 153 = .ok (.ireturn, 1) := by decide +kernel
theorem dX7_pass_0 : decode cX7_pass 0 = .ok (.iload_n 1, 1) := by decide +kernel
theorem dX7_pass_1 : decode cX7_pass 1 = .ok (.iconst 0, 1) := by decide +kernel
theorem dX7_pass_2 : decode cX7_pass 2 = .ok (.bipush 60, 2) := by decide +kernel
theorem dX7_pass_4 : decode cX7_pass 4 = .ok (.invokestatic 56, 3) := by decide +kernel
theorem dX7_pass_7 : decode cX7_pass 7 = .ok (.ifCond .ne 6, 3) := by decide +kernel
theorem dX7_pass_10 : decode cX7_pass 10 = .ok (.bipush (-2), 2) := by decide +kernel
theorem dX7_pass_12 : decode cX7_pass 12 = .ok (.ireturn, 1) := by decide +kernel
theorem dX7_pass_13 : decode cX7_pass 13 = .ok (.aload_n 0, 1) := by decide +kernel
theorem dX7_pass_14 : decode cX7_pass 14 = .ok (.getfield 12, 3) := by decide +kernel
theorem dX7_pass_17 : decode cX7_pass 17 = .ok (.getfield 60, 3) := by decide +kernel
theorem dX7_pass_20 : decode cX7_pass 20 = .ok (.getfield 142, 3) := by decide +kernel
theorem dX7_pass_23 : decode cX7_pass 23 = .ok (.iload_n 1, 1) := by decide +kernel
theorem dX7_pass_24 : decode cX7_pass 24 = .ok (.iadd, 1) := by decide +kernel
theorem dX7_pass_25 : decode cX7_pass 25 = .ok (.sipush 9999, 3) := by decide +kernel
theorem dX7_pass_28 : decode cX7_pass 28 = .ok (.if_icmp .le 6, 3) := by decide +kernel
theorem dX7_pass_31 : decode cX7_pass 31 = .ok (.bipush (-3), 2) := by decide +kernel
theorem dX7_pass_33 : decode cX7_pass 33 = .ok (.ireturn, 1) := by decide +kernel
theorem dX7_pass_34 : decode cX7_pass 34 = .ok (.aload_n 0, 1) := by decide +kernel
theorem dX7_pass_35 : decode cX7_pass 35 = .ok (.getfield 12, 3) := by decide +kernel
theorem dX7_pass_38 : decode cX7_pass 38 = .ok (.getfield 60, 3) := by decide +kernel
theorem dX7_pass_41 : decode cX7_pass 41 = .ok (.iload_n 1, 1) := by decide +kernel
theorem dX7_pass_42 : decode cX7_pass 42 = .ok (.invokevirtual 169, 3) := by decide +kernel
theorem dX7_pass_45 : decode cX7_pass 45 = .ok (.aload_n 0, 1) := by decide +kernel
theorem dX7_pass_46 : decode cX7_pass 46 = .ok (.getfield 12, 3) := by decide +kernel
theorem dX7_pass_49 : decode cX7_pass 49 = .ok (.getfield 60, 3) := by decide +kernel
theorem dX7_pass_52 : decode cX7_pass 52 = .ok (.aload_n 0, 1) := by decide +kernel
theorem dX7_pass_53 : decode cX7_pass 53 = .ok (.getfield 12, 3) := by decide +kernel
theorem dX7_pass_56 : decode cX7_pass 56 = .ok (.getfield 60, 3) := by decide +kernel
theorem dX7_pass_59 : decode cX7_pass 59 = .ok (.getfield 151, 3) := by decide +kernel
theorem dX7_pass_62 : decode cX7_pass 62 = .ok (.sipush 9999, 3) := by decide +kernel
theorem dX7_pass_65 : decode cX7_pass 65 = .ok (.invokestatic 172, 3) := by decide +kernel
theorem dX7_pass_68 : decode cX7_pass 68 = .ok (.putfield 151, 3) := by decide +kernel
theorem dX7_pass_71 : decode cX7_pass 71 = .ok (.aload_n 0, 1) := by decide +kernel
theorem dX7_pass_72 : decode cX7_pass 72 = .ok (.getfield 12, 3) := by decide +kernel
theorem dX7_pass_75 : decode cX7_pass 75 = .ok (.getfield 60, 3) := by decide +kernel
theorem dX7_pass_78 : decode cX7_pass 78 = .ok (.getfield 142, 3) := by decide +kernel
theorem dX7_pass_81 : decode cX7_pass 81 = .ok (.ireturn, 1) := by decide +kernel
theorem dX7_on_0 : decode cX7_on 0 = .ok (.iload_n 2, 1) := by decide +kernel
theorem dX7_on_1 : decode cX7_on 1 = .ok (.bipush 10, 2) := by decide +kernel
theorem dX7_on_3 : decode cX7_on 3 = .ok (.if_icmp .lt 18, 3) := by decide +kernel
theorem dX7_on_6 : decode cX7_on 6 = .ok (.aload_n 0, 1) := by decide +kernel
theorem dX7_on_7 : decode cX7_on 7 = .ok (.iload_n 2, 1) := by decide +kernel
theorem dX7_on_8 : decode cX7_on 8 = .ok (.bipush 10, 2) := by decide +kernel
theorem dX7_on_10 : decode cX7_on 10 = .ok (.isub, 1) := by decide +kernel
theorem dX7_on_11 : decode cX7_on 11 = .ok (.invokevirtual 71, 3) := by decide +kernel
theorem dX7_on_14 : decode cX7_on 14 = .ok (.ifCond .eq 7, 3) := by decide +kernel
theorem dX7_on_17 : decode cX7_on 17 = .ok (.iconst 1, 1) := by decide +kernel
theorem dX7_on_18 : decode cX7_on 18 = .ok (.goto 4, 3) := by decide +kernel
theorem dX7_on_21 : decode cX7_on 21 = .ok (.iconst 0, 1) := by decide +kernel
theorem dX7_on_22 : decode cX7_on 22 = .ok (.istore_n 3, 1) := by decide +kernel
theorem dX7_on_23 : decode cX7_on 23 = .ok (.iload_n 2, 1) := by decide +kernel
theorem dX7_on_24 : decode cX7_on 24 = .ok (.iconst 0, 1) := by decide +kernel
theorem dX7_on_25 : decode cX7_on 25 = .ok (.iconst 2, 1) := by decide +kernel
theorem dX7_on_26 : decode cX7_on 26 = .ok (.invokestatic 56, 3) := by decide +kernel
theorem dX7_on_29 : decode cX7_on 29 = .ok (.ifCond .ne 9, 3) := by decide +kernel
theorem dX7_on_32 : decode cX7_on 32 = .ok (.iload_n 3, 1) := by decide +kernel
theorem dX7_on_33 : decode cX7_on 33 = .ok (.ifCond .ne 5, 3) := by decide +kernel
theorem dX7_on_36 : decode cX7_on 36 = .ok (.iconst (-1), 1) := by decide +kernel
theorem dX7_on_37 : decode cX7_on 37 = .ok (.ireturn, 1) := by decide +kernel
theorem dX7_on_38 : decode cX7_on 38 = .ok (.iload_n 1, 1) := by decide +kernel
theorem dX7_on_39 : decode cX7_on 39 = .ok (.iconst 0, 1) := by decide +kernel
theorem dX7_on_40 : decode cX7_on 40 = .ok (.bipush 60, 2) := by decide +kernel
theorem dX7_on_42 : decode cX7_on 42 = .ok (.invokestatic 56, 3) := by decide +kernel
theorem dX7_on_45 : decode cX7_on 45 = .ok (.ifCond .ne 6, 3) := by decide +kernel
theorem dX7_on_48 : decode cX7_on 48 = .ok (.bipush (-2), 2) := by decide +kernel
theorem dX7_on_50 : decode cX7_on 50 = .ok (.ireturn, 1) := by decide +kernel
theorem dX7_on_51 : decode cX7_on 51 = .ok (.aload_n 0, 1) := by decide +kernel
theorem dX7_on_52 : decode cX7_on 52 = .ok (.getfield 24, 3) := by decide +kernel
theorem dX7_on_55 : decode cX7_on 55 = .ok (.aload_n 0, 1) := by decide +kernel
theorem dX7_on_56 : decode cX7_on 56 = .ok (.getfield 12, 3) := by decide +kernel
theorem dX7_on_59 : decode cX7_on 59 = .ok (.getfield 60, 3) := by decide +kernel
theorem dX7_on_62 : decode cX7_on 62 = .ok (.invokevirtual 177, 3) := by decide +kernel
theorem dX7_on_65 : decode cX7_on 65 = .ok (.aload_n 0, 1) := by decide +kernel
theorem dX7_on_66 : decode cX7_on 66 = .ok (.getfield 24, 3) := by decide +kernel
theorem dX7_on_69 : decode cX7_on 69 = .ok (.iload_n 1, 1) := by decide +kernel
theorem dX7_on_70 : decode cX7_on 70 = .ok (.invokevirtual 169, 3) := by decide +kernel
theorem dX7_on_73 : decode cX7_on 73 = .ok (.iload_n 2, 1) := by decide +kernel
theorem dX7_on_74 : decode cX7_on 74 = .ok (.tableswitch 58 0 2 #[26, 34, 42], 26) := by decide +kernel
theorem dX7_on_100 : decode cX7_on 100 = .ok (.aload_n 0, 1) := by decide +kernel
theorem dX7_on_101 : decode cX7_on 101 = .ok (.getfield 24, 3) := by decide +kernel
theorem dX7_on_104 : decode cX7_on 104 = .ok (.getfield 115, 3) := by decide +kernel
theorem dX7_on_107 : decode cX7_on 107 = .ok (.ireturn, 1) := by decide +kernel
theorem dX7_on_108 : decode cX7_on 108 = .ok (.aload_n 0, 1) := by decide +kernel
theorem dX7_on_109 : decode cX7_on 109 = .ok (.getfield 24, 3) := by decide +kernel
theorem dX7_on_112 : decode cX7_on 112 = .ok (.getfield 151, 3) := by decide +kernel
theorem dX7_on_115 : decode cX7_on 115 = .ok (.ireturn, 1) := by decide +kernel
theorem dX7_on_116 : decode cX7_on 116 = .ok (.aload_n 0, 1) := by decide +kernel
theorem dX7_on_117 : decode cX7_on 117 = .ok (.getfield 24, 3) := by decide +kernel
theorem dX7_on_120 : decode cX7_on 120 = .ok (.getfield 63, 3) := by decide +kernel
theorem dX7_on_123 : decode cX7_on 123 = .ok (.aload_n 0, 1) := by decide +kernel
theorem dX7_on_124 : decode cX7_on 124 = .ok (.getfield 24, 3) := by decide +kernel
theorem dX7_on_127 : decode cX7_on 127 = .ok (.getfield 163, 3) := by decide +kernel
theorem dX7_on_130 : decode cX7_on 130 = .ok (.isub, 1) := by decide +kernel
theorem dX7_on_131 : decode cX7_on 131 = .ok (.ireturn, 1) := by decide +kernel
theorem dX7_on_132 : decode cX7_on 132 = .ok (.iload_n 3, 1) := by decide +kernel
theorem dX7_on_133 : decode cX7_on 133 = .ok (.ifCond .eq 18, 3) := by decide +kernel
theorem dX7_on_136 : decode cX7_on 136 = .ok (.aload_n 0, 1) := by decide +kernel
theorem dX7_on_137 : decode cX7_on 137 = .ok (.getfield 24, 3) := by decide +kernel
theorem dX7_on_140 : decode cX7_on 140 = .ok (.getfield 82, 3) := by decide +kernel
theorem dX7_on_143 : decode cX7_on 143 = .ok (.iload_n 2, 1) := by decide +kernel
theorem dX7_on_144 : decode cX7_on 144 = .ok (.bipush 10, 2) := by decide +kernel
theorem dX7_on_146 : decode cX7_on 146 = .ok (.isub, 1) := by decide +kernel
theorem dX7_on_147 : decode cX7_on 147 = .ok (.iaload, 1) := by decide +kernel
theorem dX7_on_148 : decode cX7_on 148 = .ok (.goto 4, 3) := by decide +kernel
theorem dX7_on_151 : decode cX7_on 151 = .ok (.iconst (-1), 1) := by decide +kernel
theorem dX7_on_152 : decode cX7_on 152 = .ok (.ireturn, 1) := by decide +kernel
theorem dX7_turn_0 : decode cX7_turn 0 = .ok (.iload_n 1, 1) := by decide +kernel
theorem dX7_turn_1 : decode cX7_turn 1 = .ok (.iconst 1, 1) := by decide +kernel
theorem dX7_turn_2 : decode cX7_turn 2 = .ok (.bipush 12, 2) := by decide +kernel
theorem dX7_turn_4 : decode cX7_turn 4 = .ok (.invokestatic 56, 3) := by decide +kernel
theorem dX7_turn_7 : decode cX7_turn 7 = .ok (.ifCond .ne 6, 3) := by decide +kernel
theorem dX7_turn_10 : decode cX7_turn 10 = .ok (.bipush (-2), 2) := by decide +kernel
theorem dX7_turn_12 : decode cX7_turn 12 = .ok (.ireturn, 1) := by decide +kernel
theorem dX7_turn_13 : decode cX7_turn 13 = .ok (.aload_n 0, 1) := by decide +kernel
theorem dX7_turn_14 : decode cX7_turn 14 = .ok (.getfield 24, 3) := by decide +kernel
theorem dX7_turn_17 : decode cX7_turn 17 = .ok (.aload_n 0, 1) := by decide +kernel
theorem dX7_turn_18 : decode cX7_turn 18 = .ok (.getfield 12, 3) := by decide +kernel
theorem dX7_turn_21 : decode cX7_turn 21 = .ok (.getfield 60, 3) := by decide +kernel
theorem dX7_turn_24 : decode cX7_turn 24 = .ok (.invokevirtual 177, 3) := by decide +kernel
theorem dX7_turn_27 : decode cX7_turn 27 = .ok (.aload_n 0, 1) := by decide +kernel
theorem dX7_turn_28 : decode cX7_turn 28 = .ok (.getfield 24, 3) := by decide +kernel
theorem dX7_turn_31 : decode cX7_turn 31 = .ok (.iload_n 1, 1) := by decide +kernel
theorem dX7_turn_32 : decode cX7_turn 32 = .ok (.invokevirtual 169, 3) := by decide +kernel
theorem dX7_turn_35 : decode cX7_turn 35 = .ok (.aload_n 0, 1) := by decide +kernel
theorem dX7_turn_36 : decode cX7_turn 36 = .ok (.getfield 24, 3) := by decide +kernel
theorem dX7_turn_39 : decode cX7_turn 39 = .ok (.getfield 163, 3) := by decide +kernel
theorem dX7_turn_42 : decode cX7_turn 42 = .ok (.istore_n 2, 1) := by decide +kernel
theorem dX7_turn_43 : decode cX7_turn 43 = .ok (.bipush (-5), 2) := by decide +kernel
theorem dX7_turn_45 : decode cX7_turn 45 = .ok (.istore_n 3, 1) := by decide +kernel
theorem dX7_turn_46 : decode cX7_turn 46 = .ok (.iconst 0, 1) := by decide +kernel
theorem dX7_turn_47 : decode cX7_turn 47 = .ok (.istore 4, 2) := by decide +kernel
theorem dX7_turn_49 : decode cX7_turn 49 = .ok (.iload 4, 2) := by decide +kernel
theorem dX7_turn_51 : decode cX7_turn 51 = .ok (.aload_n 0, 1) := by decide +kernel
theorem dX7_turn_52 : decode cX7_turn 52 = .ok (.getfield 12, 3) := by decide +kernel
theorem dX7_turn_55 : decode cX7_turn 55 = .ok (.getfield 60, 3) := by decide +kernel
theorem dX7_turn_58 : decode cX7_turn 58 = .ok (.getfield 63, 3) := by decide +kernel
theorem dX7_turn_61 : decode cX7_turn 61 = .ok (.if_icmp .ge 65, 3) := by decide +kernel
theorem dX7_turn_64 : decode cX7_turn 64 = .ok (.iload 4, 2) := by decide +kernel
theorem dX7_turn_66 : decode cX7_turn 66 = .ok (.iconst 1, 1) := by decide +kernel
theorem dX7_turn_67 : decode cX7_turn 67 = .ok (.iadd, 1) := by decide +kernel
theorem dX7_turn_68 : decode cX7_turn 68 = .ok (.istore 5, 2) := by decide +kernel
theorem dX7_turn_70 : decode cX7_turn 70 = .ok (.iload 5, 2) := by decide +kernel
theorem dX7_turn_72 : decode cX7_turn 72 = .ok (.aload_n 0, 1) := by decide +kernel
theorem dX7_turn_73 : decode cX7_turn 73 = .ok (.getfield 12, 3) := by decide +kernel
theorem dX7_turn_76 : decode cX7_turn 76 = .ok (.getfield 60, 3) := by decide +kernel
theorem dX7_turn_79 : decode cX7_turn 79 = .ok (.getfield 63, 3) := by decide +kernel
theorem dX7_turn_82 : decode cX7_turn 82 = .ok (.if_icmp .ge 38, 3) := by decide +kernel
theorem dX7_turn_85 : decode cX7_turn 85 = .ok (.aload_n 0, 1) := by decide +kernel
theorem dX7_turn_86 : decode cX7_turn 86 = .ok (.iload 4, 2) := by decide +kernel
theorem dX7_turn_88 : decode cX7_turn 88 = .ok (.iload 5, 2) := by decide +kernel
theorem dX7_turn_90 : decode cX7_turn 90 = .ok (.iload_n 1, 1) := by decide +kernel
theorem dX7_turn_91 : decode cX7_turn 91 = .ok (.invokevirtual 181, 3) := by decide +kernel
theorem dX7_turn_94 : decode cX7_turn 94 = .ok (.istore 6, 2) := by decide +kernel
theorem dX7_turn_96 : decode cX7_turn 96 = .ok (.iload 6, 2) := by decide +kernel
theorem dX7_turn_98 : decode cX7_turn 98 = .ok (.iload_n 2, 1) := by decide +kernel
theorem dX7_turn_99 : decode cX7_turn 99 = .ok (.if_icmp .ge 15, 3) := by decide +kernel
theorem dX7_turn_102 : decode cX7_turn 102 = .ok (.iload 6, 2) := by decide +kernel
theorem dX7_turn_104 : decode cX7_turn 104 = .ok (.istore_n 2, 1) := by decide +kernel
theorem dX7_turn_105 : decode cX7_turn 105 = .ok (.bipush 10, 2) := by decide +kernel
theorem dX7_turn_107 : decode cX7_turn 107 = .ok (.iload 4, 2) := by decide +kernel
theorem dX7_turn_109 : decode cX7_turn 109 = .ok (.imul, 1) := by decide +kernel
theorem dX7_turn_110 : decode cX7_turn 110 = .ok (.iload 5, 2) := by decide +kernel
theorem dX7_turn_112 : decode cX7_turn 112 = .ok (.iadd, 1) := by decide +kernel
theorem dX7_turn_113 : decode cX7_turn 113 = .ok (.istore_n 3, 1) := by decide +kernel
theorem dX7_turn_114 : decode cX7_turn 114 = .ok (.iinc 5 1, 3) := by decide +kernel
theorem dX7_turn_117 : decode cX7_turn 117 = .ok (.goto (-47), 3) := by decide +kernel
theorem dX7_turn_120 : decode cX7_turn 120 = .ok (.iinc 4 1, 3) := by decide +kernel
theorem dX7_turn_123 : decode cX7_turn 123 = .ok (.goto (-74), 3) := by decide +kernel
theorem dX7_turn_126 : decode cX7_turn 126 = .ok (.iload_n 3, 1) := by decide +kernel
theorem dX7_turn_127 : decode cX7_turn 127 = .ok (.ireturn, 1) := by decide +kernel
theorem dX7_see_0 : decode cX7_see 0 = .ok (.iload_n 1, 1) := by decide +kernel
theorem dX7_see_1 : decode cX7_see 1 = .ok (.iconst (-1), 1) := by decide +kernel
theorem dX7_see_2 : decode cX7_see 2 = .ok (.if_icmp .ne 14, 3) := by decide +kernel
theorem dX7_see_5 : decode cX7_see 5 = .ok (.aload_n 0, 1) := by decide +kernel
theorem dX7_see_6 : decode cX7_see 6 = .ok (.getfield 12, 3) := by decide +kernel
theorem dX7_see_9 : decode cX7_see 9 = .ok (.getfield 184, 3) := by decide +kernel
theorem dX7_see_12 : decode cX7_see 12 = .ok (.invokevirtual 188, 3) := by decide +kernel
theorem dX7_see_15 : decode cX7_see 15 = .ok (.ireturn, 1) := by decide +kernel
theorem dX7_see_16 : decode cX7_see 16 = .ok (.aload_n 0, 1) := by decide +kernel
theorem dX7_see_17 : decode cX7_see 17 = .ok (.iload_n 1, 1) := by decide +kernel
theorem dX7_see_18 : decode cX7_see 18 = .ok (.invokevirtual 71, 3) := by decide +kernel
theorem dX7_see_21 : decode cX7_see 21 = .ok (.ifCond .ne 5, 3) := by decide +kernel
theorem dX7_see_24 : decode cX7_see 24 = .ok (.iconst (-1), 1) := by decide +kernel
theorem dX7_see_25 : decode cX7_see 25 = .ok (.ireturn, 1) := by decide +kernel
theorem dX7_see_26 : decode cX7_see 26 = .ok (.iload_n 2, 1) := by decide +kernel
theorem dX7_see_27 : decode cX7_see 27 = .ok (.iconst 0, 1) := by decide +kernel
theorem dX7_see_28 : decode cX7_see 28 = .ok (.bipush 12, 2) := by decide +kernel
theorem dX7_see_30 : decode cX7_see 30 = .ok (.invokestatic 56, 3) := by decide +kernel
theorem dX7_see_33 : decode cX7_see 33 = .ok (.ifCond .ne 6, 3) := by decide +kernel
theorem dX7_see_36 : decode cX7_see 36 = .ok (.bipush (-2), 2) := by decide +kernel
theorem dX7_see_38 : decode cX7_see 38 = .ok (.ireturn, 1) := by decide +kernel
theorem dX7_see_39 : decode cX7_see 39 = .ok (.aload_n 0, 1) := by decide +kernel
theorem dX7_see_40 : decode cX7_see 40 = .ok (.getfield 12, 3) := by decide +kernel
theorem dX7_see_43 : decode cX7_see 43 = .ok (.getfield 184, 3) := by decide +kernel
theorem dX7_see_46 : decode cX7_see 46 = .ok (.iload_n 1, 1) := by decide +kernel
theorem dX7_see_47 : decode cX7_see 47 = .ok (.iload_n 2, 1) := by decide +kernel
theorem dX7_see_48 : decode cX7_see 48 = .ok (.iload_n 3, 1) := by decide +kernel
theorem dX7_see_49 : decode cX7_see 49 = .ok (.ifCond .eq 7, 3) := by decide +kernel
theorem dX7_see_52 : decode cX7_see 52 = .ok (.iconst 1, 1) := by decide +kernel
theorem dX7_see_53 : decode cX7_see 53 = .ok (.goto 4, 3) := by decide +kernel
theorem dX7_see_56 : decode cX7_see 56 = .ok (.iconst 0, 1) := by decide +kernel
theorem dX7_see_57 : decode cX7_see 57 = .ok (.invokevirtual 193, 3) := by decide +kernel
theorem dX7_see_60 : decode cX7_see 60 = .ok (.ireturn, 1) := by decide +kernel
theorem dX7_can_0 : decode cX7_can 0 = .ok (.aload_n 0, 1) := by decide +kernel
theorem dX7_can_1 : decode cX7_can 1 = .ok (.iload_n 1, 1) := by decide +kernel
theorem dX7_can_2 : decode cX7_can 2 = .ok (.invokevirtual 71, 3) := by decide +kernel
theorem dX7_can_5 : decode cX7_can 5 = .ok (.ifCond .eq 12, 3) := by decide +kernel
theorem dX7_can_8 : decode cX7_can 8 = .ok (.iload_n 2, 1) := by decide +kernel
theorem dX7_can_9 : decode cX7_can 9 = .ok (.iconst 0, 1) := by decide +kernel
theorem dX7_can_10 : decode cX7_can 10 = .ok (.iconst 1, 1) := by decide +kernel
theorem dX7_can_11 : decode cX7_can 11 = .ok (.invokestatic 56, 3) := by decide +kernel
theorem dX7_can_14 : decode cX7_can 14 = .ok (.ifCond .ne 5, 3) := by decide +kernel
theorem dX7_can_17 : decode cX7_can 17 = .ok (.iconst (-1), 1) := by decide +kernel
theorem dX7_can_18 : decode cX7_can 18 = .ok (.ireturn, 1) := by decide +kernel
theorem dX7_can_19 : decode cX7_can 19 = .ok (.aload_n 0, 1) := by decide +kernel
theorem dX7_can_20 : decode cX7_can 20 = .ok (.aload_n 0, 1) := by decide +kernel
theorem dX7_can_21 : decode cX7_can 21 = .ok (.getfield 24, 3) := by decide +kernel
theorem dX7_can_24 : decode cX7_can 24 = .ok (.getfield 79, 3) := by decide +kernel
theorem dX7_can_27 : decode cX7_can 27 = .ok (.iload_n 1, 1) := by decide +kernel
theorem dX7_can_28 : decode cX7_can 28 = .ok (.invokevirtual 99, 3) := by decide +kernel
theorem dX7_can_31 : decode cX7_can 31 = .ok (.istore_n 3, 1) := by decide +kernel
theorem dX7_can_32 : decode cX7_can 32 = .ok (.iload_n 2, 1) := by decide +kernel
theorem dX7_can_33 : decode cX7_can 33 = .ok (.ifCond .ne 8, 3) := by decide +kernel
theorem dX7_can_36 : decode cX7_can 36 = .ok (.iload_n 3, 1) := by decide +kernel
theorem dX7_can_37 : decode cX7_can 37 = .ok (.invokestatic 196, 3) := by decide +kernel
theorem dX7_can_40 : decode cX7_can 40 = .ok (.ireturn, 1) := by decide +kernel
theorem dX7_can_41 : decode cX7_can 41 = .ok (.iconst 0, 1) := by decide +kernel
theorem dX7_can_42 : decode cX7_can 42 = .ok (.istore 4, 2) := by decide +kernel
theorem dX7_can_44 : decode cX7_can 44 = .ok (.iload 4, 2) := by decide +kernel
theorem dX7_can_46 : decode cX7_can 46 = .ok (.bipush 9, 2) := by decide +kernel
theorem dX7_can_48 : decode cX7_can 48 = .ok (.if_icmp .gt 22, 3) := by decide +kernel
theorem dX7_can_51 : decode cX7_can 51 = .ok (.iload_n 3, 1) := by decide +kernel
theorem dX7_can_52 : decode cX7_can 52 = .ok (.iload 4, 2) := by decide +kernel
theorem dX7_can_54 : decode cX7_can 54 = .ok (.ishr, 1) := by decide +kernel
theorem dX7_can_55 : decode cX7_can 55 = .ok (.iconst 1, 1) := by decide +kernel
theorem dX7_can_56 : decode cX7_can 56 = .ok (.iand, 1) := by decide +kernel
theorem dX7_can_57 : decode cX7_can 57 = .ok (.iconst 1, 1) := by decide +kernel
theorem dX7_can_58 : decode cX7_can 58 = .ok (.if_icmp .ne 6, 3) := by decide +kernel
theorem dX7_can_61 : decode cX7_can 61 = .ok (.iload 4, 2) := by decide +kernel
theorem dX7_can_63 : decode cX7_can 63 = .ok (.ireturn, 1) := by decide +kernel
theorem dX7_can_64 : decode cX7_can 64 = .ok (.iinc 4 1, 3) := by decide +kernel
theorem dX7_can_67 : decode cX7_can 67 = .ok (.goto (-23), 3) := by decide +kernel
theorem dX7_can_70 : decode cX7_can 70 = .ok (.bipush (-5), 2) := by decide +kernel
theorem dX7_can_72 : decode cX7_can 72 = .ok (.ireturn, 1) := by decide +kernel
theorem dX7_odds_0 : decode cX7_odds 0 = .ok (.iload_n 1, 1) := by decide +kernel
theorem dX7_odds_1 : decode cX7_odds 1 = .ok (.iconst 1, 1) := by decide +kernel
theorem dX7_odds_2 : decode cX7_odds 2 = .ok (.bipush 20, 2) := by decide +kernel
theorem dX7_odds_4 : decode cX7_odds 4 = .ok (.invokestatic 56, 3) := by decide +kernel
theorem dX7_odds_7 : decode cX7_odds 7 = .ok (.ifCond .eq 12, 3) := by decide +kernel
theorem dX7_odds_10 : decode cX7_odds 10 = .ok (.iload_n 2, 1) := by decide +kernel
theorem dX7_odds_11 : decode cX7_odds 11 = .ok (.iconst 0, 1) := by decide +kernel
theorem dX7_odds_12 : decode cX7_odds 12 = .ok (.iconst 1, 1) := by decide +kernel
theorem dX7_odds_13 : decode cX7_odds 13 = .ok (.invokestatic 56, 3) := by decide +kernel
theorem dX7_odds_16 : decode cX7_odds 16 = .ok (.ifCond .ne 7, 3) := by decide +kernel
theorem dX7_odds_19 : decode cX7_odds 19 = .ok (.ldc2_w 201, 3) := by decide +kernel
theorem dX7_odds_22 : decode cX7_odds 22 = .ok (.lreturn, 1) := by decide +kernel
theorem dX7_odds_23 : decode cX7_odds 23 = .ok (.aload_n 0, 1) := by decide +kernel
theorem dX7_odds_24 : decode cX7_odds 24 = .ok (.getfield 12, 3) := by decide +kernel
theorem dX7_odds_27 : decode cX7_odds 27 = .ok (.getfield 60, 3) := by decide +kernel
theorem dX7_odds_30 : decode cX7_odds 30 = .ok (.getfield 151, 3) := by decide +kernel
theorem dX7_odds_33 : decode cX7_odds 33 = .ok (.istore_n 3, 1) := by decide +kernel
theorem dX7_odds_34 : decode cX7_odds 34 = .ok (.iconst 0, 1) := by decide +kernel
theorem dX7_odds_35 : decode cX7_odds 35 = .ok (.istore 4, 2) := by decide +kernel
theorem dX7_odds_37 : decode cX7_odds 37 = .ok (.iconst 0, 1) := by decide +kernel
theorem dX7_odds_38 : decode cX7_odds 38 = .ok (.istore 5, 2) := by decide +kernel
theorem dX7_odds_40 : decode cX7_odds 40 = .ok (.iload 5, 2) := by decide +kernel
theorem dX7_odds_42 : decode cX7_odds 42 = .ok (.aload_n 0, 1) := by decide +kernel
theorem dX7_odds_43 : decode cX7_odds 43 = .ok (.getfield 12, 3) := by decide +kernel
theorem dX7_odds_46 : decode cX7_odds 46 = .ok (.getfield 60, 3) := by decide +kernel
theorem dX7_odds_49 : decode cX7_odds 49 = .ok (.getfield 163, 3) := by decide +kernel
theorem dX7_odds_52 : decode cX7_odds 52 = .ok (.if_icmp .ge 68, 3) := by decide +kernel
theorem dX7_odds_55 : decode cX7_odds 55 = .ok (.aload_n 0, 1) := by decide +kernel
theorem dX7_odds_56 : decode cX7_odds 56 = .ok (.getfield 24, 3) := by decide +kernel
theorem dX7_odds_59 : decode cX7_odds 59 = .ok (.aload_n 0, 1) := by decide +kernel
theorem dX7_odds_60 : decode cX7_odds 60 = .ok (.getfield 12, 3) := by decide +kernel
theorem dX7_odds_63 : decode cX7_odds 63 = .ok (.getfield 60, 3) := by decide +kernel
theorem dX7_odds_66 : decode cX7_odds 66 = .ok (.invokevirtual 177, 3) := by decide +kernel
theorem dX7_odds_69 : decode cX7_odds 69 = .ok (.aload_n 0, 1) := by decide +kernel
theorem dX7_odds_70 : decode cX7_odds 70 = .ok (.getfield 24, 3) := by decide +kernel
theorem dX7_odds_73 : decode cX7_odds 73 = .ok (.getfield 82, 3) := by decide +kernel
theorem dX7_odds_76 : decode cX7_odds 76 = .ok (.aload_n 0, 1) := by decide +kernel
theorem dX7_odds_77 : decode cX7_odds 77 = .ok (.getfield 12, 3) := by decide +kernel
theorem dX7_odds_80 : decode cX7_odds 80 = .ok (.getfield 60, 3) := by decide +kernel
theorem dX7_odds_83 : decode cX7_odds 83 = .ok (.getfield 166, 3) := by decide +kernel
theorem dX7_odds_86 : decode cX7_odds 86 = .ok (.iload 5, 2) := by decide +kernel
theorem dX7_odds_88 : decode cX7_odds 88 = .ok (.iaload, 1) := by decide +kernel
theorem dX7_odds_89 : decode cX7_odds 89 = .ok (.bipush 9, 2) := by decide +kernel
theorem dX7_odds_91 : decode cX7_odds 91 = .ok (.iastore, 1) := by decide +kernel
theorem dX7_odds_92 : decode cX7_odds 92 = .ok (.aload_n 0, 1) := by decide +kernel
theorem dX7_odds_93 : decode cX7_odds 93 = .ok (.getfield 24, 3) := by decide +kernel
theorem dX7_odds_96 : decode cX7_odds 96 = .ok (.iload_n 1, 1) := by decide +kernel
theorem dX7_odds_97 : decode cX7_odds 97 = .ok (.invokevirtual 169, 3) := by decide +kernel
theorem dX7_odds_100 : decode cX7_odds 100 = .ok (.aload_n 0, 1) := by decide +kernel
theorem dX7_odds_101 : decode cX7_odds 101 = .ok (.getfield 24, 3) := by decide +kernel
theorem dX7_odds_104 : decode cX7_odds 104 = .ok (.getfield 151, 3) := by decide +kernel
theorem dX7_odds_107 : decode cX7_odds 107 = .ok (.iload_n 3, 1) := by decide +kernel
theorem dX7_odds_108 : decode cX7_odds 108 = .ok (.if_icmp .le 6, 3) := by decide +kernel
theorem dX7_odds_111 : decode cX7_odds 111 = .ok (.iinc 4 1, 3) := by decide +kernel
theorem dX7_odds_114 : decode cX7_odds 114 = .ok (.iinc 5 1, 3) := by decide +kernel
theorem dX7_odds_117 : decode cX7_odds 117 = .ok (.goto (-77), 3) := by decide +kernel
theorem dX7_odds_120 : decode cX7_odds 120 = .ok (.iload 4, 2) := by decide +kernel
theorem dX7_odds_122 : decode cX7_odds 122 = .ok (.aload_n 0, 1) := by decide +kernel
theorem dX7_odds_123 : decode cX7_odds 123 = .ok (.getfield 12, 3) := by decide +kernel
theorem dX7_odds_126 : decode cX7_odds 126 = .ok (.getfield 60, 3) := by decide +kernel
theorem dX7_odds_129 : decode cX7_odds 129 = .ok (.getfield 163, 3) := by decide +kernel
theorem dX7_odds_132 : decode cX7_odds 132 = .ok (.iload_n 2, 1) := by decide +kernel
theorem dX7_odds_133 : decode cX7_odds 133 = .ok (.invokestatic 203, 3) := by decide +kernel
theorem dX7_odds_136 : decode cX7_odds 136 = .ok (.lreturn, 1) := by decide +kernel
theorem dX7_mean_0 : decode cX7_mean 0 = .ok (.iload_n 1, 1) := by decide +kernel
theorem dX7_mean_1 : decode cX7_mean 1 = .ok (.iconst 0, 1) := by decide +kernel
theorem dX7_mean_2 : decode cX7_mean 2 = .ok (.iconst 1, 1) := by decide +kernel
theorem dX7_mean_3 : decode cX7_mean 3 = .ok (.invokestatic 56, 3) := by decide +kernel
theorem dX7_mean_6 : decode cX7_mean 6 = .ok (.ifCond .ne 7, 3) := by decide +kernel
theorem dX7_mean_9 : decode cX7_mean 9 = .ok (.ldc2_w 201, 3) := by decide +kernel
theorem dX7_mean_12 : decode cX7_mean 12 = .ok (.lreturn, 1) := by decide +kernel
theorem dX7_mean_13 : decode cX7_mean 13 = .ok (.iconst 0, 1) := by decide +kernel
theorem dX7_mean_14 : decode cX7_mean 14 = .ok (.istore_n 2, 1) := by decide +kernel
theorem dX7_mean_15 : decode cX7_mean 15 = .ok (.iconst 0, 1) := by decide +kernel
theorem dX7_mean_16 : decode cX7_mean 16 = .ok (.istore_n 3, 1) := by decide +kernel
theorem dX7_mean_17 : decode cX7_mean 17 = .ok (.iload_n 3, 1) := by decide +kernel
theorem dX7_mean_18 : decode cX7_mean 18 = .ok (.aload_n 0, 1) := by decide +kernel
theorem dX7_mean_19 : decode cX7_mean 19 = .ok (.getfield 12, 3) := by decide +kernel
theorem dX7_mean_22 : decode cX7_mean 22 = .ok (.getfield 60, 3) := by decide +kernel
theorem dX7_mean_25 : decode cX7_mean 25 = .ok (.getfield 163, 3) := by decide +kernel
theorem dX7_mean_28 : decode cX7_mean 28 = .ok (.if_icmp .ge 35, 3) := by decide +kernel
theorem dX7_mean_31 : decode cX7_mean 31 = .ok (.iload_n 2, 1) := by decide +kernel
theorem dX7_mean_32 : decode cX7_mean 32 = .ok (.aload_n 0, 1) := by decide +kernel
theorem dX7_mean_33 : decode cX7_mean 33 = .ok (.getfield 12, 3) := by decide +kernel
theorem dX7_mean_36 : decode cX7_mean 36 = .ok (.getfield 60, 3) := by decide +kernel
theorem dX7_mean_39 : decode cX7_mean 39 = .ok (.getfield 82, 3) := by decide +kernel
theorem dX7_mean_42 : decode cX7_mean 42 = .ok (.aload_n 0, 1) := by decide +kernel
theorem dX7_mean_43 : decode cX7_mean 43 = .ok (.getfield 12, 3) := by decide +kernel
theorem dX7_mean_46 : decode cX7_mean 46 = .ok (.getfield 60, 3) := by decide +kernel
theorem dX7_mean_49 : decode cX7_mean 49 = .ok (.getfield 166, 3) := by decide +kernel
theorem dX7_mean_52 : decode cX7_mean 52 = .ok (.iload_n 3, 1) := by decide +kernel
theorem dX7_mean_53 : decode cX7_mean 53 = .ok (.iaload, 1) := by decide +kernel
theorem dX7_mean_54 : decode cX7_mean 54 = .ok (.iaload, 1) := by decide +kernel
theorem dX7_mean_55 : decode cX7_mean 55 = .ok (.iadd, 1) := by decide +kernel
theorem dX7_mean_56 : decode cX7_mean 56 = .ok (.istore_n 2, 1) := by decide +kernel
theorem dX7_mean_57 : decode cX7_mean 57 = .ok (.iinc 3 1, 3) := by decide +kernel
theorem dX7_mean_60 : decode cX7_mean 60 = .ok (.goto (-43), 3) := by decide +kernel
theorem dX7_mean_63 : decode cX7_mean 63 = .ok (.iload_n 2, 1) := by decide +kernel
theorem dX7_mean_64 : decode cX7_mean 64 = .ok (.aload_n 0, 1) := by decide +kernel
theorem dX7_mean_65 : decode cX7_mean 65 = .ok (.getfield 12, 3) := by decide +kernel
theorem dX7_mean_68 : decode cX7_mean 68 = .ok (.getfield 60, 3) := by decide +kernel
theorem dX7_mean_71 : decode cX7_mean 71 = .ok (.getfield 163, 3) := by decide +kernel
theorem dX7_mean_74 : decode cX7_mean 74 = .ok (.iload_n 1, 1) := by decide +kernel
theorem dX7_mean_75 : decode cX7_mean 75 = .ok (.invokestatic 203, 3) := by decide +kernel
theorem dX7_mean_78 : decode cX7_mean 78 = .ok (.lreturn, 1) := by decide +kernel
theorem dX7_plan_0 : decode cX7_plan 0 = .ok (.iload_n 1, 1) := by decide +kernel
theorem dX7_plan_1 : decode cX7_plan 1 = .ok (.iconst (-1), 1) := by decide +kernel
theorem dX7_plan_2 : decode cX7_plan 2 = .ok (.if_icmp .ne 14, 3) := by decide +kernel
theorem dX7_plan_5 : decode cX7_plan 5 = .ok (.aload_n 0, 1) := by decide +kernel
theorem dX7_plan_6 : decode cX7_plan 6 = .ok (.getfield 12, 3) := by decide +kernel
theorem dX7_plan_9 : decode cX7_plan 9 = .ok (.getfield 207, 3) := by decide +kernel
theorem dX7_plan_12 : decode cX7_plan 12 = .ok (.invokevirtual 188, 3) := by decide +kernel
theorem dX7_plan_15 : decode cX7_plan 15 = .ok (.ireturn, 1) := by decide +kernel
theorem dX7_plan_16 : decode cX7_plan 16 = .ok (.iload_n 1, 1) := by decide +kernel
theorem dX7_plan_17 : decode cX7_plan 17 = .ok (.iconst 0, 1) := by decide +kernel
theorem dX7_plan_18 : decode cX7_plan 18 = .ok (.iconst 3, 1) := by decide +kernel
theorem dX7_plan_19 : decode cX7_plan 19 = .ok (.invokestatic 56, 3) := by decide +kernel
theorem dX7_plan_22 : decode cX7_plan 22 = .ok (.ifCond .ne 5, 3) := by decide +kernel
theorem dX7_plan_25 : decode cX7_plan 25 = .ok (.iconst (-1), 1) := by decide +kernel
theorem dX7_plan_26 : decode cX7_plan 26 = .ok (.ireturn, 1) := by decide +kernel
theorem dX7_plan_27 : decode cX7_plan 27 = .ok (.iload_n 1, 1) := by decide +kernel
theorem dX7_plan_28 : decode cX7_plan 28 = .ok (.iconst 1, 1) := by decide +kernel
theorem dX7_plan_29 : decode cX7_plan 29 = .ok (.if_icmp .eq 8, 3) := by decide +kernel
theorem dX7_plan_32 : decode cX7_plan 32 = .ok (.iload_n 1, 1) := by decide +kernel
theorem dX7_plan_33 : decode cX7_plan 33 = .ok (.iconst 2, 1) := by decide +kernel
theorem dX7_plan_34 : decode cX7_plan 34 = .ok (.if_icmp .ne 7, 3) := by decide +kernel
theorem dX7_plan_37 : decode cX7_plan 37 = .ok (.iconst 1, 1) := by decide +kernel
theorem dX7_plan_38 : decode cX7_plan 38 = .ok (.goto 4, 3) := by decide +kernel
theorem dX7_plan_41 : decode cX7_plan 41 = .ok (.iconst 0, 1) := by decide +kernel
theorem dX7_plan_42 : decode cX7_plan 42 = .ok (.istore_n 3, 1) := by decide +kernel
theorem dX7_plan_43 : decode cX7_plan 43 = .ok (.iload_n 3, 1) := by decide +kernel
theorem dX7_plan_44 : decode cX7_plan 44 = .ok (.ifCond .eq 13, 3) := by decide +kernel
theorem dX7_plan_47 : decode cX7_plan 47 = .ok (.aload_n 0, 1) := by decide +kernel
theorem dX7_plan_48 : decode cX7_plan 48 = .ok (.iload_n 2, 1) := by decide +kernel
theorem dX7_plan_49 : decode cX7_plan 49 = .ok (.invokevirtual 71, 3) := by decide +kernel
theorem dX7_plan_52 : decode cX7_plan 52 = .ok (.ifCond .ne 5, 3) := by decide +kernel
theorem dX7_plan_55 : decode cX7_plan 55 = .ok (.iconst (-1), 1) := by decide +kernel
theorem dX7_plan_56 : decode cX7_plan 56 = .ok (.ireturn, 1) := by decide +kernel
theorem dX7_plan_57 : decode cX7_plan 57 = .ok (.aload_n 0, 1) := by decide +kernel
theorem dX7_plan_58 : decode cX7_plan 58 = .ok (.getfield 12, 3) := by decide +kernel
theorem dX7_plan_61 : decode cX7_plan 61 = .ok (.getfield 207, 3) := by decide +kernel
theorem dX7_plan_64 : decode cX7_plan 64 = .ok (.iload_n 1, 1) := by decide +kernel
theorem dX7_plan_65 : decode cX7_plan 65 = .ok (.iload_n 3, 1) := by decide +kernel
theorem dX7_plan_66 : decode cX7_plan 66 = .ok (.ifCond .eq 7, 3) := by decide +kernel
theorem dX7_plan_69 : decode cX7_plan 69 = .ok (.iload_n 2, 1) := by decide +kernel
theorem dX7_plan_70 : decode cX7_plan 70 = .ok (.goto 4, 3) := by decide +kernel
theorem dX7_plan_73 : decode cX7_plan 73 = .ok (.iconst 0, 1) := by decide +kernel
theorem dX7_plan_74 : decode cX7_plan 74 = .ok (.iconst 0, 1) := by decide +kernel
theorem dX7_plan_75 : decode cX7_plan 75 = .ok (.invokevirtual 193, 3) := by decide +kernel
theorem dX7_plan_78 : decode cX7_plan 78 = .ok (.ireturn, 1) := by decide +kernel
theorem dX7_ends_0 : decode cX7_ends 0 = .ok (.iload_n 1, 1) := by decide +kernel
theorem dX7_ends_1 : decode cX7_ends 1 = .ok (.iconst 0, 1) := by decide +kernel
theorem dX7_ends_2 : decode cX7_ends 2 = .ok (.iconst 1, 1) := by decide +kernel
theorem dX7_ends_3 : decode cX7_ends 3 = .ok (.invokestatic 56, 3) := by decide +kernel
theorem dX7_ends_6 : decode cX7_ends 6 = .ok (.ifCond .ne 5, 3) := by decide +kernel
theorem dX7_ends_9 : decode cX7_ends 9 = .ok (.iconst (-1), 1) := by decide +kernel
theorem dX7_ends_10 : decode cX7_ends 10 = .ok (.ireturn, 1) := by decide +kernel
theorem dX7_ends_11 : decode cX7_ends 11 = .ok (.aload_n 0, 1) := by decide +kernel
theorem dX7_ends_12 : decode cX7_ends 12 = .ok (.getfield 24, 3) := by decide +kernel
theorem dX7_ends_15 : decode cX7_ends 15 = .ok (.aload_n 0, 1) := by decide +kernel
theorem dX7_ends_16 : decode cX7_ends 16 = .ok (.getfield 12, 3) := by decide +kernel
theorem dX7_ends_19 : decode cX7_ends 19 = .ok (.getfield 60, 3) := by decide +kernel
theorem dX7_ends_22 : decode cX7_ends 22 = .ok (.invokevirtual 177, 3) := by decide +kernel
theorem dX7_ends_25 : decode cX7_ends 25 = .ok (.iconst 0, 1) := by decide +kernel
theorem dX7_ends_26 : decode cX7_ends 26 = .ok (.istore_n 2, 1) := by decide +kernel
theorem dX7_ends_27 : decode cX7_ends 27 = .ok (.iload_n 2, 1) := by decide +kernel
theorem dX7_ends_28 : decode cX7_ends 28 = .ok (.aload_n 0, 1) := by decide +kernel
theorem dX7_ends_29 : decode cX7_ends 29 = .ok (.getfield 12, 3) := by decide +kernel
theorem dX7_ends_32 : decode cX7_ends 32 = .ok (.getfield 207, 3) := by decide +kernel
theorem dX7_ends_35 : decode cX7_ends 35 = .ok (.getfield 210, 3) := by decide +kernel
theorem dX7_ends_38 : decode cX7_ends 38 = .ok (.if_icmp .ge 37, 3) := by decide +kernel
theorem dX7_ends_41 : decode cX7_ends 41 = .ok (.aload_n 0, 1) := by decide +kernel
theorem dX7_ends_42 : decode cX7_ends 42 = .ok (.aload_n 0, 1) := by decide +kernel
theorem dX7_ends_43 : decode cX7_ends 43 = .ok (.getfield 12, 3) := by decide +kernel
theorem dX7_ends_46 : decode cX7_ends 46 = .ok (.getfield 207, 3) := by decide +kernel
theorem dX7_ends_49 : decode cX7_ends 49 = .ok (.getfield 213, 3) := by decide +kernel
theorem dX7_ends_52 : decode cX7_ends 52 = .ok (.iload_n 2, 1) := by decide +kernel
theorem dX7_ends_53 : decode cX7_ends 53 = .ok (.iaload, 1) := by decide +kernel
theorem dX7_ends_54 : decode cX7_ends 54 = .ok (.aload_n 0, 1) := by decide +kernel
theorem dX7_ends_55 : decode cX7_ends 55 = .ok (.getfield 12, 3) := by decide +kernel
theorem dX7_ends_58 : decode cX7_ends 58 = .ok (.getfield 207, 3) := by decide +kernel
theorem dX7_ends_61 : decode cX7_ends 61 = .ok (.getfield 216, 3) := by decide +kernel
theorem dX7_ends_64 : decode cX7_ends 64 = .ok (.iload_n 2, 1) := by decide +kernel
theorem dX7_ends_65 : decode cX7_ends 65 = .ok (.iaload, 1) := by decide +kernel
theorem dX7_ends_66 : decode cX7_ends 66 = .ok (.invokevirtual 219, 3) := by decide +kernel
theorem dX7_ends_69 : decode cX7_ends 69 = .ok (.iinc 2 1, 3) := by decide +kernel
theorem dX7_ends_72 : decode cX7_ends 72 = .ok (.goto (-45), 3) := by decide +kernel
theorem dX7_ends_75 : decode cX7_ends 75 = .ok (.iload_n 1, 1) := by decide +kernel
theorem dX7_ends_76 : decode cX7_ends 76 = .ok (.ifCond .ne 21, 3) := by decide +kernel
theorem dX7_ends_79 : decode cX7_ends 79 = .ok (.aload_n 0, 1) := by decide +kernel
theorem dX7_ends_80 : decode cX7_ends 80 = .ok (.getfield 24, 3) := by decide +kernel
theorem dX7_ends_83 : decode cX7_ends 83 = .ok (.getfield 63, 3) := by decide +kernel
theorem dX7_ends_86 : decode cX7_ends 86 = .ok (.aload_n 0, 1) := by decide +kernel
theorem dX7_ends_87 : decode cX7_ends 87 = .ok (.getfield 24, 3) := by decide +kernel
theorem dX7_ends_90 : decode cX7_ends 90 = .ok (.getfield 163, 3) := by decide +kernel
theorem dX7_ends_93 : decode cX7_ends 93 = .ok (.isub, 1) := by decide +kernel
theorem dX7_ends_94 : decode cX7_ends 94 = .ok (.goto 10, 3) := by decide +kernel
theorem dX7_ends_97 : decode cX7_ends 97 = .ok (.aload_n 0, 1) := by decide +kernel
theorem dX7_ends_98 : decode cX7_ends 98 = .ok (.getfield 24, 3) := by decide +kernel
theorem dX7_ends_101 : decode cX7_ends 101 = .ok (.getfield 151, 3) := by decide +kernel
theorem dX7_ends_104 : decode cX7_ends 104 = .ok (.ireturn, 1) := by decide +kernel
theorem dX7_book_0 : decode cX7_book 0 = .ok (.iload_n 1, 1) := by decide +kernel
theorem dX7_book_1 : decode cX7_book 1 = .ok (.iconst (-1), 1) := by decide +kernel
theorem dX7_book_2 : decode cX7_book 2 = .ok (.if_icmp .ne 14, 3) := by decide +kernel
theorem dX7_book_5 : decode cX7_book 5 = .ok (.aload_n 0, 1) := by decide +kernel
theorem dX7_book_6 : decode cX7_book 6 = .ok (.getfield 12, 3) := by decide +kernel
theorem dX7_book_9 : decode cX7_book 9 = .ok (.getfield 223, 3) := by decide +kernel
theorem dX7_book_12 : decode cX7_book 12 = .ok (.invokevirtual 188, 3) := by decide +kernel
theorem dX7_book_15 : decode cX7_book 15 = .ok (.ireturn, 1) := by decide +kernel
theorem dX7_book_16 : decode cX7_book 16 = .ok (.aload_n 0, 1) := by decide +kernel
theorem dX7_book_17 : decode cX7_book 17 = .ok (.iload_n 1, 1) := by decide +kernel
theorem dX7_book_18 : decode cX7_book 18 = .ok (.invokevirtual 71, 3) := by decide +kernel
theorem dX7_book_21 : decode cX7_book 21 = .ok (.ifCond .ne 5, 3) := by decide +kernel
theorem dX7_book_24 : decode cX7_book 24 = .ok (.iconst (-1), 1) := by decide +kernel
theorem dX7_book_25 : decode cX7_book 25 = .ok (.ireturn, 1) := by decide +kernel
theorem dX7_book_26 : decode cX7_book 26 = .ok (.iload_n 2, 1) := by decide +kernel
theorem dX7_book_27 : decode cX7_book 27 = .ok (.iconst 0, 1) := by decide +kernel
theorem dX7_book_28 : decode cX7_book 28 = .ok (.bipush 9, 2) := by decide +kernel
theorem dX7_book_30 : decode cX7_book 30 = .ok (.invokestatic 56, 3) := by decide +kernel
theorem dX7_book_33 : decode cX7_book 33 = .ok (.ifCond .ne 6, 3) := by decide +kernel
theorem dX7_book_36 : decode cX7_book 36 = .ok (.bipush (-2), 2) := by decide +kernel
theorem dX7_book_38 : decode cX7_book 38 = .ok (.ireturn, 1) := by decide +kernel
theorem dX7_book_39 : decode cX7_book 39 = .ok (.aload_n 0, 1) := by decide +kernel
theorem dX7_book_40 : decode cX7_book 40 = .ok (.getfield 12, 3) := by decide +kernel
theorem dX7_book_43 : decode cX7_book 43 = .ok (.getfield 223, 3) := by decide +kernel
theorem dX7_book_46 : decode cX7_book 46 = .ok (.iload_n 1, 1) := by decide +kernel
theorem dX7_book_47 : decode cX7_book 47 = .ok (.iload_n 2, 1) := by decide +kernel
theorem dX7_book_48 : decode cX7_book 48 = .ok (.iconst 0, 1) := by decide +kernel
theorem dX7_book_49 : decode cX7_book 49 = .ok (.invokevirtual 193, 3) := by decide +kernel
theorem dX7_book_52 : decode cX7_book 52 = .ok (.ireturn, 1) := by decide +kernel
theorem dX7_looked_0 : decode cX7_looked 0 = .ok (.iconst 0, 1) := by decide +kernel
theorem dX7_looked_1 : decode cX7_looked 1 = .ok (.istore_n 1, 1) := by decide +kernel
theorem dX7_looked_2 : decode cX7_looked 2 = .ok (.iload_n 1, 1) := by decide +kernel
theorem dX7_looked_3 : decode cX7_looked 3 = .ok (.aload_n 0, 1) := by decide +kernel
theorem dX7_looked_4 : decode cX7_looked 4 = .ok (.getfield 12, 3) := by decide +kernel
theorem dX7_looked_7 : decode cX7_looked 7 = .ok (.getfield 223, 3) := by decide +kernel
theorem dX7_looked_10 : decode cX7_looked 10 = .ok (.getfield 210, 3) := by decide +kernel
theorem dX7_looked_13 : decode cX7_looked 13 = .ok (.if_icmp .ge 49, 3) := by decide +kernel
theorem dX7_looked_16 : decode cX7_looked 16 = .ok (.aload_n 0, 1) := by decide +kernel
theorem dX7_looked_17 : decode cX7_looked 17 = .ok (.getfield 12, 3) := by decide +kernel
theorem dX7_looked_20 : decode cX7_looked 20 = .ok (.getfield 60, 3) := by decide +kernel
theorem dX7_looked_23 : decode cX7_looked 23 = .ok (.getfield 82, 3) := by decide +kernel
theorem dX7_looked_26 : decode cX7_looked 26 = .ok (.aload_n 0, 1) := by decide +kernel
theorem dX7_looked_27 : decode cX7_looked 27 = .ok (.getfield 12, 3) := by decide +kernel
theorem dX7_looked_30 : decode cX7_looked 30 = .ok (.getfield 223, 3) := by decide +kernel
theorem dX7_looked_33 : decode cX7_looked 33 = .ok (.getfield 213, 3) := by decide +kernel
theorem dX7_looked_36 : decode cX7_looked 36 = .ok (.iload_n 1, 1) := by decide +kernel
theorem dX7_looked_37 : decode cX7_looked 37 = .ok (.iaload, 1) := by decide +kernel
theorem dX7_looked_38 : decode cX7_looked 38 = .ok (.iaload, 1) := by decide +kernel
theorem dX7_looked_39 : decode cX7_looked 39 = .ok (.aload_n 0, 1) := by decide +kernel
theorem dX7_looked_40 : decode cX7_looked 40 = .ok (.getfield 12, 3) := by decide +kernel
theorem dX7_looked_43 : decode cX7_looked 43 = .ok (.getfield 223, 3) := by decide +kernel
theorem dX7_looked_46 : decode cX7_looked 46 = .ok (.getfield 216, 3) := by decide +kernel
theorem dX7_looked_49 : decode cX7_looked 49 = .ok (.iload_n 1, 1) := by decide +kernel
theorem dX7_looked_50 : decode cX7_looked 50 = .ok (.iaload, 1) := by decide +kernel
theorem dX7_looked_51 : decode cX7_looked 51 = .ok (.if_icmp .eq 5, 3) := by decide +kernel
theorem dX7_looked_54 : decode cX7_looked 54 = .ok (.iload_n 1, 1) := by decide +kernel
theorem dX7_looked_55 : decode cX7_looked 55 = .ok (.ireturn, 1) := by decide +kernel
theorem dX7_looked_56 : decode cX7_looked 56 = .ok (.iinc 1 1, 3) := by decide +kernel
theorem dX7_looked_59 : decode cX7_looked 59 = .ok (.goto (-57), 3) := by decide +kernel
theorem dX7_looked_62 : decode cX7_looked 62 = .ok (.bipush (-5), 2) := by decide +kernel
theorem dX7_looked_64 : decode cX7_looked 64 = .ok (.ireturn, 1) := by decide +kernel
theorem dX7_judge_0 : decode cX7_judge 0 = .ok (.iload_n 1, 1) := by decide +kernel
theorem dX7_judge_1 : decode cX7_judge 1 = .ok (.iconst 0, 1) := by decide +kernel
theorem dX7_judge_2 : decode cX7_judge 2 = .ok (.iconst 5, 1) := by decide +kernel
theorem dX7_judge_3 : decode cX7_judge 3 = .ok (.invokestatic 56, 3) := by decide +kernel
theorem dX7_judge_6 : decode cX7_judge 6 = .ok (.ifCond .ne 5, 3) := by decide +kernel
theorem dX7_judge_9 : decode cX7_judge 9 = .ok (.iconst (-1), 1) := by decide +kernel
theorem dX7_judge_10 : decode cX7_judge 10 = .ok (.ireturn, 1) := by decide +kernel
theorem dX7_judge_11 : decode cX7_judge 11 = .ok (.aload_n 0, 1) := by decide +kernel
theorem dX7_judge_12 : decode cX7_judge 12 = .ok (.getfield 50, 3) := by decide +kernel
theorem dX7_judge_15 : decode cX7_judge 15 = .ok (.iload_n 1, 1) := by decide +kernel
theorem dX7_judge_16 : decode cX7_judge 16 = .ok (.aaload, 1) := by decide +kernel
theorem dX7_judge_17 : decode cX7_judge 17 = .ok (.astore_n 3, 1) := by decide +kernel
theorem dX7_judge_18 : decode cX7_judge 18 = .ok (.aload_n 3, 1) := by decide +kernel
theorem dX7_judge_19 : decode cX7_judge 19 = .ok (.getfield 226, 3) := by decide +kernel
theorem dX7_judge_22 : decode cX7_judge 22 = .ok (.iconst (-1), 1) := by decide +kernel
theorem dX7_judge_23 : decode cX7_judge 23 = .ok (.if_icmp .eq 13, 3) := by decide +kernel
theorem dX7_judge_26 : decode cX7_judge 26 = .ok (.aload_n 3, 1) := by decide +kernel
theorem dX7_judge_27 : decode cX7_judge 27 = .ok (.getfield 226, 3) := by decide +kernel
theorem dX7_judge_30 : decode cX7_judge 30 = .ok (.ifCond .eq 6, 3) := by decide +kernel
theorem dX7_judge_33 : decode cX7_judge 33 = .ok (.bipush (-12), 2) := by decide +kernel
theorem dX7_judge_35 : decode cX7_judge 35 = .ok (.ireturn, 1) := by decide +kernel
theorem dX7_judge_36 : decode cX7_judge 36 = .ok (.iconst 0, 1) := by decide +kernel
theorem dX7_judge_37 : decode cX7_judge 37 = .ok (.istore 4, 2) := by decide +kernel
theorem dX7_judge_39 : decode cX7_judge 39 = .ok (.iload 4, 2) := by decide +kernel
theorem dX7_judge_41 : decode cX7_judge 41 = .ok (.aload_n 0, 1) := by decide +kernel
theorem dX7_judge_42 : decode cX7_judge 42 = .ok (.getfield 12, 3) := by decide +kernel
theorem dX7_judge_45 : decode cX7_judge 45 = .ok (.getfield 60, 3) := by decide +kernel
theorem dX7_judge_48 : decode cX7_judge 48 = .ok (.getfield 163, 3) := by decide +kernel
theorem dX7_judge_51 : decode cX7_judge 51 = .ok (.if_icmp .ge 60, 3) := by decide +kernel
theorem dX7_judge_54 : decode cX7_judge 54 = .ok (.iload_n 2, 1) := by decide +kernel
theorem dX7_judge_55 : decode cX7_judge 55 = .ok (.ifCond .lt 14, 3) := by decide +kernel
theorem dX7_judge_58 : decode cX7_judge 58 = .ok (.iload_n 2, 1) := by decide +kernel
theorem dX7_judge_59 : decode cX7_judge 59 = .ok (.aload_n 3, 1) := by decide +kernel
theorem dX7_judge_60 : decode cX7_judge 60 = .ok (.getfield 229, 3) := by decide +kernel
theorem dX7_judge_63 : decode cX7_judge 63 = .ok (.iload 4, 2) := by decide +kernel
theorem dX7_judge_65 : decode cX7_judge 65 = .ok (.isub, 1) := by decide +kernel
theorem dX7_judge_66 : decode cX7_judge 66 = .ok (.if_icmp .lt 9, 3) := by decide +kernel
theorem dX7_judge_69 : decode cX7_judge 69 = .ok (.bipush 100, 2) := by decide +kernel
theorem dX7_judge_71 : decode cX7_judge 71 = .ok (.iload 4, 2) := by decide +kernel
theorem dX7_judge_73 : decode cX7_judge 73 = .ok (.iadd, 1) := by decide +kernel
theorem dX7_judge_74 : decode cX7_judge 74 = .ok (.ireturn, 1) := by decide +kernel
theorem dX7_judge_75 : decode cX7_judge 75 = .ok (.aload_n 3, 1) := by decide +kernel
theorem dX7_judge_76 : decode cX7_judge 76 = .ok (.getfield 230, 3) := by decide +kernel
theorem dX7_judge_79 : decode cX7_judge 79 = .ok (.iload_n 2, 1) := by decide +kernel
theorem dX7_judge_80 : decode cX7_judge 80 = .ok (.iload 4, 2) := by decide +kernel
theorem dX7_judge_82 : decode cX7_judge 82 = .ok (.iadd, 1) := by decide +kernel
theorem dX7_judge_83 : decode cX7_judge 83 = .ok (.laload, 1) := by decide +kernel
theorem dX7_judge_84 : decode cX7_judge 84 = .ok (.aload_n 0, 1) := by decide +kernel
theorem dX7_judge_85 : decode cX7_judge 85 = .ok (.getfield 12, 3) := by decide +kernel
theorem dX7_judge_88 : decode cX7_judge 88 = .ok (.getfield 60, 3) := by decide +kernel
theorem dX7_judge_91 : decode cX7_judge 91 = .ok (.getfield 166, 3) := by decide +kernel
theorem dX7_judge_94 : decode cX7_judge 94 = .ok (.iload 4, 2) := by decide +kernel
theorem dX7_judge_96 : decode cX7_judge 96 = .ok (.iaload, 1) := by decide +kernel
theorem dX7_judge_97 : decode cX7_judge 97 = .ok (.i2l, 1) := by decide +kernel
theorem dX7_judge_98 : decode cX7_judge 98 = .ok (.lcmp, 1) := by decide +kernel
theorem dX7_judge_99 : decode cX7_judge 99 = .ok (.ifCond .eq 6, 3) := by decide +kernel
theorem dX7_judge_102 : decode cX7_judge 102 = .ok (.iload 4, 2) := by decide +kernel
theorem dX7_judge_104 : decode cX7_judge 104 = .ok (.ireturn, 1) := by decide +kernel
theorem dX7_judge_105 : decode cX7_judge 105 = .ok (.iinc 4 1, 3) := by decide +kernel
theorem dX7_judge_108 : decode cX7_judge 108 = .ok (.goto (-69), 3) := by decide +kernel
theorem dX7_judge_111 : decode cX7_judge 111 = .ok (.bipush (-5), 2) := by decide +kernel
theorem dX7_judge_113 : decode cX7_judge 113 = .ok (.ireturn, 1) := by decide +kernel
theorem dX7_image_0 : decode cX7_image 0 = .ok (.aload_n 0, 1) := by decide +kernel
theorem dX7_image_1 : decode cX7_image 1 = .ok (.getfield 18, 3) := by decide +kernel
theorem dX7_image_4 : decode cX7_image 4 = .ok (.aload_n 0, 1) := by decide +kernel
theorem dX7_image_5 : decode cX7_image 5 = .ok (.getfield 12, 3) := by decide +kernel
theorem dX7_image_8 : decode cX7_image 8 = .ok (.invokevirtual 234, 3) := by decide +kernel
theorem dX7_image_11 : decode cX7_image 11 = .ok (.aload_n 0, 1) := by decide +kernel
theorem dX7_image_12 : decode cX7_image 12 = .ok (.iconst 1, 1) := by decide +kernel
theorem dX7_image_13 : decode cX7_image 13 = .ok (.putfield 237, 3) := by decide +kernel
theorem dX7_image_16 : decode cX7_image 16 = .ok (.aload_n 0, 1) := by decide +kernel
theorem dX7_image_17 : decode cX7_image 17 = .ok (.getfield 18, 3) := by decide +kernel
theorem dX7_image_20 : decode cX7_image 20 = .ok (.getfield 60, 3) := by decide +kernel
theorem dX7_image_23 : decode cX7_image 23 = .ok (.getfield 63, 3) := by decide +kernel
theorem dX7_image_26 : decode cX7_image 26 = .ok (.ireturn, 1) := by decide +kernel
theorem dX7_undo_0 : decode cX7_undo 0 = .ok (.aload_n 0, 1) := by decide +kernel
theorem dX7_undo_1 : decode cX7_undo 1 = .ok (.getfield 237, 3) := by decide +kernel
theorem dX7_undo_4 : decode cX7_undo 4 = .ok (.ifCond .ne 6, 3) := by decide +kernel
theorem dX7_undo_7 : decode cX7_undo 7 = .ok (.bipush (-3), 2) := by decide +kernel
theorem dX7_undo_9 : decode cX7_undo 9 = .ok (.ireturn, 1) := by decide +kernel
theorem dX7_undo_10 : decode cX7_undo 10 = .ok (.aload_n 0, 1) := by decide +kernel
theorem dX7_undo_11 : decode cX7_undo 11 = .ok (.getfield 12, 3) := by decide +kernel
theorem dX7_undo_14 : decode cX7_undo 14 = .ok (.aload_n 0, 1) := by decide +kernel
theorem dX7_undo_15 : decode cX7_undo 15 = .ok (.getfield 18, 3) := by decide +kernel
theorem dX7_undo_18 : decode cX7_undo 18 = .ok (.invokevirtual 234, 3) := by decide +kernel
theorem dX7_undo_21 : decode cX7_undo 21 = .ok (.aload_n 0, 1) := by decide +kernel
theorem dX7_undo_22 : decode cX7_undo 22 = .ok (.getfield 12, 3) := by decide +kernel
theorem dX7_undo_25 : decode cX7_undo 25 = .ok (.getfield 60, 3) := by decide +kernel
theorem dX7_undo_28 : decode cX7_undo 28 = .ok (.getfield 63, 3) := by decide +kernel
theorem dX7_undo_31 : decode cX7_undo 31 = .ok (.ireturn, 1) := by decide +kernel
theorem dX7_act_0 : decode cX7_act 0 = .ok (.aload_n 0, 1) := by decide +kernel
theorem dX7_act_1 : decode cX7_act 1 = .ok (.getfield 44, 3) := by decide +kernel
theorem dX7_act_4 : decode cX7_act 4 = .ok (.invokevirtual 241, 3) := by decide +kernel
theorem dX7_act_7 : decode cX7_act 7 = .ok (.aload_n 0, 1) := by decide +kernel
theorem dX7_act_8 : decode cX7_act 8 = .ok (.iload_n 1, 1) := by decide +kernel
theorem dX7_act_9 : decode cX7_act 9 = .ok (.invokevirtual 71, 3) := by decide +kernel
theorem dX7_act_12 : decode cX7_act 12 = .ok (.ifCond .ne 5, 3) := by decide +kernel
theorem dX7_act_15 : decode cX7_act 15 = .ok (.iconst 0, 1) := by decide +kernel
theorem dX7_act_16 : decode cX7_act 16 = .ok (.ireturn, 1) := by decide +kernel
theorem dX7_act_17 : decode cX7_act 17 = .ok (.aload_n 0, 1) := by decide +kernel
theorem dX7_act_18 : decode cX7_act 18 = .ok (.getfield 44, 3) := by decide +kernel
theorem dX7_act_21 : decode cX7_act 21 = .ok (.iload_n 1, 1) := by decide +kernel
theorem dX7_act_22 : decode cX7_act 22 = .ok (.aload_n 0, 1) := by decide +kernel
theorem dX7_act_23 : decode cX7_act 23 = .ok (.getfield 12, 3) := by decide +kernel
theorem dX7_act_26 : decode cX7_act 26 = .ok (.getfield 60, 3) := by decide +kernel
theorem dX7_act_29 : decode cX7_act 29 = .ok (.getfield 75, 3) := by decide +kernel
theorem dX7_act_32 : decode cX7_act 32 = .ok (.iload_n 1, 1) := by decide +kernel
theorem dX7_act_33 : decode cX7_act 33 = .ok (.iaload, 1) := by decide +kernel
theorem dX7_act_34 : decode cX7_act 34 = .ok (.aload_n 0, 1) := by decide +kernel
theorem dX7_act_35 : decode cX7_act 35 = .ok (.getfield 12, 3) := by decide +kernel
theorem dX7_act_38 : decode cX7_act 38 = .ok (.getfield 60, 3) := by decide +kernel
theorem dX7_act_41 : decode cX7_act 41 = .ok (.getfield 79, 3) := by decide +kernel
theorem dX7_act_44 : decode cX7_act 44 = .ok (.iload_n 1, 1) := by decide +kernel
theorem dX7_act_45 : decode cX7_act 45 = .ok (.iaload, 1) := by decide +kernel
theorem dX7_act_46 : decode cX7_act 46 = .ok (.invokevirtual 244, 3) := by decide +kernel
theorem dX7_act_49 : decode cX7_act 49 = .ok (.aload_n 0, 1) := by decide +kernel
theorem dX7_act_50 : decode cX7_act 50 = .ok (.getfield 44, 3) := by decide +kernel
theorem dX7_act_53 : decode cX7_act 53 = .ok (.iload_n 2, 1) := by decide +kernel
theorem dX7_act_54 : decode cX7_act 54 = .ok (.iload_n 3, 1) := by decide +kernel
theorem dX7_act_55 : decode cX7_act 55 = .ok (.invokevirtual 248, 3) := by decide +kernel
theorem dX7_act_58 : decode cX7_act 58 = .ok (.ireturn, 1) := by decide +kernel
theorem dX7_trace_0 : decode cX7_trace 0 = .ok (.iload_n 1, 1) := by decide +kernel
theorem dX7_trace_1 : decode cX7_trace 1 = .ok (.ifCond .lt 32, 3) := by decide +kernel
theorem dX7_trace_4 : decode cX7_trace 4 = .ok (.iload_n 1, 1) := by decide +kernel
theorem dX7_trace_5 : decode cX7_trace 5 = .ok (.aload_n 0, 1) := by decide +kernel
theorem dX7_trace_6 : decode cX7_trace 6 = .ok (.getfield 44, 3) := by decide +kernel
theorem dX7_trace_9 : decode cX7_trace 9 = .ok (.getfield 251, 3) := by decide +kernel
theorem dX7_trace_12 : decode cX7_trace 12 = .ok (.if_icmp .ge 21, 3) := by decide +kernel
theorem dX7_trace_15 : decode cX7_trace 15 = .ok (.iload_n 1, 1) := by decide +kernel
theorem dX7_trace_16 : decode cX7_trace 16 = .ok (.bipush 20, 2) := by decide +kernel
theorem dX7_trace_18 : decode cX7_trace 18 = .ok (.if_icmp .ge 15, 3) := by decide +kernel
theorem dX7_trace_21 : decode cX7_trace 21 = .ok (.aload_n 0, 1) := by decide +kernel
theorem dX7_trace_22 : decode cX7_trace 22 = .ok (.getfield 44, 3) := by decide +kernel
theorem dX7_trace_25 : decode cX7_trace 25 = .ok (.getfield 254, 3) := by decide +kernel
theorem dX7_trace_28 : decode cX7_trace 28 = .ok (.iload_n 1, 1) := by decide +kernel
theorem dX7_trace_29 : decode cX7_trace 29 = .ok (.iaload, 1) := by decide +kernel
theorem dX7_trace_30 : decode cX7_trace 30 = .ok (.goto 4, 3) := by decide +kernel
theorem dX7_trace_33 : decode cX7_trace 33 = .ok (.iconst (-1), 1) := by decide +kernel
theorem dX7_trace_34 : decode cX7_trace 34 = .ok (.ireturn, 1) := by decide +kernel
theorem dX7_taken_0 : decode cX7_taken 0 = .ok (.iload_n 2, 1) := by decide +kernel
theorem dX7_taken_1 : decode cX7_taken 1 = .ok (.iconst 0, 1) := by decide +kernel
theorem dX7_taken_2 : decode cX7_taken 2 = .ok (.bipush 6, 2) := by decide +kernel
theorem dX7_taken_4 : decode cX7_taken 4 = .ok (.invokestatic 56, 3) := by decide +kernel
theorem dX7_taken_7 : decode cX7_taken 7 = .ok (.ifCond .ne 6, 3) := by decide +kernel
theorem dX7_taken_10 : decode cX7_taken 10 = .ok (.bipush (-2), 2) := by decide +kernel
theorem dX7_taken_12 : decode cX7_taken 12 = .ok (.ireturn, 1) := by decide +kernel
theorem dX7_taken_13 : decode cX7_taken 13 = .ok (.aload_n 0, 1) := by decide +kernel
theorem dX7_taken_14 : decode cX7_taken 14 = .ok (.iload_n 1, 1) := by decide +kernel
theorem dX7_taken_15 : decode cX7_taken 15 = .ok (.invokevirtual 71, 3) := by decide +kernel
theorem dX7_taken_18 : decode cX7_taken 18 = .ok (.ifCond .ne 6, 3) := by decide +kernel
theorem dX7_taken_21 : decode cX7_taken 21 = .ok (.bipush (-11), 2) := by decide +kernel
theorem dX7_taken_23 : decode cX7_taken 23 = .ok (.ireturn, 1) := by decide +kernel
theorem dX7_taken_24 : decode cX7_taken 24 = .ok (.aload_n 0, 1) := by decide +kernel
theorem dX7_taken_25 : decode cX7_taken 25 = .ok (.getfield 12, 3) := by decide +kernel
theorem dX7_taken_28 : decode cX7_taken 28 = .ok (.getfield 60, 3) := by decide +kernel
theorem dX7_taken_31 : decode cX7_taken 31 = .ok (.getfield 75, 3) := by decide +kernel
theorem dX7_taken_34 : decode cX7_taken 34 = .ok (.iload_n 1, 1) := by decide +kernel
theorem dX7_taken_35 : decode cX7_taken 35 = .ok (.iaload, 1) := by decide +kernel
theorem dX7_taken_36 : decode cX7_taken 36 = .ok (.istore_n 3, 1) := by decide +kernel
theorem dX7_taken_37 : decode cX7_taken 37 = .ok (.iload_n 3, 1) := by decide +kernel
theorem dX7_taken_38 : decode cX7_taken 38 = .ok (.istore 4, 2) := by decide +kernel
theorem dX7_taken_40 : decode cX7_taken 40 = .ok (.iconst 0, 1) := by decide +kernel
theorem dX7_taken_41 : decode cX7_taken 41 = .ok (.istore 5, 2) := by decide +kernel
theorem dX7_taken_43 : decode cX7_taken 43 = .ok (.iload 5, 2) := by decide +kernel
theorem dX7_taken_45 : decode cX7_taken 45 = .ok (.getstatic 257, 3) := by decide +kernel
theorem dX7_taken_48 : decode cX7_taken 48 = .ok (.arraylength, 1) := by decide +kernel
theorem dX7_taken_49 : decode cX7_taken 49 = .ok (.if_icmp .ge 36, 3) := by decide +kernel
theorem dX7_taken_52 : decode cX7_taken 52 = .ok (.iload 4, 2) := by decide +kernel
theorem dX7_taken_54 : decode cX7_taken 54 = .ok (.iconst 0, 1) := by decide +kernel
theorem dX7_taken_55 : decode cX7_taken 55 = .ok (.bipush 6, 2) := by decide +kernel
theorem dX7_taken_57 : decode cX7_taken 57 = .ok (.invokestatic 56, 3) := by decide +kernel
theorem dX7_taken_60 : decode cX7_taken 60 = .ok (.ifCond .eq 25, 3) := by decide +kernel
theorem dX7_taken_63 : decode cX7_taken 63 = .ok (.iload 4, 2) := by decide +kernel
theorem dX7_taken_65 : decode cX7_taken 65 = .ok (.iload_n 2, 1) := by decide +kernel
theorem dX7_taken_66 : decode cX7_taken 66 = .ok (.if_icmp .ne 5, 3) := by decide +kernel
theorem dX7_taken_69 : decode cX7_taken 69 = .ok (.iload_n 3, 1) := by decide +kernel
theorem dX7_taken_70 : decode cX7_taken 70 = .ok (.ireturn, 1) := by decide +kernel
theorem dX7_taken_71 : decode cX7_taken 71 = .ok (.getstatic 257, 3) := by decide +kernel
theorem dX7_taken_74 : decode cX7_taken 74 = .ok (.iload 4, 2) := by decide +kernel
theorem dX7_taken_76 : decode cX7_taken 76 = .ok (.iaload, 1) := by decide +kernel
theorem dX7_taken_77 : decode cX7_taken 77 = .ok (.istore 4, 2) := by decide +kernel
theorem dX7_taken_79 : decode cX7_taken 79 = .ok (.iinc 5 1, 3) := by decide +kernel
theorem dX7_taken_82 : decode cX7_taken 82 = .ok (.goto (-39), 3) := by decide +kernel
theorem dX7_taken_85 : decode cX7_taken 85 = .ok (.bipush (-12), 2) := by decide +kernel
theorem dX7_taken_87 : decode cX7_taken 87 = .ok (.ireturn, 1) := by decide +kernel
theorem dX7_count_0 : decode cX7_count 0 = .ok (.iload_n 1, 1) := by decide +kernel
theorem dX7_count_1 : decode cX7_count 1 = .ok (.tableswitch 123 0 7 #[47, 58, 69, 74, 85, 96, 107, 115], 47) := by decide +kernel
theorem dX7_count_48 : decode cX7_count 48 = .ok (.aload_n 0, 1) := by decide +kernel
theorem dX7_count_49 : decode cX7_count 49 = .ok (.getfield 12, 3) := by decide +kernel
theorem dX7_count_52 : decode cX7_count 52 = .ok (.getfield 60, 3) := by decide +kernel
theorem dX7_count_55 : decode cX7_count 55 = .ok (.getfield 63, 3) := by decide +kernel
theorem dX7_count_58 : decode cX7_count 58 = .ok (.ireturn, 1) := by decide +kernel
theorem dX7_count_59 : decode cX7_count 59 = .ok (.aload_n 0, 1) := by decide +kernel
theorem dX7_count_60 : decode cX7_count 60 = .ok (.getfield 12, 3) := by decide +kernel
theorem dX7_count_63 : decode cX7_count 63 = .ok (.getfield 60, 3) := by decide +kernel
theorem dX7_count_66 : decode cX7_count 66 = .ok (.getfield 163, 3) := by decide +kernel
theorem dX7_count_69 : decode cX7_count 69 = .ok (.ireturn, 1) := by decide +kernel
theorem dX7_count_70 : decode cX7_count 70 = .ok (.aload_n 0, 1) := by decide +kernel
theorem dX7_count_71 : decode cX7_count 71 = .ok (.getfield 128, 3) := by decide +kernel
theorem dX7_count_74 : decode cX7_count 74 = .ok (.ireturn, 1) := by decide +kernel
theorem dX7_count_75 : decode cX7_count 75 = .ok (.aload_n 0, 1) := by decide +kernel
theorem dX7_count_76 : decode cX7_count 76 = .ok (.getfield 12, 3) := by decide +kernel
theorem dX7_count_79 : decode cX7_count 79 = .ok (.getfield 184, 3) := by decide +kernel
theorem dX7_count_82 : decode cX7_count 82 = .ok (.getfield 210, 3) := by decide +kernel
theorem dX7_count_85 : decode cX7_count 85 = .ok (.ireturn, 1) := by decide +kernel
theorem dX7_count_86 : decode cX7_count 86 = .ok (.aload_n 0, 1) := by decide +kernel
theorem dX7_count_87 : decode cX7_count 87 = .ok (.getfield 12, 3) := by decide +kernel
theorem dX7_count_90 : decode cX7_count 90 = .ok (.getfield 207, 3) := by decide +kernel
theorem dX7_count_93 : decode cX7_count 93 = .ok (.getfield 210, 3) := by decide +kernel
theorem dX7_count_96 : decode cX7_count 96 = .ok (.ireturn, 1) := by decide +kernel
theorem dX7_count_97 : decode cX7_count 97 = .ok (.aload_n 0, 1) := by decide +kernel
theorem dX7_count_98 : decode cX7_count 98 = .ok (.getfield 12, 3) := by decide +kernel
theorem dX7_count_101 : decode cX7_count 101 = .ok (.getfield 223, 3) := by decide +kernel
theorem dX7_count_104 : decode cX7_count 104 = .ok (.getfield 210, 3) := by decide +kernel
theorem dX7_count_107 : decode cX7_count 107 = .ok (.ireturn, 1) := by decide +kernel
theorem dX7_count_108 : decode cX7_count 108 = .ok (.aload_n 0, 1) := by decide +kernel
theorem dX7_count_109 : decode cX7_count 109 = .ok (.getfield 31, 3) := by decide +kernel
theorem dX7_count_112 : decode cX7_count 112 = .ok (.getfield 121, 3) := by decide +kernel
theorem dX7_count_115 : decode cX7_count 115 = .ok (.ireturn, 1) := by decide +kernel
theorem dX7_count_116 : decode cX7_count 116 = .ok (.aload_n 0, 1) := by decide +kernel
theorem dX7_count_117 : decode cX7_count 117 = .ok (.getfield 44, 3) := by decide +kernel
theorem dX7_count_120 : decode cX7_count 120 = .ok (.getfield 251, 3) := by decide +kernel
theorem dX7_count_123 : decode cX7_count 123 = .ok (.ireturn, 1) := by decide +kernel
theorem dX7_count_124 : decode cX7_count 124 = .ok (.bipush (-2), 2) := by decide +kernel
theorem dX7_count_126 : decode cX7_count 126 = .ok (.ireturn, 1) := by decide +kernel
theorem dX7_tape_0 : decode cX7_tape 0 = .ok (.iload_n 1, 1) := by decide +kernel
theorem dX7_tape_1 : decode cX7_tape 1 = .ok (.iconst 0, 1) := by decide +kernel
theorem dX7_tape_2 : decode cX7_tape 2 = .ok (.iconst 5, 1) := by decide +kernel
theorem dX7_tape_3 : decode cX7_tape 3 = .ok (.invokestatic 56, 3) := by decide +kernel
theorem dX7_tape_6 : decode cX7_tape 6 = .ok (.ifCond .ne 5, 3) := by decide +kernel
theorem dX7_tape_9 : decode cX7_tape 9 = .ok (.iconst (-1), 1) := by decide +kernel
theorem dX7_tape_10 : decode cX7_tape 10 = .ok (.ireturn, 1) := by decide +kernel
theorem dX7_tape_11 : decode cX7_tape 11 = .ok (.iload_n 2, 1) := by decide +kernel
theorem dX7_tape_12 : decode cX7_tape 12 = .ok (.iconst (-1), 1) := by decide +kernel
theorem dX7_tape_13 : decode cX7_tape 13 = .ok (.if_icmp .ne 16, 3) := by decide +kernel
theorem dX7_tape_16 : decode cX7_tape 16 = .ok (.aload_n 0, 1) := by decide +kernel
theorem dX7_tape_17 : decode cX7_tape 17 = .ok (.getfield 50, 3) := by decide +kernel
theorem dX7_tape_20 : decode cX7_tape 20 = .ok (.iload_n 1, 1) := by decide +kernel
theorem dX7_tape_21 : decode cX7_tape 21 = .ok (.aaload, 1) := by decide +kernel
theorem dX7_tape_22 : decode cX7_tape 22 = .ok (.iconst (-1), 1) := by decide +kernel
theorem dX7_tape_23 : decode cX7_tape 23 = .ok (.iconst 0, 1) := by decide +kernel
theorem dX7_tape_24 : decode cX7_tape 24 = .ok (.invokevirtual 260, 3) := by decide +kernel
theorem dX7_tape_27 : decode cX7_tape 27 = .ok (.iconst 1, 1) := by decide +kernel
theorem dX7_tape_28 : decode cX7_tape 28 = .ok (.ireturn, 1) := by decide +kernel
theorem dX7_tape_29 : decode cX7_tape 29 = .ok (.iload_n 2, 1) := by decide +kernel
theorem dX7_tape_30 : decode cX7_tape 30 = .ok (.iconst 0, 1) := by decide +kernel
theorem dX7_tape_31 : decode cX7_tape 31 = .ok (.iconst 4, 1) := by decide +kernel
theorem dX7_tape_32 : decode cX7_tape 32 = .ok (.invokestatic 56, 3) := by decide +kernel
theorem dX7_tape_35 : decode cX7_tape 35 = .ok (.ifCond .eq 9, 3) := by decide +kernel
theorem dX7_tape_38 : decode cX7_tape 38 = .ok (.iload_n 3, 1) := by decide +kernel
theorem dX7_tape_39 : decode cX7_tape 39 = .ok (.bipush 60, 2) := by decide +kernel
theorem dX7_tape_41 : decode cX7_tape 41 = .ok (.if_icmp .le 6, 3) := by decide +kernel
theorem dX7_tape_44 : decode cX7_tape 44 = .ok (.bipush (-2), 2) := by decide +kernel
theorem dX7_tape_46 : decode cX7_tape 46 = .ok (.ireturn, 1) := by decide +kernel
theorem dX7_tape_47 : decode cX7_tape 47 = .ok (.iload_n 3, 1) := by decide +kernel
theorem dX7_tape_48 : decode cX7_tape 48 = .ok (.ifCond .ge 6, 3) := by decide +kernel
theorem dX7_tape_51 : decode cX7_tape 51 = .ok (.bipush (-14), 2) := by decide +kernel
theorem dX7_tape_53 : decode cX7_tape 53 = .ok (.ireturn, 1) := by decide +kernel
theorem dX7_tape_54 : decode cX7_tape 54 = .ok (.aload_n 0, 1) := by decide +kernel
theorem dX7_tape_55 : decode cX7_tape 55 = .ok (.getfield 50, 3) := by decide +kernel
theorem dX7_tape_58 : decode cX7_tape 58 = .ok (.iload_n 1, 1) := by decide +kernel
theorem dX7_tape_59 : decode cX7_tape 59 = .ok (.aaload, 1) := by decide +kernel
theorem dX7_tape_60 : decode cX7_tape 60 = .ok (.iload_n 2, 1) := by decide +kernel
theorem dX7_tape_61 : decode cX7_tape 61 = .ok (.iload_n 3, 1) := by decide +kernel
theorem dX7_tape_62 : decode cX7_tape 62 = .ok (.invokevirtual 260, 3) := by decide +kernel
theorem dX7_tape_65 : decode cX7_tape 65 = .ok (.iconst 1, 1) := by decide +kernel
theorem dX7_tape_66 : decode cX7_tape 66 = .ok (.ireturn, 1) := by decide +kernel
theorem dX7_item_0 : decode cX7_item 0 = .ok (.iload_n 1, 1) := by decide +kernel
theorem dX7_item_1 : decode cX7_item 1 = .ok (.iconst 0, 1) := by decide +kernel
theorem dX7_item_2 : decode cX7_item 2 = .ok (.iconst 5, 1) := by decide +kernel
theorem dX7_item_3 : decode cX7_item 3 = .ok (.invokestatic 56, 3) := by decide +kernel
theorem dX7_item_6 : decode cX7_item 6 = .ok (.ifCond .ne 5, 3) := by decide +kernel
theorem dX7_item_9 : decode cX7_item 9 = .ok (.iconst (-1), 1) := by decide +kernel
theorem dX7_item_10 : decode cX7_item 10 = .ok (.ireturn, 1) := by decide +kernel
theorem dX7_item_11 : decode cX7_item 11 = .ok (.aload_n 0, 1) := by decide +kernel
theorem dX7_item_12 : decode cX7_item 12 = .ok (.getfield 50, 3) := by decide +kernel
theorem dX7_item_15 : decode cX7_item 15 = .ok (.iload_n 1, 1) := by decide +kernel
theorem dX7_item_16 : decode cX7_item 16 = .ok (.aaload, 1) := by decide +kernel
theorem dX7_item_17 : decode cX7_item 17 = .ok (.astore 5, 2) := by decide +kernel
theorem dX7_item_19 : decode cX7_item 19 = .ok (.aload 5, 2) := by decide +kernel
theorem dX7_item_21 : decode cX7_item 21 = .ok (.getfield 226, 3) := by decide +kernel
theorem dX7_item_24 : decode cX7_item 24 = .ok (.iconst (-1), 1) := by decide +kernel
theorem dX7_item_25 : decode cX7_item 25 = .ok (.if_icmp .ne 6, 3) := by decide +kernel
theorem dX7_item_28 : decode cX7_item 28 = .ok (.bipush (-11), 2) := by decide +kernel
theorem dX7_item_30 : decode cX7_item 30 = .ok (.ireturn, 1) := by decide +kernel
theorem dX7_item_31 : decode cX7_item 31 = .ok (.iload_n 2, 1) := by decide +kernel
theorem dX7_item_32 : decode cX7_item 32 = .ok (.iconst 0, 1) := by decide +kernel
theorem dX7_item_33 : decode cX7_item 33 = .ok (.aload 5, 2) := by decide +kernel
theorem dX7_item_35 : decode cX7_item 35 = .ok (.getfield 229, 3) := by decide +kernel
theorem dX7_item_38 : decode cX7_item 38 = .ok (.iconst 1, 1) := by decide +kernel
theorem dX7_item_39 : decode cX7_item 39 = .ok (.isub, 1) := by decide +kernel
theorem dX7_item_40 : decode cX7_item 40 = .ok (.invokestatic 56, 3) := by decide +kernel
theorem dX7_item_43 : decode cX7_item 43 = .ok (.ifCond .ne 6, 3) := by decide +kernel
theorem dX7_item_46 : decode cX7_item 46 = .ok (.bipush (-13), 2) := by decide +kernel
theorem dX7_item_48 : decode cX7_item 48 = .ok (.ireturn, 1) := by decide +kernel
theorem dX7_item_49 : decode cX7_item 49 = .ok (.aload 5, 2) := by decide +kernel
theorem dX7_item_51 : decode cX7_item 51 = .ok (.getfield 230, 3) := by decide +kernel
theorem dX7_item_54 : decode cX7_item 54 = .ok (.iload_n 2, 1) := by decide +kernel
theorem dX7_item_55 : decode cX7_item 55 = .ok (.aload 5, 2) := by decide +kernel
theorem dX7_item_57 : decode cX7_item 57 = .ok (.lload_n 3, 1) := by decide +kernel
theorem dX7_item_58 : decode cX7_item 58 = .ok (.invokevirtual 263, 3) := by decide +kernel
theorem dX7_item_61 : decode cX7_item 61 = .ok (.lastore, 1) := by decide +kernel
theorem dX7_item_62 : decode cX7_item 62 = .ok (.iconst 1, 1) := by decide +kernel
theorem dX7_item_63 : decode cX7_item 63 = .ok (.ireturn, 1) := by decide +kernel
theorem dX7_read_0 : decode cX7_read 0 = .ok (.iload_n 1, 1) := by decide +kernel
theorem dX7_read_1 : decode cX7_read 1 = .ok (.iconst 0, 1) := by decide +kernel
theorem dX7_read_2 : decode cX7_read 2 = .ok (.iconst 5, 1) := by decide +kernel
theorem dX7_read_3 : decode cX7_read 3 = .ok (.invokestatic 56, 3) := by decide +kernel
theorem dX7_read_6 : decode cX7_read 6 = .ok (.ifCond .eq 22, 3) := by decide +kernel
theorem dX7_read_9 : decode cX7_read 9 = .ok (.iload_n 2, 1) := by decide +kernel
theorem dX7_read_10 : decode cX7_read 10 = .ok (.iconst 0, 1) := by decide +kernel
theorem dX7_read_11 : decode cX7_read 11 = .ok (.aload_n 0, 1) := by decide +kernel
theorem dX7_read_12 : decode cX7_read 12 = .ok (.getfield 50, 3) := by decide +kernel
theorem dX7_read_15 : decode cX7_read 15 = .ok (.iload_n 1, 1) := by decide +kernel
theorem dX7_read_16 : decode cX7_read 16 = .ok (.aaload, 1) := by decide +kernel
theorem dX7_read_17 : decode cX7_read 17 = .ok (.getfield 229, 3) := by decide +kernel
theorem dX7_read_20 : decode cX7_read 20 = .ok (.iconst 1, 1) := by decide +kernel
theorem dX7_read_21 : decode cX7_read 21 = .ok (.isub, 1) := by decide +kernel
theorem dX7_read_22 : decode cX7_read 22 = .ok (.invokestatic 56, 3) := by decide +kernel
theorem dX7_read_25 : decode cX7_read 25 = .ok (.ifCond .ne 7, 3) := by decide +kernel
theorem dX7_read_28 : decode cX7_read 28 = .ok (.ldc2_w 201, 3) := by decide +kernel
theorem dX7_read_31 : decode cX7_read 31 = .ok (.lreturn, 1) := by decide +kernel
theorem dX7_read_32 : decode cX7_read 32 = .ok (.aload_n 0, 1) := by decide +kernel
theorem dX7_read_33 : decode cX7_read 33 = .ok (.getfield 50, 3) := by decide +kernel
theorem dX7_read_36 : decode cX7_read 36 = .ok (.iload_n 1, 1) := by decide +kernel
theorem dX7_read_37 : decode cX7_read 37 = .ok (.aaload, 1) := by decide +kernel
theorem dX7_read_38 : decode cX7_read 38 = .ok (.getfield 230, 3) := by decide +kernel
theorem dX7_read_41 : decode cX7_read 41 = .ok (.iload_n 2, 1) := by decide +kernel
theorem dX7_read_42 : decode cX7_read 42 = .ok (.laload, 1) := by decide +kernel
theorem dX7_read_43 : decode cX7_read 43 = .ok (.lreturn, 1) := by decide +kernel
theorem dX7_shift_0 : decode cX7_shift 0 = .ok (.iload_n 1, 1) := by decide +kernel
theorem dX7_shift_1 : decode cX7_shift 1 = .ok (.iconst 0, 1) := by decide +kernel
theorem dX7_shift_2 : decode cX7_shift 2 = .ok (.iconst 5, 1) := by decide +kernel
theorem dX7_shift_3 : decode cX7_shift 3 = .ok (.invokestatic 56, 3) := by decide +kernel
theorem dX7_shift_6 : decode cX7_shift 6 = .ok (.ifCond .eq 12, 3) := by decide +kernel
theorem dX7_shift_9 : decode cX7_shift 9 = .ok (.iload_n 3, 1) := by decide +kernel
theorem dX7_shift_10 : decode cX7_shift 10 = .ok (.iconst 0, 1) := by decide +kernel
theorem dX7_shift_11 : decode cX7_shift 11 = .ok (.iconst 5, 1) := by decide +kernel
theorem dX7_shift_12 : decode cX7_shift 12 = .ok (.invokestatic 56, 3) := by decide +kernel
theorem dX7_shift_15 : decode cX7_shift 15 = .ok (.ifCond .ne 5, 3) := by decide +kernel
theorem dX7_shift_18 : decode cX7_shift 18 = .ok (.iconst (-1), 1) := by decide +kernel
theorem dX7_shift_19 : decode cX7_shift 19 = .ok (.ireturn, 1) := by decide +kernel
theorem dX7_shift_20 : decode cX7_shift 20 = .ok (.aload_n 0, 1) := by decide +kernel
theorem dX7_shift_21 : decode cX7_shift 21 = .ok (.getfield 50, 3) := by decide +kernel
theorem dX7_shift_24 : decode cX7_shift 24 = .ok (.iload_n 1, 1) := by decide +kernel
theorem dX7_shift_25 : decode cX7_shift 25 = .ok (.aaload, 1) := by decide +kernel
theorem dX7_shift_26 : decode cX7_shift 26 = .ok (.astore 6, 2) := by decide +kernel
theorem dX7_shift_28 : decode cX7_shift 28 = .ok (.aload_n 0, 1) := by decide +kernel
theorem dX7_shift_29 : decode cX7_shift 29 = .ok (.getfield 50, 3) := by decide +kernel
theorem dX7_shift_32 : decode cX7_shift 32 = .ok (.iload_n 3, 1) := by decide +kernel
theorem dX7_shift_33 : decode cX7_shift 33 = .ok (.aaload, 1) := by decide +kernel
theorem dX7_shift_34 : decode cX7_shift 34 = .ok (.astore 7, 2) := by decide +kernel
theorem dX7_shift_36 : decode cX7_shift 36 = .ok (.aload 6, 2) := by decide +kernel
theorem dX7_shift_38 : decode cX7_shift 38 = .ok (.getfield 226, 3) := by decide +kernel
theorem dX7_shift_41 : decode cX7_shift 41 = .ok (.iconst (-1), 1) := by decide +kernel
theorem dX7_shift_42 : decode cX7_shift 42 = .ok (.if_icmp .eq 12, 3) := by decide +kernel
theorem dX7_shift_45 : decode cX7_shift 45 = .ok (.aload 7, 2) := by decide +kernel
theorem dX7_shift_47 : decode cX7_shift 47 = .ok (.getfield 226, 3) := by decide +kernel
theorem dX7_shift_50 : decode cX7_shift 50 = .ok (.iconst (-1), 1) := by decide +kernel
theorem dX7_shift_51 : decode cX7_shift 51 = .ok (.if_icmp .ne 6, 3) := by decide +kernel
theorem dX7_shift_54 : decode cX7_shift 54 = .ok (.bipush (-11), 2) := by decide +kernel
theorem dX7_shift_56 : decode cX7_shift 56 = .ok (.ireturn, 1) := by decide +kernel
theorem dX7_shift_57 : decode cX7_shift 57 = .ok (.aload 6, 2) := by decide +kernel
theorem dX7_shift_59 : decode cX7_shift 59 = .ok (.getfield 226, 3) := by decide +kernel
theorem dX7_shift_62 : decode cX7_shift 62 = .ok (.aload 7, 2) := by decide +kernel
theorem dX7_shift_64 : decode cX7_shift 64 = .ok (.getfield 226, 3) := by decide +kernel
theorem dX7_shift_67 : decode cX7_shift 67 = .ok (.if_icmp .eq 6, 3) := by decide +kernel
theorem dX7_shift_70 : decode cX7_shift 70 = .ok (.bipush (-12), 2) := by decide +kernel
theorem dX7_shift_72 : decode cX7_shift 72 = .ok (.ireturn, 1) := by decide +kernel
theorem dX7_shift_73 : decode cX7_shift 73 = .ok (.iload 5, 2) := by decide +kernel
theorem dX7_shift_75 : decode cX7_shift 75 = .ok (.ifCond .lt 36, 3) := by decide +kernel
theorem dX7_shift_78 : decode cX7_shift 78 = .ok (.iload_n 2, 1) := by decide +kernel
theorem dX7_shift_79 : decode cX7_shift 79 = .ok (.iconst 0, 1) := by decide +kernel
theorem dX7_shift_80 : decode cX7_shift 80 = .ok (.aload 6, 2) := by decide +kernel
theorem dX7_shift_82 : decode cX7_shift 82 = .ok (.getfield 229, 3) := by decide +kernel
theorem dX7_shift_85 : decode cX7_shift 85 = .ok (.iload 5, 2) := by decide +kernel
theorem dX7_shift_87 : decode cX7_shift 87 = .ok (.isub, 1) := by decide +kernel
theorem dX7_shift_88 : decode cX7_shift 88 = .ok (.invokestatic 56, 3) := by decide +kernel
theorem dX7_shift_91 : decode cX7_shift 91 = .ok (.ifCond .eq 20, 3) := by decide +kernel
theorem dX7_shift_94 : decode cX7_shift 94 = .ok (.iload 4, 2) := by decide +kernel
theorem dX7_shift_96 : decode cX7_shift 96 = .ok (.iconst 0, 1) := by decide +kernel
theorem dX7_shift_97 : decode cX7_shift 97 = .ok (.aload 7, 2) := by decide +kernel
theorem dX7_shift_99 : decode cX7_shift 99 = .ok (.getfield 229, 3) := by decide +kernel
theorem dX7_shift_102 : decode cX7_shift 102 = .ok (.iload 5, 2) := by decide +kernel
theorem dX7_shift_104 : decode cX7_shift 104 = .ok (.isub, 1) := by decide +kernel
theorem dX7_shift_105 : decode cX7_shift 105 = .ok (.invokestatic 56, 3) := by decide +kernel
theorem dX7_shift_108 : decode cX7_shift 108 = .ok (.ifCond .ne 6, 3) := by decide +kernel
theorem dX7_shift_111 : decode cX7_shift 111 = .ok (.bipush (-13), 2) := by decide +kernel
theorem dX7_shift_113 : decode cX7_shift 113 = .ok (.ireturn, 1) := by decide +kernel
theorem dX7_shift_114 : decode cX7_shift 114 = .ok (.aload 6, 2) := by decide +kernel
theorem dX7_shift_116 : decode cX7_shift 116 = .ok (.getfield 230, 3) := by decide +kernel
theorem dX7_shift_119 : decode cX7_shift 119 = .ok (.iload_n 2, 1) := by decide +kernel
theorem dX7_shift_120 : decode cX7_shift 120 = .ok (.aload 7, 2) := by decide +kernel
theorem dX7_shift_122 : decode cX7_shift 122 = .ok (.getfield 230, 3) := by decide +kernel
theorem dX7_shift_125 : decode cX7_shift 125 = .ok (.iload 4, 2) := by decide +kernel
theorem dX7_shift_127 : decode cX7_shift 127 = .ok (.iload 5, 2) := by decide +kernel
theorem dX7_shift_129 : decode cX7_shift 129 = .ok (.invokestatic 267, 3) := by decide +kernel
theorem dX7_shift_132 : decode cX7_shift 132 = .ok (.iload 5, 2) := by decide +kernel
theorem dX7_shift_134 : decode cX7_shift 134 = .ok (.ireturn, 1) := by decide +kernel
theorem dX7_within_0 : decode cX7_within 0 = .ok (.iload_n 0, 1) := by decide +kernel
theorem dX7_within_1 : decode cX7_within 1 = .ok (.iload_n 1, 1) := by decide +kernel
theorem dX7_within_2 : decode cX7_within 2 = .ok (.if_icmp .lt 12, 3) := by decide +kernel
theorem dX7_within_5 : decode cX7_within 5 = .ok (.iload_n 0, 1) := by decide +kernel
theorem dX7_within_6 : decode cX7_within 6 = .ok (.iload_n 2, 1) := by decide +kernel
theorem dX7_within_7 : decode cX7_within 7 = .ok (.if_icmp .gt 7, 3) := by decide +kernel
theorem dX7_within_10 : decode cX7_within 10 = .ok (.iconst 1, 1) := by decide +kernel
theorem dX7_within_11 : decode cX7_within 11 = .ok (.goto 4, 3) := by decide +kernel
theorem dX7_within_14 : decode cX7_within 14 = .ok (.iconst 0, 1) := by decide +kernel
theorem dX7_within_15 : decode cX7_within 15 = .ok (.ireturn, 1) := by decide +kernel
theorem dX7_isPerson_0 : decode cX7_isPerson 0 = .ok (.iload_n 1, 1) := by decide +kernel
theorem dX7_isPerson_1 : decode cX7_isPerson 1 = .ok (.ifCond .lt 21, 3) := by decide +kernel
theorem dX7_isPerson_4 : decode cX7_isPerson 4 = .ok (.iload_n 1, 1) := by decide +kernel
theorem dX7_isPerson_5 : decode cX7_isPerson 5 = .ok (.aload_n 0, 1) := by decide +kernel
theorem dX7_isPerson_6 : decode cX7_isPerson 6 = .ok (.getfield 12, 3) := by decide +kernel
theorem dX7_isPerson_9 : decode cX7_isPerson 9 = .ok (.getfield 60, 3) := by decide +kernel
theorem dX7_isPerson_12 : decode cX7_isPerson 12 = .ok (.getfield 63, 3) := by decide +kernel
theorem dX7_isPerson_15 : decode cX7_isPerson 15 = .ok (.if_icmp .ge 7, 3) := by decide +kernel
theorem dX7_isPerson_18 : decode cX7_isPerson 18 = .ok (.iconst 1, 1) := by decide +kernel
theorem dX7_isPerson_19 : decode cX7_isPerson 19 = .ok (.goto 4, 3) := by decide +kernel
theorem dX7_isPerson_22 : decode cX7_isPerson 22 = .ok (.iconst 0, 1) := by decide +kernel
theorem dX7_isPerson_23 : decode cX7_isPerson 23 = .ok (.ireturn, 1) := by decide +kernel
theorem dX7_placeOrLacking_0 : decode cX7_placeOrLacking 0 = .ok (.aload_n 0, 1) := by decide +kernel
theorem dX7_placeOrLacking_1 : decode cX7_placeOrLacking 1 = .ok (.getfield 12, 3) := by decide +kernel
theorem dX7_placeOrLacking_4 : decode cX7_placeOrLacking 4 = .ok (.getfield 60, 3) := by decide +kernel
theorem dX7_placeOrLacking_7 : decode cX7_placeOrLacking 7 = .ok (.iload_n 1, 1) := by decide +kernel
theorem dX7_placeOrLacking_8 : decode cX7_placeOrLacking 8 = .ok (.invokevirtual 85, 3) := by decide +kernel
theorem dX7_placeOrLacking_11 : decode cX7_placeOrLacking 11 = .ok (.istore_n 2, 1) := by decide +kernel
theorem dX7_placeOrLacking_12 : decode cX7_placeOrLacking 12 = .ok (.iload_n 2, 1) := by decide +kernel
theorem dX7_placeOrLacking_13 : decode cX7_placeOrLacking 13 = .ok (.ifCond .ge 8, 3) := by decide +kernel
theorem dX7_placeOrLacking_16 : decode cX7_placeOrLacking 16 = .ok (.bipush (-5), 2) := by decide +kernel
theorem dX7_placeOrLacking_18 : decode cX7_placeOrLacking 18 = .ok (.goto 4, 3) := by decide +kernel
theorem dX7_placeOrLacking_21 : decode cX7_placeOrLacking 21 = .ok (.iload_n 2, 1) := by decide +kernel
theorem dX7_placeOrLacking_22 : decode cX7_placeOrLacking 22 = .ok (.ireturn, 1) := by decide +kernel
theorem dX7_urgeNow_0 : decode cX7_urgeNow 0 = .ok (.aload_n 0, 1) := by decide +kernel
theorem dX7_urgeNow_1 : decode cX7_urgeNow 1 = .ok (.getfield 12, 3) := by decide +kernel
theorem dX7_urgeNow_4 : decode cX7_urgeNow 4 = .ok (.getfield 60, 3) := by decide +kernel
theorem dX7_urgeNow_7 : decode cX7_urgeNow 7 = .ok (.iload_n 1, 1) := by decide +kernel
theorem dX7_urgeNow_8 : decode cX7_urgeNow 8 = .ok (.invokevirtual 85, 3) := by decide +kernel
theorem dX7_urgeNow_11 : decode cX7_urgeNow 11 = .ok (.istore_n 3, 1) := by decide +kernel
theorem dX7_urgeNow_12 : decode cX7_urgeNow 12 = .ok (.iload_n 3, 1) := by decide +kernel
theorem dX7_urgeNow_13 : decode cX7_urgeNow 13 = .ok (.ifCond .ge 9, 3) := by decide +kernel
theorem dX7_urgeNow_16 : decode cX7_urgeNow 16 = .ok (.sipush (-10001), 3) := by decide +kernel
theorem dX7_urgeNow_19 : decode cX7_urgeNow 19 = .ok (.goto 26, 3) := by decide +kernel
theorem dX7_urgeNow_22 : decode cX7_urgeNow 22 = .ok (.aload_n 0, 1) := by decide +kernel
theorem dX7_urgeNow_23 : decode cX7_urgeNow 23 = .ok (.getfield 12, 3) := by decide +kernel
theorem dX7_urgeNow_26 : decode cX7_urgeNow 26 = .ok (.getfield 60, 3) := by decide +kernel
theorem dX7_urgeNow_29 : decode cX7_urgeNow 29 = .ok (.iload_n 1, 1) := by decide +kernel
theorem dX7_urgeNow_30 : decode cX7_urgeNow 30 = .ok (.aload_n 0, 1) := by decide +kernel
theorem dX7_urgeNow_31 : decode cX7_urgeNow 31 = .ok (.getfield 12, 3) := by decide +kernel
theorem dX7_urgeNow_34 : decode cX7_urgeNow 34 = .ok (.getfield 60, 3) := by decide +kernel
theorem dX7_urgeNow_37 : decode cX7_urgeNow 37 = .ok (.iload_n 3, 1) := by decide +kernel
theorem dX7_urgeNow_38 : decode cX7_urgeNow 38 = .ok (.invokevirtual 273, 3) := by decide +kernel
theorem dX7_urgeNow_41 : decode cX7_urgeNow 41 = .ok (.iload_n 2, 1) := by decide +kernel
theorem dX7_urgeNow_42 : decode cX7_urgeNow 42 = .ok (.invokevirtual 276, 3) := by decide +kernel
theorem dX7_urgeNow_45 : decode cX7_urgeNow 45 = .ok (.ireturn, 1) := by decide +kernel
theorem dX7_hoursTillIn_0 : decode cX7_hoursTillIn 0 = .ok (.aload_n 0, 1) := by decide +kernel
theorem dX7_hoursTillIn_1 : decode cX7_hoursTillIn 1 = .ok (.getfield 24, 3) := by decide +kernel
theorem dX7_hoursTillIn_4 : decode cX7_hoursTillIn 4 = .ok (.aload_n 0, 1) := by decide +kernel
theorem dX7_hoursTillIn_5 : decode cX7_hoursTillIn 5 = .ok (.getfield 12, 3) := by decide +kernel
theorem dX7_hoursTillIn_8 : decode cX7_hoursTillIn 8 = .ok (.getfield 60, 3) := by decide +kernel
theorem dX7_hoursTillIn_11 : decode cX7_hoursTillIn 11 = .ok (.invokevirtual 177, 3) := by decide +kernel
theorem dX7_hoursTillIn_14 : decode cX7_hoursTillIn 14 = .ok (.iconst 0, 1) := by decide +kernel
theorem dX7_hoursTillIn_15 : decode cX7_hoursTillIn 15 = .ok (.istore_n 2, 1) := by decide +kernel
theorem dX7_hoursTillIn_16 : decode cX7_hoursTillIn 16 = .ok (.iload_n 2, 1) := by decide +kernel
theorem dX7_hoursTillIn_17 : decode cX7_hoursTillIn 17 = .ok (.bipush 60, 2) := by decide +kernel
theorem dX7_hoursTillIn_19 : decode cX7_hoursTillIn 19 = .ok (.if_icmp .gt 29, 3) := by decide +kernel
theorem dX7_hoursTillIn_22 : decode cX7_hoursTillIn 22 = .ok (.aload_n 0, 1) := by decide +kernel
theorem dX7_hoursTillIn_23 : decode cX7_hoursTillIn 23 = .ok (.getfield 24, 3) := by decide +kernel
theorem dX7_hoursTillIn_26 : decode cX7_hoursTillIn 26 = .ok (.iload_n 1, 1) := by decide +kernel
theorem dX7_hoursTillIn_27 : decode cX7_hoursTillIn 27 = .ok (.invokevirtual 85, 3) := by decide +kernel
theorem dX7_hoursTillIn_30 : decode cX7_hoursTillIn 30 = .ok (.ifCond .ge 5, 3) := by decide +kernel
theorem dX7_hoursTillIn_33 : decode cX7_hoursTillIn 33 = .ok (.iload_n 2, 1) := by decide +kernel
theorem dX7_hoursTillIn_34 : decode cX7_hoursTillIn 34 = .ok (.ireturn, 1) := by decide +kernel
theorem dX7_hoursTillIn_35 : decode cX7_hoursTillIn 35 = .ok (.aload_n 0, 1) := by decide +kernel
theorem dX7_hoursTillIn_36 : decode cX7_hoursTillIn 36 = .ok (.getfield 24, 3) := by decide +kernel
theorem dX7_hoursTillIn_39 : decode cX7_hoursTillIn 39 = .ok (.invokevirtual 279, 3) := by decide +kernel
theorem dX7_hoursTillIn_42 : decode cX7_hoursTillIn 42 = .ok (.iinc 2 1, 3) := by decide +kernel
theorem dX7_hoursTillIn_45 : decode cX7_hoursTillIn 45 = .ok (.goto (-29), 3) := by decide +kernel
theorem dX7_hoursTillIn_48 : decode cX7_hoursTillIn 48 = .ok (.bipush (-5), 2) := by decide +kernel
theorem dX7_hoursTillIn_50 : decode cX7_hoursTillIn 50 = .ok (.ireturn, 1) := by decide +kernel
theorem dX7_fitting_0 : decode cX7_fitting 0 = .ok (.iconst 0, 1) := by decide +kernel
theorem dX7_fitting_1 : decode cX7_fitting 1 = .ok (.istore_n 3, 1) := by decide +kernel
theorem dX7_fitting_2 : decode cX7_fitting 2 = .ok (.iconst 0, 1) := by decide +kernel
theorem dX7_fitting_3 : decode cX7_fitting 3 = .ok (.istore 4, 2) := by decide +kernel
theorem dX7_fitting_5 : decode cX7_fitting 5 = .ok (.iload 4, 2) := by decide +kernel
theorem dX7_fitting_7 : decode cX7_fitting 7 = .ok (.bipush 9, 2) := by decide +kernel
theorem dX7_fitting_9 : decode cX7_fitting 9 = .ok (.if_icmp .gt 42, 3) := by decide +kernel
theorem dX7_fitting_12 : decode cX7_fitting 12 = .ok (.aload_n 0, 1) := by decide +kernel
theorem dX7_fitting_13 : decode cX7_fitting 13 = .ok (.getfield 24, 3) := by decide +kernel
theorem dX7_fitting_16 : decode cX7_fitting 16 = .ok (.aload_n 0, 1) := by decide +kernel
theorem dX7_fitting_17 : decode cX7_fitting 17 = .ok (.getfield 12, 3) := by decide +kernel
theorem dX7_fitting_20 : decode cX7_fitting 20 = .ok (.getfield 60, 3) := by decide +kernel
theorem dX7_fitting_23 : decode cX7_fitting 23 = .ok (.invokevirtual 177, 3) := by decide +kernel
theorem dX7_fitting_26 : decode cX7_fitting 26 = .ok (.aload_n 1, 1) := by decide +kernel
theorem dX7_fitting_27 : decode cX7_fitting 27 = .ok (.iload_n 2, 1) := by decide +kernel
theorem dX7_fitting_28 : decode cX7_fitting 28 = .ok (.iload 4, 2) := by decide +kernel
theorem dX7_fitting_30 : decode cX7_fitting 30 = .ok (.iastore, 1) := by decide +kernel
theorem dX7_fitting_31 : decode cX7_fitting 31 = .ok (.aload_n 0, 1) := by decide +kernel
theorem dX7_fitting_32 : decode cX7_fitting 32 = .ok (.invokevirtual 282, 3) := by decide +kernel
theorem dX7_fitting_35 : decode cX7_fitting 35 = .ok (.ifCond .eq 10, 3) := by decide +kernel
theorem dX7_fitting_38 : decode cX7_fitting 38 = .ok (.iload_n 3, 1) := by decide +kernel
theorem dX7_fitting_39 : decode cX7_fitting 39 = .ok (.iconst 1, 1) := by decide +kernel
theorem dX7_fitting_40 : decode cX7_fitting 40 = .ok (.iload 4, 2) := by decide +kernel
theorem dX7_fitting_42 : decode cX7_fitting 42 = .ok (.ishl, 1) := by decide +kernel
theorem dX7_fitting_43 : decode cX7_fitting 43 = .ok (.ior, 1) := by decide +kernel
theorem dX7_fitting_44 : decode cX7_fitting 44 = .ok (.istore_n 3, 1) := by decide +kernel
theorem dX7_fitting_45 : decode cX7_fitting 45 = .ok (.iinc 4 1, 3) := by decide +kernel
theorem dX7_fitting_48 : decode cX7_fitting 48 = .ok (.goto (-43), 3) := by decide +kernel
theorem dX7_fitting_51 : decode cX7_fitting 51 = .ok (.iload_n 3, 1) := by decide +kernel
theorem dX7_fitting_52 : decode cX7_fitting 52 = .ok (.ireturn, 1) := by decide +kernel
theorem dX7_seenComesTrue_0 : decode cX7_seenComesTrue 0 = .ok (.iconst (-1), 1) := by decide +kernel
theorem dX7_seenComesTrue_1 : decode cX7_seenComesTrue 1 = .ok (.istore_n 1, 1) := by decide +kernel
theorem dX7_seenComesTrue_2 : decode cX7_seenComesTrue 2 = .ok (.iconst 0, 1) := by decide +kernel
theorem dX7_seenComesTrue_3 : decode cX7_seenComesTrue 3 = .ok (.istore_n 2, 1) := by decide +kernel
theorem dX7_seenComesTrue_4 : decode cX7_seenComesTrue 4 = .ok (.iload_n 2, 1) := by decide +kernel
theorem dX7_seenComesTrue_5 : decode cX7_seenComesTrue 5 = .ok (.aload_n 0, 1) := by decide +kernel
theorem dX7_seenComesTrue_6 : decode cX7_seenComesTrue 6 = .ok (.getfield 12, 3) := by decide +kernel
theorem dX7_seenComesTrue_9 : decode cX7_seenComesTrue 9 = .ok (.getfield 184, 3) := by decide +kernel
theorem dX7_seenComesTrue_12 : decode cX7_seenComesTrue 12 = .ok (.getfield 210, 3) := by decide +kernel
theorem dX7_seenComesTrue_15 : decode cX7_seenComesTrue 15 = .ok (.if_icmp .ge 26, 3) := by decide +kernel
theorem dX7_seenComesTrue_18 : decode cX7_seenComesTrue 18 = .ok (.iload_n 1, 1) := by decide +kernel
theorem dX7_seenComesTrue_19 : decode cX7_seenComesTrue 19 = .ok (.aload_n 0, 1) := by decide +kernel
theorem dX7_seenComesTrue_20 : decode cX7_seenComesTrue 20 = .ok (.getfield 12, 3) := by decide +kernel
theorem dX7_seenComesTrue_23 : decode cX7_seenComesTrue 23 = .ok (.getfield 184, 3) := by decide +kernel
theorem dX7_seenComesTrue_26 : decode cX7_seenComesTrue 26 = .ok (.getfield 216, 3) := by decide +kernel
theorem dX7_seenComesTrue_29 : decode cX7_seenComesTrue 29 = .ok (.iload_n 2, 1) := by decide +kernel
theorem dX7_seenComesTrue_30 : decode cX7_seenComesTrue 30 = .ok (.iaload, 1) := by decide +kernel
theorem dX7_seenComesTrue_31 : decode cX7_seenComesTrue 31 = .ok (.invokestatic 286, 3) := by decide +kernel
theorem dX7_seenComesTrue_34 : decode cX7_seenComesTrue 34 = .ok (.istore_n 1, 1) := by decide +kernel
theorem dX7_seenComesTrue_35 : decode cX7_seenComesTrue 35 = .ok (.iinc 2 1, 3) := by decide +kernel
theorem dX7_seenComesTrue_38 : decode cX7_seenComesTrue 38 = .ok (.goto (-34), 3) := by decide +kernel
theorem dX7_seenComesTrue_41 : decode cX7_seenComesTrue 41 = .ok (.iconst 0, 1) := by decide +kernel
theorem dX7_seenComesTrue_42 : decode cX7_seenComesTrue 42 = .ok (.istore_n 2, 1) := by decide +kernel
theorem dX7_seenComesTrue_43 : decode cX7_seenComesTrue 43 = .ok (.iload_n 2, 1) := by decide +kernel
theorem dX7_seenComesTrue_44 : decode cX7_seenComesTrue 44 = .ok (.iload_n 1, 1) := by decide +kernel
theorem dX7_seenComesTrue_45 : decode cX7_seenComesTrue 45 = .ok (.if_icmp .gt 31, 3) := by decide +kernel
theorem dX7_seenComesTrue_48 : decode cX7_seenComesTrue 48 = .ok (.aload_n 0, 1) := by decide +kernel
theorem dX7_seenComesTrue_49 : decode cX7_seenComesTrue 49 = .ok (.iload_n 2, 1) := by decide +kernel
theorem dX7_seenComesTrue_50 : decode cX7_seenComesTrue 50 = .ok (.invokevirtual 289, 3) := by decide +kernel
theorem dX7_seenComesTrue_53 : decode cX7_seenComesTrue 53 = .ok (.ifCond .ne 5, 3) := by decide +kernel
theorem dX7_seenComesTrue_56 : decode cX7_seenComesTrue 56 = .ok (.iconst 0, 1) := by decide +kernel
theorem dX7_seenComesTrue_57 : decode cX7_seenComesTrue 57 = .ok (.ireturn, 1) := by decide +kernel
theorem dX7_seenComesTrue_58 : decode cX7_seenComesTrue 58 = .ok (.iload_n 2, 1) := by decide +kernel
theorem dX7_seenComesTrue_59 : decode cX7_seenComesTrue 59 = .ok (.iload_n 1, 1) := by decide +kernel
theorem dX7_seenComesTrue_60 : decode cX7_seenComesTrue 60 = .ok (.if_icmp .ge 10, 3) := by decide +kernel
theorem dX7_seenComesTrue_63 : decode cX7_seenComesTrue 63 = .ok (.aload_n 0, 1) := by decide +kernel
theorem dX7_seenComesTrue_64 : decode cX7_seenComesTrue 64 = .ok (.getfield 24, 3) := by decide +kernel
theorem dX7_seenComesTrue_67 : decode cX7_seenComesTrue 67 = .ok (.invokevirtual 279, 3) := by decide +kernel
theorem dX7_seenComesTrue_70 : decode cX7_seenComesTrue 70 = .ok (.iinc 2 1, 3) := by decide +kernel
theorem dX7_seenComesTrue_73 : decode cX7_seenComesTrue 73 = .ok (.goto (-30), 3) := by decide +kernel
theorem dX7_seenComesTrue_76 : decode cX7_seenComesTrue 76 = .ok (.iconst 1, 1) := by decide +kernel
theorem dX7_seenComesTrue_77 : decode cX7_seenComesTrue 77 = .ok (.ireturn, 1) := by decide +kernel
theorem dX7_seenIsSoIn_0 : decode cX7_seenIsSoIn 0 = .ok (.iconst 0, 1) := by decide +kernel
theorem dX7_seenIsSoIn_1 : decode cX7_seenIsSoIn 1 = .ok (.istore_n 2, 1) := by decide +kernel
theorem dX7_seenIsSoIn_2 : decode cX7_seenIsSoIn 2 = .ok (.iload_n 2, 1) := by decide +kernel
theorem dX7_seenIsSoIn_3 : decode cX7_seenIsSoIn 3 = .ok (.aload_n 0, 1) := by decide +kernel
theorem dX7_seenIsSoIn_4 : decode cX7_seenIsSoIn 4 = .ok (.getfield 12, 3) := by decide +kernel
theorem dX7_seenIsSoIn_7 : decode cX7_seenIsSoIn 7 = .ok (.getfield 184, 3) := by decide +kernel
theorem dX7_seenIsSoIn_10 : decode cX7_seenIsSoIn 10 = .ok (.getfield 210, 3) := by decide +kernel
theorem dX7_seenIsSoIn_13 : decode cX7_seenIsSoIn 13 = .ok (.if_icmp .ge 80, 3) := by decide +kernel
theorem dX7_seenIsSoIn_16 : decode cX7_seenIsSoIn 16 = .ok (.aload_n 0, 1) := by decide +kernel
theorem dX7_seenIsSoIn_17 : decode cX7_seenIsSoIn 17 = .ok (.getfield 24, 3) := by decide +kernel
theorem dX7_seenIsSoIn_20 : decode cX7_seenIsSoIn 20 = .ok (.aload_n 0, 1) := by decide +kernel
theorem dX7_seenIsSoIn_21 : decode cX7_seenIsSoIn 21 = .ok (.getfield 12, 3) := by decide +kernel
theorem dX7_seenIsSoIn_24 : decode cX7_seenIsSoIn 24 = .ok (.getfield 184, 3) := by decide +kernel
theorem dX7_seenIsSoIn_27 : decode cX7_seenIsSoIn 27 = .ok (.getfield 213, 3) := by decide +kernel
theorem dX7_seenIsSoIn_30 : decode cX7_seenIsSoIn 30 = .ok (.iload_n 2, 1) := by decide +kernel
theorem dX7_seenIsSoIn_31 : decode cX7_seenIsSoIn 31 = .ok (.iaload, 1) := by decide +kernel
theorem dX7_seenIsSoIn_32 : decode cX7_seenIsSoIn 32 = .ok (.invokevirtual 85, 3) := by decide +kernel
theorem dX7_seenIsSoIn_35 : decode cX7_seenIsSoIn 35 = .ok (.ifCond .ge 7, 3) := by decide +kernel
theorem dX7_seenIsSoIn_38 : decode cX7_seenIsSoIn 38 = .ok (.iconst 1, 1) := by decide +kernel
theorem dX7_seenIsSoIn_39 : decode cX7_seenIsSoIn 39 = .ok (.goto 4, 3) := by decide +kernel
theorem dX7_seenIsSoIn_42 : decode cX7_seenIsSoIn 42 = .ok (.iconst 0, 1) := by decide +kernel
theorem dX7_seenIsSoIn_43 : decode cX7_seenIsSoIn 43 = .ok (.istore_n 3, 1) := by decide +kernel
theorem dX7_seenIsSoIn_44 : decode cX7_seenIsSoIn 44 = .ok (.aload_n 0, 1) := by decide +kernel
theorem dX7_seenIsSoIn_45 : decode cX7_seenIsSoIn 45 = .ok (.getfield 12, 3) := by decide +kernel
theorem dX7_seenIsSoIn_48 : decode cX7_seenIsSoIn 48 = .ok (.getfield 184, 3) := by decide +kernel
theorem dX7_seenIsSoIn_51 : decode cX7_seenIsSoIn 51 = .ok (.getfield 216, 3) := by decide +kernel
theorem dX7_seenIsSoIn_54 : decode cX7_seenIsSoIn 54 = .ok (.iload_n 2, 1) := by decide +kernel
theorem dX7_seenIsSoIn_55 : decode cX7_seenIsSoIn 55 = .ok (.iaload, 1) := by decide +kernel
theorem dX7_seenIsSoIn_56 : decode cX7_seenIsSoIn 56 = .ok (.iload_n 1, 1) := by decide +kernel
theorem dX7_seenIsSoIn_57 : decode cX7_seenIsSoIn 57 = .ok (.if_icmp .ne 30, 3) := by decide +kernel
theorem dX7_seenIsSoIn_60 : decode cX7_seenIsSoIn 60 = .ok (.iload_n 3, 1) := by decide +kernel
theorem dX7_seenIsSoIn_61 : decode cX7_seenIsSoIn 61 = .ok (.aload_n 0, 1) := by decide +kernel
theorem dX7_seenIsSoIn_62 : decode cX7_seenIsSoIn 62 = .ok (.getfield 12, 3) := by decide +kernel
theorem dX7_seenIsSoIn_65 : decode cX7_seenIsSoIn 65 = .ok (.getfield 184, 3) := by decide +kernel
theorem dX7_seenIsSoIn_68 : decode cX7_seenIsSoIn 68 = .ok (.getfield 292, 3) := by decide +kernel
theorem dX7_seenIsSoIn_71 : decode cX7_seenIsSoIn 71 = .ok (.iload_n 2, 1) := by decide +kernel
theorem dX7_seenIsSoIn_72 : decode cX7_seenIsSoIn 72 = .ok (.iaload, 1) := by decide +kernel
theorem dX7_seenIsSoIn_73 : decode cX7_seenIsSoIn 73 = .ok (.iconst 1, 1) := by decide +kernel
theorem dX7_seenIsSoIn_74 : decode cX7_seenIsSoIn 74 = .ok (.if_icmp .ne 7, 3) := by decide +kernel
theorem dX7_seenIsSoIn_77 : decode cX7_seenIsSoIn 77 = .ok (.iconst 1, 1) := by decide +kernel
theorem dX7_seenIsSoIn_78 : decode cX7_seenIsSoIn 78 = .ok (.goto 4, 3) := by decide +kernel
theorem dX7_seenIsSoIn_81 : decode cX7_seenIsSoIn 81 = .ok (.iconst 0, 1) := by decide +kernel
theorem dX7_seenIsSoIn_82 : decode cX7_seenIsSoIn 82 = .ok (.if_icmp .eq 5, 3) := by decide +kernel
theorem dX7_seenIsSoIn_85 : decode cX7_seenIsSoIn 85 = .ok (.iconst 0, 1) := by decide +kernel
theorem dX7_seenIsSoIn_86 : decode cX7_seenIsSoIn 86 = .ok (.ireturn, 1) := by decide +kernel
theorem dX7_seenIsSoIn_87 : decode cX7_seenIsSoIn 87 = .ok (.iinc 2 1, 3) := by decide +kernel
theorem dX7_seenIsSoIn_90 : decode cX7_seenIsSoIn 90 = .ok (.goto (-88), 3) := by decide +kernel
theorem dX7_seenIsSoIn_93 : decode cX7_seenIsSoIn 93 = .ok (.iconst 1, 1) := by decide +kernel
theorem dX7_seenIsSoIn_94 : decode cX7_seenIsSoIn 94 = .ok (.ireturn, 1) := by decide +kernel
theorem dX7_spark_0 : decode cX7_spark 0 = .ok (.bipush (-5), 2) := by decide +kernel
theorem dX7_spark_2 : decode cX7_spark 2 = .ok (.istore_n 1, 1) := by decide +kernel
theorem dX7_spark_3 : decode cX7_spark 3 = .ok (.iconst (-1), 1) := by decide +kernel
theorem dX7_spark_4 : decode cX7_spark 4 = .ok (.istore_n 2, 1) := by decide +kernel
theorem dX7_spark_5 : decode cX7_spark 5 = .ok (.iconst 0, 1) := by decide +kernel
theorem dX7_spark_6 : decode cX7_spark 6 = .ok (.istore_n 3, 1) := by decide +kernel
theorem dX7_spark_7 : decode cX7_spark 7 = .ok (.iload_n 3, 1) := by decide +kernel
theorem dX7_spark_8 : decode cX7_spark 8 = .ok (.aload_n 0, 1) := by decide +kernel
theorem dX7_spark_9 : decode cX7_spark 9 = .ok (.getfield 12, 3) := by decide +kernel
theorem dX7_spark_12 : decode cX7_spark 12 = .ok (.getfield 60, 3) := by decide +kernel
theorem dX7_spark_15 : decode cX7_spark 15 = .ok (.getfield 63, 3) := by decide +kernel
theorem dX7_spark_18 : decode cX7_spark 18 = .ok (.if_icmp .ge 45, 3) := by decide +kernel
theorem dX7_spark_21 : decode cX7_spark 21 = .ok (.aload_n 0, 1) := by decide +kernel
theorem dX7_spark_22 : decode cX7_spark 22 = .ok (.getfield 12, 3) := by decide +kernel
theorem dX7_spark_25 : decode cX7_spark 25 = .ok (.getfield 60, 3) := by decide +kernel
theorem dX7_spark_28 : decode cX7_spark 28 = .ok (.iload_n 3, 1) := by decide +kernel
theorem dX7_spark_29 : decode cX7_spark 29 = .ok (.invokevirtual 85, 3) := by decide +kernel
theorem dX7_spark_32 : decode cX7_spark 32 = .ok (.ifCond .ge 7, 3) := by decide +kernel
theorem dX7_spark_35 : decode cX7_spark 35 = .ok (.iconst (-1), 1) := by decide +kernel
theorem dX7_spark_36 : decode cX7_spark 36 = .ok (.goto 8, 3) := by decide +kernel
theorem dX7_spark_39 : decode cX7_spark 39 = .ok (.aload_n 0, 1) := by decide +kernel
theorem dX7_spark_40 : decode cX7_spark 40 = .ok (.iload_n 3, 1) := by decide +kernel
theorem dX7_spark_41 : decode cX7_spark 41 = .ok (.invokevirtual 157, 3) := by decide +kernel
theorem dX7_spark_44 : decode cX7_spark 44 = .ok (.istore 4, 2) := by decide +kernel
theorem dX7_spark_46 : decode cX7_spark 46 = .ok (.iload 4, 2) := by decide +kernel
theorem dX7_spark_48 : decode cX7_spark 48 = .ok (.iload_n 2, 1) := by decide +kernel
theorem dX7_spark_49 : decode cX7_spark 49 = .ok (.if_icmp .le 8, 3) := by decide +kernel
theorem dX7_spark_52 : decode cX7_spark 52 = .ok (.iload 4, 2) := by decide +kernel
theorem dX7_spark_54 : decode cX7_spark 54 = .ok (.istore_n 2, 1) := by decide +kernel
theorem dX7_spark_55 : decode cX7_spark 55 = .ok (.iload_n 3, 1) := by decide +kernel
theorem dX7_spark_56 : decode cX7_spark 56 = .ok (.istore_n 1, 1) := by decide +kernel
theorem dX7_spark_57 : decode cX7_spark 57 = .ok (.iinc 3 1, 3) := by decide +kernel
theorem dX7_spark_60 : decode cX7_spark 60 = .ok (.goto (-53), 3) := by decide +kernel
theorem dX7_spark_63 : decode cX7_spark 63 = .ok (.iload_n 1, 1) := by decide +kernel
theorem dX7_spark_64 : decode cX7_spark 64 = .ok (.ireturn, 1) := by decide +kernel
theorem dX7_laughersBy_0 : decode cX7_laughersBy 0 = .ok (.aload_n 0, 1) := by decide +kernel
theorem dX7_laughersBy_1 : decode cX7_laughersBy 1 = .ok (.iload_n 1, 1) := by decide +kernel
theorem dX7_laughersBy_2 : decode cX7_laughersBy 2 = .ok (.invokevirtual 71, 3) := by decide +kernel
theorem dX7_laughersBy_5 : decode cX7_laughersBy 5 = .ok (.ifCond .ne 5, 3) := by decide +kernel
theorem dX7_laughersBy_8 : decode cX7_laughersBy 8 = .ok (.iconst 0, 1) := by decide +kernel
theorem dX7_laughersBy_9 : decode cX7_laughersBy 9 = .ok (.ireturn, 1) := by decide +kernel
theorem dX7_laughersBy_10 : decode cX7_laughersBy 10 = .ok (.aload_n 0, 1) := by decide +kernel
theorem dX7_laughersBy_11 : decode cX7_laughersBy 11 = .ok (.getfield 24, 3) := by decide +kernel
theorem dX7_laughersBy_14 : decode cX7_laughersBy 14 = .ok (.aload_n 0, 1) := by decide +kernel
theorem dX7_laughersBy_15 : decode cX7_laughersBy 15 = .ok (.getfield 12, 3) := by decide +kernel
theorem dX7_laughersBy_18 : decode cX7_laughersBy 18 = .ok (.getfield 60, 3) := by decide +kernel
theorem dX7_laughersBy_21 : decode cX7_laughersBy 21 = .ok (.invokevirtual 177, 3) := by decide +kernel
theorem dX7_laughersBy_24 : decode cX7_laughersBy 24 = .ok (.aload_n 0, 1) := by decide +kernel
theorem dX7_laughersBy_25 : decode cX7_laughersBy 25 = .ok (.getfield 24, 3) := by decide +kernel
theorem dX7_laughersBy_28 : decode cX7_laughersBy 28 = .ok (.getfield 82, 3) := by decide +kernel
theorem dX7_laughersBy_31 : decode cX7_laughersBy 31 = .ok (.iload_n 1, 1) := by decide +kernel
theorem dX7_laughersBy_32 : decode cX7_laughersBy 32 = .ok (.bipush 9, 2) := by decide +kernel
theorem dX7_laughersBy_34 : decode cX7_laughersBy 34 = .ok (.iastore, 1) := by decide +kernel
theorem dX7_laughersBy_35 : decode cX7_laughersBy 35 = .ok (.aload_n 0, 1) := by decide +kernel
theorem dX7_laughersBy_36 : decode cX7_laughersBy 36 = .ok (.getfield 24, 3) := by decide +kernel
theorem dX7_laughersBy_39 : decode cX7_laughersBy 39 = .ok (.invokevirtual 92, 3) := by decide +kernel
theorem dX7_laughersBy_42 : decode cX7_laughersBy 42 = .ok (.invokestatic 196, 3) := by decide +kernel
theorem dX7_laughersBy_45 : decode cX7_laughersBy 45 = .ok (.ireturn, 1) := by decide +kernel
theorem dX7_hush_0 : decode cX7_hush 0 = .ok (.iconst 0, 1) := by decide +kernel
theorem dX7_hush_1 : decode cX7_hush 1 = .ok (.istore_n 1, 1) := by decide +kernel
theorem dX7_hush_2 : decode cX7_hush 2 = .ok (.iconst 0, 1) := by decide +kernel
theorem dX7_hush_3 : decode cX7_hush 3 = .ok (.istore_n 2, 1) := by decide +kernel
theorem dX7_hush_4 : decode cX7_hush 4 = .ok (.iload_n 2, 1) := by decide +kernel
theorem dX7_hush_5 : decode cX7_hush 5 = .ok (.aload_n 0, 1) := by decide +kernel
theorem dX7_hush_6 : decode cX7_hush 6 = .ok (.getfield 12, 3) := by decide +kernel
theorem dX7_hush_9 : decode cX7_hush 9 = .ok (.getfield 60, 3) := by decide +kernel
theorem dX7_hush_12 : decode cX7_hush 12 = .ok (.getfield 163, 3) := by decide +kernel
theorem dX7_hush_15 : decode cX7_hush 15 = .ok (.if_icmp .ge 26, 3) := by decide +kernel
theorem dX7_hush_18 : decode cX7_hush 18 = .ok (.iload_n 1, 1) := by decide +kernel
theorem dX7_hush_19 : decode cX7_hush 19 = .ok (.iconst 1, 1) := by decide +kernel
theorem dX7_hush_20 : decode cX7_hush 20 = .ok (.aload_n 0, 1) := by decide +kernel
theorem dX7_hush_21 : decode cX7_hush 21 = .ok (.getfield 12, 3) := by decide +kernel
theorem dX7_hush_24 : decode cX7_hush 24 = .ok (.getfield 60, 3) := by decide +kernel
theorem dX7_hush_27 : decode cX7_hush 27 = .ok (.getfield 166, 3) := by decide +kernel
theorem dX7_hush_30 : decode cX7_hush 30 = .ok (.iload_n 2, 1) := by decide +kernel
theorem dX7_hush_31 : decode cX7_hush 31 = .ok (.iaload, 1) := by decide +kernel
theorem dX7_hush_32 : decode cX7_hush 32 = .ok (.ishl, 1) := by decide +kernel
theorem dX7_hush_33 : decode cX7_hush 33 = .ok (.ior, 1) := by decide +kernel
theorem dX7_hush_34 : decode cX7_hush 34 = .ok (.istore_n 1, 1) := by decide +kernel
theorem dX7_hush_35 : decode cX7_hush 35 = .ok (.iinc 2 1, 3) := by decide +kernel
theorem dX7_hush_38 : decode cX7_hush 38 = .ok (.goto (-34), 3) := by decide +kernel
theorem dX7_hush_41 : decode cX7_hush 41 = .ok (.bipush (-5), 2) := by decide +kernel
theorem dX7_hush_43 : decode cX7_hush 43 = .ok (.istore_n 2, 1) := by decide +kernel
theorem dX7_hush_44 : decode cX7_hush 44 = .ok (.bipush 7, 2) := by decide +kernel
theorem dX7_hush_46 : decode cX7_hush 46 = .ok (.istore_n 3, 1) := by decide +kernel
theorem dX7_hush_47 : decode cX7_hush 47 = .ok (.iconst 0, 1) := by decide +kernel
theorem dX7_hush_48 : decode cX7_hush 48 = .ok (.istore 4, 2) := by decide +kernel
theorem dX7_hush_50 : decode cX7_hush 50 = .ok (.iload 4, 2) := by decide +kernel
theorem dX7_hush_52 : decode cX7_hush 52 = .ok (.iload_n 1, 1) := by decide +kernel
theorem dX7_hush_53 : decode cX7_hush 53 = .ok (.if_icmp .gt 89, 3) := by decide +kernel
theorem dX7_hush_56 : decode cX7_hush 56 = .ok (.iload 4, 2) := by decide +kernel
theorem dX7_hush_58 : decode cX7_hush 58 = .ok (.iload_n 1, 1) := by decide +kernel
theorem dX7_hush_59 : decode cX7_hush 59 = .ok (.iconst (-1), 1) := by decide +kernel
theorem dX7_hush_60 : decode cX7_hush 60 = .ok (.ixor, 1) := by decide +kernel
theorem dX7_hush_61 : decode cX7_hush 61 = .ok (.iand, 1) := by decide +kernel
theorem dX7_hush_62 : decode cX7_hush 62 = .ok (.ifCond .ne 74, 3) := by decide +kernel
theorem dX7_hush_65 : decode cX7_hush 65 = .ok (.iload 4, 2) := by decide +kernel
theorem dX7_hush_67 : decode cX7_hush 67 = .ok (.invokestatic 196, 3) := by decide +kernel
theorem dX7_hush_70 : decode cX7_hush 70 = .ok (.iload_n 3, 1) := by decide +kernel
theorem dX7_hush_71 : decode cX7_hush 71 = .ok (.if_icmp .lt 6, 3) := by decide +kernel
theorem dX7_hush_74 : decode cX7_hush 74 = .ok (.goto 62, 3) := by decide +kernel
theorem dX7_hush_77 : decode cX7_hush 77 = .ok (.aload_n 0, 1) := by decide +kernel
theorem dX7_hush_78 : decode cX7_hush 78 = .ok (.getfield 24, 3) := by decide +kernel
theorem dX7_hush_81 : decode cX7_hush 81 = .ok (.aload_n 0, 1) := by decide +kernel
theorem dX7_hush_82 : decode cX7_hush 82 = .ok (.getfield 12, 3) := by decide +kernel
theorem dX7_hush_85 : decode cX7_hush 85 = .ok (.getfield 60, 3) := by decide +kernel
theorem dX7_hush_88 : decode cX7_hush 88 = .ok (.invokevirtual 177, 3) := by decide +kernel
theorem dX7_hush_91 : decode cX7_hush 91 = .ok (.aload_n 0, 1) := by decide +kernel
theorem dX7_hush_92 : decode cX7_hush 92 = .ok (.getfield 24, 3) := by decide +kernel
theorem dX7_hush_95 : decode cX7_hush 95 = .ok (.iload 4, 2) := by decide +kernel
theorem dX7_hush_97 : decode cX7_hush 97 = .ok (.invokevirtual 295, 3) := by decide +kernel
theorem dX7_hush_100 : decode cX7_hush 100 = .ok (.aload_n 0, 1) := by decide +kernel
theorem dX7_hush_101 : decode cX7_hush 101 = .ok (.getfield 24, 3) := by decide +kernel
theorem dX7_hush_104 : decode cX7_hush 104 = .ok (.invokevirtual 279, 3) := by decide +kernel
theorem dX7_hush_107 : decode cX7_hush 107 = .ok (.aload_n 0, 1) := by decide +kernel
theorem dX7_hush_108 : decode cX7_hush 108 = .ok (.getfield 24, 3) := by decide +kernel
theorem dX7_hush_111 : decode cX7_hush 111 = .ok (.getfield 151, 3) := by decide +kernel
theorem dX7_hush_114 : decode cX7_hush 114 = .ok (.aload_n 0, 1) := by decide +kernel
theorem dX7_hush_115 : decode cX7_hush 115 = .ok (.getfield 12, 3) := by decide +kernel
theorem dX7_hush_118 : decode cX7_hush 118 = .ok (.getfield 60, 3) := by decide +kernel
theorem dX7_hush_121 : decode cX7_hush 121 = .ok (.getfield 151, 3) := by decide +kernel
theorem dX7_hush_124 : decode cX7_hush 124 = .ok (.if_icmp .gt 12, 3) := by decide +kernel
theorem dX7_hush_127 : decode cX7_hush 127 = .ok (.iload 4, 2) := by decide +kernel
theorem dX7_hush_129 : decode cX7_hush 129 = .ok (.istore_n 2, 1) := by decide +kernel
theorem dX7_hush_130 : decode cX7_hush 130 = .ok (.iload 4, 2) := by decide +kernel
theorem dX7_hush_132 : decode cX7_hush 132 = .ok (.invokestatic 196, 3) := by decide +kernel
theorem dX7_hush_135 : decode cX7_hush 135 = .ok (.istore_n 3, 1) := by decide +kernel
theorem dX7_hush_136 : decode cX7_hush 136 = .ok (.iinc 4 1, 3) := by decide +kernel
theorem dX7_hush_139 : decode cX7_hush 139 = .ok (.goto (-89), 3) := by decide +kernel
theorem dX7_hush_142 : decode cX7_hush 142 = .ok (.iload_n 2, 1) := by decide +kernel
theorem dX7_hush_143 : decode cX7_hush 143 = .ok (.ireturn, 1) := by decide +kernel
theorem dX7_walkersAfterTurn_0 : decode cX7_walkersAfterTurn 0 = .ok (.aload_n 0, 1) := by decide +kernel
theorem dX7_walkersAfterTurn_1 : decode cX7_walkersAfterTurn 1 = .ok (.getfield 24, 3) := by decide +kernel
theorem dX7_walkersAfterTurn_4 : decode cX7_walkersAfterTurn 4 = .ok (.aload_n 0, 1) := by decide +kernel
theorem dX7_walkersAfterTurn_5 : decode cX7_walkersAfterTurn 5 = .ok (.getfield 12, 3) := by decide +kernel
theorem dX7_walkersAfterTurn_8 : decode cX7_walkersAfterTurn 8 = .ok (.getfield 60, 3) := by decide +kernel
theorem dX7_walkersAfterTurn_11 : decode cX7_walkersAfterTurn 11 = .ok (.invokevirtual 177, 3) := by decide +kernel
theorem dX7_walkersAfterTurn_14 : decode cX7_walkersAfterTurn 14 = .ok (.aload_n 0, 1) := by decide +kernel
theorem dX7_walkersAfterTurn_15 : decode cX7_walkersAfterTurn 15 = .ok (.getfield 24, 3) := by decide +kernel
theorem dX7_walkersAfterTurn_18 : decode cX7_walkersAfterTurn 18 = .ok (.iload_n 1, 1) := by decide +kernel
theorem dX7_walkersAfterTurn_19 : decode cX7_walkersAfterTurn 19 = .ok (.iload_n 2, 1) := by decide +kernel
theorem dX7_walkersAfterTurn_20 : decode cX7_walkersAfterTurn 20 = .ok (.invokevirtual 107, 3) := by decide +kernel
theorem dX7_walkersAfterTurn_23 : decode cX7_walkersAfterTurn 23 = .ok (.ifCond .eq 11, 3) := by decide +kernel
theorem dX7_walkersAfterTurn_26 : decode cX7_walkersAfterTurn 26 = .ok (.aload_n 0, 1) := by decide +kernel
theorem dX7_walkersAfterTurn_27 : decode cX7_walkersAfterTurn 27 = .ok (.getfield 24, 3) := by decide +kernel
theorem dX7_walkersAfterTurn_30 : decode cX7_walkersAfterTurn 30 = .ok (.iload_n 3, 1) := by decide +kernel
theorem dX7_walkersAfterTurn_31 : decode cX7_walkersAfterTurn 31 = .ok (.invokevirtual 169, 3) := by decide +kernel
theorem dX7_walkersAfterTurn_34 : decode cX7_walkersAfterTurn 34 = .ok (.aload_n 0, 1) := by decide +kernel
theorem dX7_walkersAfterTurn_35 : decode cX7_walkersAfterTurn 35 = .ok (.getfield 24, 3) := by decide +kernel
theorem dX7_walkersAfterTurn_38 : decode cX7_walkersAfterTurn 38 = .ok (.getfield 163, 3) := by decide +kernel
theorem dX7_walkersAfterTurn_41 : decode cX7_walkersAfterTurn 41 = .ok (.ireturn, 1) := by decide +kernel
theorem dX7_tryPlanned_0 : decode cX7_tryPlanned 0 = .ok (.iload_n 1, 1) := by decide +kernel
theorem dX7_tryPlanned_1 : decode cX7_tryPlanned 1 = .ok (.tableswitch 64 0 2 #[27, 37, 50], 27) := by decide +kernel
theorem dX7_tryPlanned_28 : decode cX7_tryPlanned 28 = .ok (.aload_n 0, 1) := by decide +kernel
theorem dX7_tryPlanned_29 : decode cX7_tryPlanned 29 = .ok (.getfield 24, 3) := by decide +kernel
theorem dX7_tryPlanned_32 : decode cX7_tryPlanned 32 = .ok (.invokevirtual 279, 3) := by decide +kernel
theorem dX7_tryPlanned_35 : decode cX7_tryPlanned 35 = .ok (.goto 38, 3) := by decide +kernel
theorem dX7_tryPlanned_38 : decode cX7_tryPlanned 38 = .ok (.aload_n 0, 1) := by decide +kernel
theorem dX7_tryPlanned_39 : decode cX7_tryPlanned 39 = .ok (.getfield 24, 3) := by decide +kernel
theorem dX7_tryPlanned_42 : decode cX7_tryPlanned 42 = .ok (.getfield 82, 3) := by decide +kernel
theorem dX7_tryPlanned_45 : decode cX7_tryPlanned 45 = .ok (.iload_n 2, 1) := by decide +kernel
theorem dX7_tryPlanned_46 : decode cX7_tryPlanned 46 = .ok (.iconst 0, 1) := by decide +kernel
theorem dX7_tryPlanned_47 : decode cX7_tryPlanned 47 = .ok (.iastore, 1) := by decide +kernel
theorem dX7_tryPlanned_48 : decode cX7_tryPlanned 48 = .ok (.goto 25, 3) := by decide +kernel
theorem dX7_tryPlanned_51 : decode cX7_tryPlanned 51 = .ok (.aload_n 0, 1) := by decide +kernel
theorem dX7_tryPlanned_52 : decode cX7_tryPlanned 52 = .ok (.getfield 24, 3) := by decide +kernel
theorem dX7_tryPlanned_55 : decode cX7_tryPlanned 55 = .ok (.getfield 82, 3) := by decide +kernel
theorem dX7_tryPlanned_58 : decode cX7_tryPlanned 58 = .ok (.iload_n 2, 1) := by decide +kernel
theorem dX7_tryPlanned_59 : decode cX7_tryPlanned 59 = .ok (.bipush 9, 2) := by decide +kernel
theorem dX7_tryPlanned_61 : decode cX7_tryPlanned 61 = .ok (.iastore, 1) := by decide +kernel
theorem dX7_tryPlanned_62 : decode cX7_tryPlanned 62 = .ok (.goto 11, 3) := by decide +kernel
theorem dX7_tryPlanned_65 : decode cX7_tryPlanned 65 = .ok (.aload_n 0, 1) := by decide +kernel
theorem dX7_tryPlanned_66 : decode cX7_tryPlanned 66 = .ok (.getfield 24, 3) := by decide +kernel
theorem dX7_tryPlanned_69 : decode cX7_tryPlanned 69 = .ok (.iconst 0, 1) := by decide +kernel
theorem dX7_tryPlanned_70 : decode cX7_tryPlanned 70 = .ok (.putfield 115, 3) := by decide +kernel
theorem dX7_tryPlanned_73 : decode cX7_tryPlanned 73 = .ok (.return_, 1) := by decide +kernel
theorem dX7_fraction_0 : decode cX7_fraction 0 = .ok (.iload_n 1, 1) := by decide +kernel
theorem dX7_fraction_1 : decode cX7_fraction 1 = .ok (.istore_n 3, 1) := by decide +kernel
theorem dX7_fraction_2 : decode cX7_fraction 2 = .ok (.iload_n 3, 1) := by decide +kernel
theorem dX7_fraction_3 : decode cX7_fraction 3 = .ok (.ifCond .le 37, 3) := by decide +kernel
theorem dX7_fraction_6 : decode cX7_fraction 6 = .ok (.iload_n 0, 1) := by decide +kernel
theorem dX7_fraction_7 : decode cX7_fraction 7 = .ok (.iload_n 3, 1) := by decide +kernel
theorem dX7_fraction_8 : decode cX7_fraction 8 = .ok (.irem, 1) := by decide +kernel
theorem dX7_fraction_9 : decode cX7_fraction 9 = .ok (.ifCond .ne 25, 3) := by decide +kernel
theorem dX7_fraction_12 : decode cX7_fraction 12 = .ok (.iload_n 1, 1) := by decide +kernel
theorem dX7_fraction_13 : decode cX7_fraction 13 = .ok (.iload_n 3, 1) := by decide +kernel
theorem dX7_fraction_14 : decode cX7_fraction 14 = .ok (.irem, 1) := by decide +kernel
theorem dX7_fraction_15 : decode cX7_fraction 15 = .ok (.ifCond .ne 19, 3) := by decide +kernel
theorem dX7_fraction_18 : decode cX7_fraction 18 = .ok (.iload_n 2, 1) := by decide +kernel
theorem dX7_fraction_19 : decode cX7_fraction 19 = .ok (.ifCond .ne 10, 3) := by decide +kernel
theorem dX7_fraction_22 : decode cX7_fraction 22 = .ok (.iload_n 0, 1) := by decide +kernel
theorem dX7_fraction_23 : decode cX7_fraction 23 = .ok (.iload_n 3, 1) := by decide +kernel
theorem dX7_fraction_24 : decode cX7_fraction 24 = .ok (.idiv, 1) := by decide +kernel
theorem dX7_fraction_25 : decode cX7_fraction 25 = .ok (.i2l, 1) := by decide +kernel
theorem dX7_fraction_26 : decode cX7_fraction 26 = .ok (.goto 7, 3) := by decide +kernel
theorem dX7_fraction_29 : decode cX7_fraction 29 = .ok (.iload_n 1, 1) := by decide +kernel
theorem dX7_fraction_30 : decode cX7_fraction 30 = .ok (.iload_n 3, 1) := by decide +kernel
theorem dX7_fraction_31 : decode cX7_fraction 31 = .ok (.idiv, 1) := by decide +kernel
theorem dX7_fraction_32 : decode cX7_fraction 32 = .ok (.i2l, 1) := by decide +kernel
theorem dX7_fraction_33 : decode cX7_fraction 33 = .ok (.lreturn, 1) := by decide +kernel
theorem dX7_fraction_34 : decode cX7_fraction 34 = .ok (.iinc 3 (-1), 3) := by decide +kernel
theorem dX7_fraction_37 : decode cX7_fraction 37 = .ok (.goto (-35), 3) := by decide +kernel
theorem dX7_fraction_40 : decode cX7_fraction 40 = .ok (.ldc2_w 201, 3) := by decide +kernel
theorem dX7_fraction_43 : decode cX7_fraction 43 = .ok (.lreturn, 1) := by decide +kernel
theorem dX8_init_0 : decode cX8_init 0 = .ok (.aload_n 0, 1) := by decide +kernel
theorem dX8_init_1 : decode cX8_init 1 = .ok (.invokespecial 3, 3) := by decide +kernel
theorem dX8_init_4 : decode cX8_init 4 = .ok (.aload_n 0, 1) := by decide +kernel
theorem dX8_init_5 : decode cX8_init 5 = .ok (.bipush 108, 2) := by decide +kernel
theorem dX8_init_7 : decode cX8_init 7 = .ok (.newarray .int, 2) := by decide +kernel
theorem dX8_init_9 : decode cX8_init 9 = .ok (.putfield 9, 3) := by decide +kernel
theorem dX8_init_12 : decode cX8_init 12 = .ok (.aload_n 0, 1) := by decide +kernel
theorem dX8_init_13 : decode cX8_init 13 = .ok (.bipush 108, 2) := by decide +kernel
theorem dX8_init_15 : decode cX8_init 15 = .ok (.newarray .int, 2) := by decide +kernel
theorem dX8_init_17 : decode cX8_init 17 = .ok (.putfield 15, 3) := by decide +kernel
theorem dX8_init_20 : decode cX8_init 20 = .ok (.aload_n 0, 1) := by decide +kernel
theorem dX8_init_21 : decode cX8_init 21 = .ok (.bipush 108, 2) := by decide +kernel
theorem dX8_init_23 : decode cX8_init 23 = .ok (.newarray .int, 2) := by decide +kernel
theorem dX8_init_25 : decode cX8_init 25 = .ok (.putfield 18, 3) := by decide +kernel
theorem dX8_init_28 : decode cX8_init 28 = .ok (.aload_n 0, 1) := by decide +kernel
theorem dX8_init_29 : decode cX8_init 29 = .ok (.bipush 100, 2) := by decide +kernel
theorem dX8_init_31 : decode cX8_init 31 = .ok (.newarray .int, 2) := by decide +kernel
theorem dX8_init_33 : decode cX8_init 33 = .ok (.putfield 21, 3) := by decide +kernel
theorem dX8_init_36 : decode cX8_init 36 = .ok (.aload_n 0, 1) := by decide +kernel
theorem dX8_init_37 : decode cX8_init 37 = .ok (.sipush 600, 3) := by decide +kernel
theorem dX8_init_40 : decode cX8_init 40 = .ok (.newarray .int, 2) := by decide +kernel
theorem dX8_init_42 : decode cX8_init 42 = .ok (.putfield 24, 3) := by decide +kernel
theorem dX8_init_45 : decode cX8_init 45 = .ok (.aload_n 0, 1) := by decide +kernel
theorem dX8_init_46 : decode cX8_init 46 = .ok (.bipush 6, 2) := by decide +kernel
theorem dX8_init_48 : decode cX8_init 48 = .ok (.newarray .int, 2) := by decide +kernel
theorem dX8_init_50 : decode cX8_init 50 = .ok (.putfield 27, 3) := by decide +kernel
theorem dX8_init_53 : decode cX8_init 53 = .ok (.aload_n 0, 1) := by decide +kernel
theorem dX8_init_54 : decode cX8_init 54 = .ok (.bipush 100, 2) := by decide +kernel
theorem dX8_init_56 : decode cX8_init 56 = .ok (.newarray .int, 2) := by decide +kernel
theorem dX8_init_58 : decode cX8_init 58 = .ok (.putfield 30, 3) := by decide +kernel
theorem dX8_init_61 : decode cX8_init 61 = .ok (.aload_n 0, 1) := by decide +kernel
theorem dX8_init_62 : decode cX8_init 62 = .ok (.bipush 6, 2) := by decide +kernel
theorem dX8_init_64 : decode cX8_init 64 = .ok (.newarray .int, 2) := by decide +kernel
theorem dX8_init_66 : decode cX8_init 66 = .ok (.putfield 33, 3) := by decide +kernel
theorem dX8_init_69 : decode cX8_init 69 = .ok (.aload_n 0, 1) := by decide +kernel
theorem dX8_init_70 : decode cX8_init 70 = .ok (.bipush 6, 2) := by decide +kernel
theorem dX8_init_72 : decode cX8_init 72 = .ok (.newarray .char, 2) := by decide +kernel
theorem dX8_init_74 : decode cX8_init 74 = .ok (.dup, 1) := by decide +kernel
theorem dX8_init_75 : decode cX8_init 75 = .ok (.iconst 0, 1) := by decide +kernel
theorem dX8_init_76 : decode cX8_init 76 = .ok (.bipush 112, 2) := by decide +kernel
theorem dX8_init_78 : decode cX8_init 78 = .ok (.castore, 1) := by decide +kernel
theorem dX8_init_79 : decode cX8_init 79 = .ok (.dup, 1) := by decide +kernel
theorem dX8_init_80 : decode cX8_init 80 = .ok (.iconst 1, 1) := by decide +kernel
theorem dX8_init_81 : decode cX8_init 81 = .ok (.bipush 107, 2) := by decide +kernel
theorem dX8_init_83 : decode cX8_init 83 = .ok (.castore, 1) := by decide +kernel
theorem dX8_init_84 : decode cX8_init 84 = .ok (.dup, 1) := by decide +kernel
theorem dX8_init_85 : decode cX8_init 85 = .ok (.iconst 2, 1) := by decide +kernel
theorem dX8_init_86 : decode cX8_init 86 = .ok (.bipush 118, 2) := by decide +kernel
theorem dX8_init_88 : decode cX8_init 88 = .ok (.castore, 1) := by decide +kernel
theorem dX8_init_89 : decode cX8_init 89 = .ok (.dup, 1) := by decide +kernel
theorem dX8_init_90 : decode cX8_init 90 = .ok (.iconst 3, 1) := by decide +kernel
theorem dX8_init_91 : decode cX8_init 91 = .ok (.bipush 109, 2) := by decide +kernel
theorem dX8_init_93 : decode cX8_init 93 = .ok (.castore, 1) := by decide +kernel
theorem dX8_init_94 : decode cX8_init 94 = .ok (.dup, 1) := by decide +kernel
theorem dX8_init_95 : decode cX8_init 95 = .ok (.iconst 4, 1) := by decide +kernel
theorem dX8_init_96 : decode cX8_init 96 = .ok (.bipush 114, 2) := by decide +kernel
theorem dX8_init_98 : decode cX8_init 98 = .ok (.castore, 1) := by decide +kernel
theorem dX8_init_99 : decode cX8_init 99 = .ok (.dup, 1) := by decide +kernel
theorem dX8_init_100 : decode cX8_init 100 = .ok (.iconst 5, 1) := by decide +kernel
theorem dX8_init_101 : decode cX8_init 101 = .ok (.bipush 104, 2) := by decide +kernel
theorem dX8_init_103 : decode cX8_init 103 = .ok (.castore, 1) := by decide +kernel
theorem dX8_init_104 : decode cX8_init 104 = .ok (.putfield 36, 3) := by decide +kernel
theorem dX8_init_107 : decode cX8_init 107 = .ok (.aload_n 0, 1) := by decide +kernel
theorem dX8_init_108 : decode cX8_init 108 = .ok (.bipush 24, 2) := by decide +kernel
theorem dX8_init_110 : decode cX8_init 110 = .ok (.newarray .char, 2) := by decide +kernel
theorem dX8_init_112 : decode cX8_init 112 = .ok (.dup, 1) := by decide +kernel
theorem dX8_init_113 : decode cX8_init 113 = .ok (.iconst 0, 1) := by decide +kernel
theorem dX8_init_114 : decode cX8_init 114 = .ok (.bipush 116, 2) := by decide +kernel
theorem dX8_init_116 : decode cX8_init 116 = .ok (.castore, 1) := by decide +kernel
theorem dX8_init_117 : decode cX8_init 117 = .ok (.dup, 1) := by decide +kernel
theorem dX8_init_118 : decode cX8_init 118 = .ok (.iconst 1, 1) := by decide +kernel
theorem dX8_init_119 : decode cX8_init 119 = .ok (.bipush 105, 2) := by decide +kernel
theorem dX8_init_121 : decode cX8_init 121 = .ok (.castore, 1) := by decide +kernel
theorem dX8_init_122 : decode cX8_init 122 = .ok (.dup, 1) := by decide +kernel
theorem dX8_init_123 : decode cX8_init 123 = .ok (.iconst 2, 1) := by decide +kernel
theorem dX8_init_124 : decode cX8_init 124 = .ok (.bipush 99, 2) := by decide +kernel
theorem dX8_init_126 : decode cX8_init 126 = .ok (.castore, 1) := by decide +kernel
theorem dX8_init_127 : decode cX8_init 127 = .ok (.dup, 1) := by decide +kernel
theorem dX8_init_128 : decode cX8_init 128 = .ok (.iconst 3, 1) := by decide +kernel
theorem dX8_init_129 : decode cX8_init 129 = .ok (.bipush 107, 2) := by decide +kernel
theorem dX8_init_131 : decode cX8_init 131 = .ok (.castore, 1) := by decide +kernel
theorem dX8_init_132 : decode cX8_init 132 = .ok (.dup, 1) := by decide +kernel
theorem dX8_init_133 : decode cX8_init 133 = .ok (.iconst 4, 1) := by decide +kernel
theorem dX8_init_134 : decode cX8_init 134 = .ok (.bipush 108, 2) := by decide +kernel
theorem dX8_init_136 : decode cX8_init 136 = .ok (.castore, 1) := by decide +kernel
theorem dX8_init_137 : decode cX8_init 137 = .ok (.dup, 1) := by decide +kernel
theorem dX8_init_138 : decode cX8_init 138 = .ok (.iconst 5, 1) := by decide +kernel
theorem dX8_init_139 : decode cX8_init 139 = .ok (.bipush 101, 2) := by decide +kernel
theorem dX8_init_141 : decode cX8_init 141 = .ok (.castore, 1) := by decide +kernel
theorem dX8_init_142 : decode cX8_init 142 = .ok (.dup, 1) := by decide +kernel
theorem dX8_init_143 : decode cX8_init 143 = .ok (.bipush 6, 2) := by decide +kernel
theorem dX8_init_145 : decode cX8_init 145 = .ok (.bipush 115, 2) := by decide +kernel
theorem dX8_init_147 : decode cX8_init 147 = .ok (.castore, 1) := by decide +kernel
theorem dX8_init_148 : decode cX8_init 148 = .ok (.dup, 1) := by decide +kernel
theorem dX8_init_149 : decode cX8_init 149 = .ok (.bipush 7, 2) := by decide +kernel
theorem dX8_init_151 : decode cX8_init 151 = .ok (.bipush 111, 2) := by decide +kernel
theorem dX8_init_153 : decode cX8_init 153 = .ok (.castore, 1) := by decide +kernel
theorem dX8_init_154 : decode cX8_init 154 = .ok (.dup, 1) := by decide +kernel
theorem dX8_init_155 : decode cX8_init 155 = .ok (.bipush 8, 2) := by decide +kernel
theorem dX8_init_157 : decode cX8_init 157 = .ok (.bipush 98, 2) := by decide +kernel
theorem dX8_init_159 : decode cX8_init 159 = .ok (.castore, 1) := by decide +kernel
theorem dX8_init_160 : decode cX8_init 160 = .ok (.dup, 1) := by decide +kernel
theorem dX8_init_161 : decode cX8_init 161 = .ok (.bipush 9, 2) := by decide +kernel
theorem dX8_init_163 : decode cX8_init 163 = .ok (.bipush 101, 2) := by decide +kernel
theorem dX8_init_165 : decode cX8_init 165 = .ok (.castore, 1) := by decide +kernel
theorem dX8_init_166 : decode cX8_init 166 = .ok (.dup, 1) := by decide +kernel
theorem dX8_init_167 : decode cX8_init 167 = .ok (.bipush 10, 2) := by decide +kernel
theorem dX8_init_169 : decode cX8_init 169 = .ok (.bipush 114, 2) := by decide +kernel
theorem dX8_init_171 : decode cX8_init 171 = .ok (.castore, 1) := by decide +kernel
theorem dX8_init_172 : decode cX8_init 172 = .ok (.dup, 1) := by decide +kernel
theorem dX8_init_173 : decode cX8_init 173 = .ok (.bipush 11, 2) := by decide +kernel
theorem dX8_init_175 : decode cX8_init 175 = .ok (.iconst 0, 1) := by decide +kernel
theorem dX8_init_176 : decode cX8_init 176 = .ok (.castore, 1) := by decide +kernel
theorem dX8_init_177 : decode cX8_init 177 = .ok (.dup, 1) := by decide +kernel
theorem dX8_init_178 : decode cX8_init 178 = .ok (.bipush 12, 2) := by decide +kernel
theorem dX8_init_180 : decode cX8_init 180 = .ok (.bipush 110, 2) := by decide +kernel
theorem dX8_init_182 : decode cX8_init 182 = .ok (.castore, 1) := by decide +kernel
theorem dX8_init_183 : decode cX8_init 183 = .ok (.dup, 1) := by decide +kernel
theorem dX8_init_184 : decode cX8_init 184 = .ok (.bipush 13, 2) := by decide +kernel
theorem dX8_init_186 : decode cX8_init 186 = .ok (.bipush 101, 2) := by decide +kernel
theorem dX8_init_188 : decode cX8_init 188 = .ok (.castore, 1) := by decide +kernel
theorem dX8_init_189 : decode cX8_init 189 = .ok (.dup, 1) := by decide +kernel
theorem dX8_init_190 : decode cX8_init 190 = .ok (.bipush 14, 2) := by decide +kernel
theorem dX8_init_192 : decode cX8_init 192 = .ok (.bipush 97, 2) := by decide +kernel
theorem dX8_init_194 : decode cX8_init 194 = .ok (.castore, 1) := by decide +kernel
theorem dX8_init_195 : decode cX8_init 195 = .ok (.dup, 1) := by decide +kernel
theorem dX8_init_196 : decode cX8_init 196 = .ok (.bipush 15, 2) := by decide +kernel
theorem dX8_init_198 : decode cX8_init 198 = .ok (.bipush 114, 2) := by decide +kernel
theorem dX8_init_200 : decode cX8_init 200 = .ok (.castore, 1) := by decide +kernel
theorem dX8_init_201 : decode cX8_init 201 = .ok (.dup, 1) := by decide +kernel
theorem dX8_init_202 : decode cX8_init 202 = .ok (.bipush 16, 2) := by decide +kernel
theorem dX8_init_204 : decode cX8_init 204 = .ok (.iconst 0, 1) := by decide +kernel
theorem dX8_init_205 : decode cX8_init 205 = .ok (.castore, 1) := by decide +kernel
theorem dX8_init_206 : decode cX8_init 206 = .ok (.dup, 1) := by decide +kernel
theorem dX8_init_207 : decode cX8_init 207 = .ok (.bipush 17, 2) := by decide +kernel
theorem dX8_init_209 : decode cX8_init 209 = .ok (.iconst 0, 1) := by decide +kernel
theorem dX8_init_210 : decode cX8_init 210 = .ok (.castore, 1) := by decide +kernel
theorem dX8_init_211 : decode cX8_init 211 = .ok (.dup, 1) := by decide +kernel
theorem dX8_init_212 : decode cX8_init 212 = .ok (.bipush 18, 2) := by decide +kernel
theorem dX8_init_214 : decode cX8_init 214 = .ok (.bipush 119, 2) := by decide +kernel
theorem dX8_init_216 : decode cX8_init 216 = .ok (.castore, 1) := by decide +kernel
theorem dX8_init_217 : decode cX8_init 217 = .ok (.dup, 1) := by decide +kernel
theorem dX8_init_218 : decode cX8_init 218 = .ok (.bipush 19, 2) := by decide +kernel
theorem dX8_init_220 : decode cX8_init 220 = .ok (.bipush 105, 2) := by decide +kernel
theorem dX8_init_222 : decode cX8_init 222 = .ok (.castore, 1) := by decide +kernel
theorem dX8_init_223 : decode cX8_init 223 = .ok (.dup, 1) := by decide +kernel
theorem dX8_init_224 : decode cX8_init 224 = .ok (.bipush 20, 2) := by decide +kernel
theorem dX8_init_226 : decode cX8_init 226 = .ok (.bipush 110, 2) := by decide +kernel
theorem dX8_init_228 : decode cX8_init 228 = .ok (.castore, 1) := by decide +kernel
theorem dX8_init_229 : decode cX8_init 229 = .ok (.dup, 1) := by decide +kernel
theorem dX8_init_230 : decode cX8_init 230 = .ok (.bipush 21, 2) := by decide +kernel
theorem dX8_init_232 : decode cX8_init 232 = .ok (.bipush 100, 2) := by decide +kernel
theorem dX8_init_234 : decode cX8_init 234 = .ok (.castore, 1) := by decide +kernel
theorem dX8_init_235 : decode cX8_init 235 = .ok (.dup, 1) := by decide +kernel
theorem dX8_init_236 : decode cX8_init 236 = .ok (.bipush 22, 2) := by decide +kernel
theorem dX8_init_238 : decode cX8_init 238 = .ok (.iconst 0, 1) := by decide +kernel
theorem dX8_init_239 : decode cX8_init 239 = .ok (.castore, 1) := by decide +kernel
theorem dX8_init_240 : decode cX8_init 240 = .ok (.dup, 1) := by decide +kernel
theorem dX8_init_241 : decode cX8_init 241 = .ok (.bipush 23, 2) := by decide +kernel
theorem dX8_init_243 : decode cX8_init 243 = .ok (.iconst 0, 1) := by decide +kernel
theorem dX8_init_244 : decode cX8_init 244 = .ok (.castore, 1) := by decide +kernel
theorem dX8_init_245 : decode cX8_init 245 = .ok (.putfield 40, 3) := by decide +kernel
theorem dX8_init_248 : decode cX8_init 248 = .ok (.aload_n 0, 1) := by decide +kernel
theorem dX8_init_249 : decode cX8_init 249 = .ok (.bipush 18, 2) := by decide +kernel
theorem dX8_init_251 : decode cX8_init 251 = .ok (.newarray .boolean, 2) := by decide +kernel
theorem dX8_init_253 : decode cX8_init 253 = .ok (.putfield 43, 3) := by decide +kernel
theorem dX8_init_256 : decode cX8_init 256 = .ok (.aload_n 0, 1) := by decide +kernel
theorem dX8_init_257 : decode cX8_init 257 = .ok (.bipush 7, 2) := by decide +kernel
theorem dX8_init_259 : decode cX8_init 259 = .ok (.newarray .int, 2) := by decide +kernel
theorem dX8_init_261 : decode cX8_init 261 = .ok (.dup, 1) := by decide +kernel
theorem dX8_init_262 : decode cX8_init 262 = .ok (.iconst 0, 1) := by decide +kernel
theorem dX8_init_263 : decode cX8_init 263 = .ok (.iconst (-1), 1) := by decide +kernel
theorem dX8_init_264 : decode cX8_init 264 = .ok (.iastore, 1) := by decide +kernel
theorem dX8_init_265 : decode cX8_init 265 = .ok (.dup, 1) := by decide +kernel
theorem dX8_init_266 : decode cX8_init 266 = .ok (.iconst 1, 1) := by decide +kernel
theorem dX8_init_267 : decode cX8_init 267 = .ok (.iconst 0, 1) := by decide +kernel
theorem dX8_init_268 : decode cX8_init 268 = .ok (.iastore, 1) := by decide +kernel
theorem dX8_init_269 : decode cX8_init 269 = .ok (.dup, 1) := by decide +kernel
theorem dX8_init_270 : decode cX8_init 270 = .ok (.iconst 2, 1) := by decide +kernel
theorem dX8_init_271 : decode cX8_init 271 = .ok (.iconst 0, 1) := by decide +kernel
theorem dX8_init_272 : decode cX8_init 272 = .ok (.iastore, 1) := by decide +kernel
theorem dX8_init_273 : decode cX8_init 273 = .ok (.dup, 1) := by decide +kernel
theorem dX8_init_274 : decode cX8_init 274 = .ok (.iconst 3, 1) := by decide +kernel
theorem dX8_init_275 : decode cX8_init 275 = .ok (.iconst 0, 1) := by decide +kernel
theorem dX8_init_276 : decode cX8_init 276 = .ok (.iastore, 1) := by decide +kernel
theorem dX8_init_277 : decode cX8_init 277 = .ok (.dup, 1) := by decide +kernel
theorem dX8_init_278 : decode cX8_init 278 = .ok (.iconst 4, 1) := by decide +kernel
theorem dX8_init_279 : decode cX8_init 279 = .ok (.iconst 1, 1) := by decide +kernel
theorem dX8_init_280 : decode cX8_init 280 = .ok (.iastore, 1) := by decide +kernel
theorem dX8_init_281 : decode cX8_init 281 = .ok (.dup, 1) := by decide +kernel
theorem dX8_init_282 : decode cX8_init 282 = .ok (.iconst 5, 1) := by decide +kernel
theorem dX8_init_283 : decode cX8_init 283 = .ok (.iconst 2, 1) := by decide +kernel
theorem dX8_init_284 : decode cX8_init 284 = .ok (.iastore, 1) := by decide +kernel
theorem dX8_init_285 : decode cX8_init 285 = .ok (.dup, 1) := by decide +kernel
theorem dX8_init_286 : decode cX8_init 286 = .ok (.bipush 6, 2) := by decide +kernel
theorem dX8_init_288 : decode cX8_init 288 = .ok (.iconst 3, 1) := by decide +kernel
theorem dX8_init_289 : decode cX8_init 289 = .ok (.iastore, 1) := by decide +kernel
theorem dX8_init_290 : decode cX8_init 290 = .ok (.putfield 47, 3) := by decide +kernel
theorem dX8_init_293 : decode cX8_init 293 = .ok (.aload_n 0, 1) := by decide +kernel
theorem dX8_init_294 : decode cX8_init 294 = .ok (.bipush 21, 2) := by decide +kernel
theorem dX8_init_296 : decode cX8_init 296 = .ok (.newarray .int, 2) := by decide +kernel
theorem dX8_init_298 : decode cX8_init 298 = .ok (.dup, 1) := by decide +kernel
theorem dX8_init_299 : decode cX8_init 299 = .ok (.iconst 0, 1) := by decide +kernel
theorem dX8_init_300 : decode cX8_init 300 = .ok (.bipush 10, 2) := by decide +kernel
theorem dX8_init_302 : decode cX8_init 302 = .ok (.iastore, 1) := by decide +kernel
theorem dX8_init_303 : decode cX8_init 303 = .ok (.dup, 1) := by decide +kernel
theorem dX8_init_304 : decode cX8_init 304 = .ok (.iconst 1, 1) := by decide +kernel
theorem dX8_init_305 : decode cX8_init 305 = .ok (.bipush 11, 2) := by decide +kernel
theorem dX8_init_307 : decode cX8_init 307 = .ok (.iastore, 1) := by decide +kernel
theorem dX8_init_308 : decode cX8_init 308 = .ok (.dup, 1) := by decide +kernel
theorem dX8_init_309 : decode cX8_init 309 = .ok (.iconst 2, 1) := by decide +kernel
theorem dX8_init_310 : decode cX8_init 310 = .ok (.bipush 12, 2) := by decide +kernel
theorem dX8_init_312 : decode cX8_init 312 = .ok (.iastore, 1) := by decide +kernel
theorem dX8_init_313 : decode cX8_init 313 = .ok (.dup, 1) := by decide +kernel
theorem dX8_init_314 : decode cX8_init 314 = .ok (.iconst 3, 1) := by decide +kernel
theorem dX8_init_315 : decode cX8_init 315 = .ok (.iconst 0, 1) := by decide +kernel
theorem dX8_init_316 : decode cX8_init 316 = .ok (.iastore, 1) := by decide +kernel
theorem dX8_init_317 : decode cX8_init 317 = .ok (.dup, 1) := by decide +kernel
theorem dX8_init_318 : decode cX8_init 318 = .ok (.iconst 4, 1) := by decide +kernel
theorem dX8_init_319 : decode cX8_init 319 = .ok (.bipush 20, 2) := by decide +kernel
theorem dX8_init_321 : decode cX8_init 321 = .ok (.iastore, 1) := by decide +kernel
theorem dX8_init_322 : decode cX8_init 322 = .ok (.dup, 1) := by decide +kernel
theorem dX8_init_323 : decode cX8_init 323 = .ok (.iconst 5, 1) := by decide +kernel
theorem dX8_init_324 : decode cX8_init 324 = .ok (.iconst 0, 1) := by decide +kernel
theorem dX8_init_325 : decode cX8_init 325 = .ok (.iastore, 1) := by decide +kernel
theorem dX8_init_326 : decode cX8_init 326 = .ok (.dup, 1) := by decide +kernel
theorem dX8_init_327 : decode cX8_init 327 = .ok (.bipush 6, 2) := by decide +kernel
theorem dX8_init_329 : decode cX8_init 329 = .ok (.bipush 30, 2) := by decide +kernel
theorem dX8_init_331 : decode cX8_init 331 = .ok (.iastore, 1) := by decide +kernel
theorem dX8_init_332 : decode cX8_init 332 = .ok (.dup, 1) := by decide +kernel
theorem dX8_init_333 : decode cX8_init 333 = .ok (.bipush 7, 2) := by decide +kernel
theorem dX8_init_335 : decode cX8_init 335 = .ok (.iconst 0, 1) := by decide +kernel
theorem dX8_init_336 : decode cX8_init 336 = .ok (.iastore, 1) := by decide +kernel
theorem dX8_init_337 : decode cX8_init 337 = .ok (.dup, 1) := by decide +kernel
theorem dX8_init_338 : decode cX8_init 338 = .ok (.bipush 8, 2) := by decide +kernel
theorem dX8_init_340 : decode cX8_init 340 = .ok (.iconst 0, 1) := by decide +kernel
theorem dX8_init_341 : decode cX8_init 341 = .ok (.iastore, 1) := by decide +kernel
theorem dX8_init_342 : decode cX8_init 342 = .ok (.dup, 1) := by decide +kernel
theorem dX8_init_343 : decode cX8_init 343 = .ok (.bipush 9, 2) := by decide +kernel
theorem dX8_init_345 : decode cX8_init 345 = .ok (.iconst 0, 1) := by decide +kernel
theorem dX8_init_346 : decode cX8_init 346 = .ok (.iastore, 1) := by decide +kernel
theorem dX8_init_347 : decode cX8_init 347 = .ok (.dup, 1) := by decide +kernel
theorem dX8_init_348 : decode cX8_init 348 = .ok (.bipush 10, 2) := by decide +kernel
theorem dX8_init_350 : decode cX8_init 350 = .ok (.iconst 0, 1) := by decide +kernel
theorem dX8_init_351 : decode cX8_init 351 = .ok (.iastore, 1) := by decide +kernel
theorem dX8_init_352 : decode cX8_init 352 = .ok (.dup, 1) := by decide +kernel
theorem dX8_init_353 : decode cX8_init 353 = .ok (.bipush 11, 2) := by decide +kernel
theorem dX8_init_355 : decode cX8_init 355 = .ok (.bipush 40, 2) := by decide +kernel
theorem dX8_init_357 : decode cX8_init 357 = .ok (.iastore, 1) := by decide +kernel
theorem dX8_init_358 : decode cX8_init 358 = .ok (.dup, 1) := by decide +kernel
theorem dX8_init_359 : decode cX8_init 359 = .ok (.bipush 12, 2) := by decide +kernel
theorem dX8_init_361 : decode cX8_init 361 = .ok (.bipush 50, 2) := by decide +kernel
theorem dX8_init_363 : decode cX8_init 363 = .ok (.iastore, 1) := by decide +kernel
theorem dX8_init_364 : decode cX8_init 364 = .ok (.dup, 1) := by decide +kernel
theorem dX8_init_365 : decode cX8_init 365 = .ok (.bipush 13, 2) := by decide +kernel
theorem dX8_init_367 : decode cX8_init 367 = .ok (.bipush 51, 2) := by decide +kernel
theorem dX8_init_369 : decode cX8_init 369 = .ok (.iastore, 1) := by decide +kernel
theorem dX8_init_370 : decode cX8_init 370 = .ok (.dup, 1) := by decide +kernel
theorem dX8_init_371 : decode cX8_init 371 = .ok (.bipush 14, 2) := by decide +kernel
theorem dX8_init_373 : decode cX8_init 373 = .ok (.iconst 0, 1) := by decide +kernel
theorem dX8_init_374 : decode cX8_init 374 = .ok (.iastore, 1) := by decide +kernel
theorem dX8_init_375 : decode cX8_init 375 = .ok (.dup, 1) := by decide +kernel
theorem dX8_init_376 : decode cX8_init 376 = .ok (.bipush 15, 2) := by decide +kernel
theorem dX8_init_378 : decode cX8_init 378 = .ok (.iconst 0, 1) := by decide +kernel
theorem dX8_init_379 : decode cX8_init 379 = .ok (.iastore, 1) := by decide +kernel
theorem dX8_init_380 : decode cX8_init 380 = .ok (.dup, 1) := by decide +kernel
theorem dX8_init_381 : decode cX8_init 381 = .ok (.bipush 16, 2) := by decide +kernel
theorem dX8_init_383 : decode cX8_init 383 = .ok (.iconst 0, 1) := by decide +kernel
theorem dX8_init_384 : decode cX8_init 384 = .ok (.iastore, 1) := by decide +kernel
theorem dX8_init_385 : decode cX8_init 385 = .ok (.dup, 1) := by decide +kernel
theorem dX8_init_386 : decode cX8_init 386 = .ok (.bipush 17, 2) := by decide +kernel
theorem dX8_init_388 : decode cX8_init 388 = .ok (.bipush 60, 2) := by decide +kernel
theorem dX8_init_390 : decode cX8_init 390 = .ok (.iastore, 1) := by decide +kernel
theorem dX8_init_391 : decode cX8_init 391 = .ok (.dup, 1) := by decide +kernel
theorem dX8_init_392 : decode cX8_init 392 = .ok (.bipush 18, 2) := by decide +kernel
theorem dX8_init_394 : decode cX8_init 394 = .ok (.bipush 71, 2) := by decide +kernel
theorem dX8_init_396 : decode cX8_init 396 = .ok (.iastore, 1) := by decide +kernel
theorem dX8_init_397 : decode cX8_init 397 = .ok (.dup, 1) := by decide +kernel
theorem dX8_init_398 : decode cX8_init 398 = .ok (.bipush 19, 2) := by decide +kernel
theorem dX8_init_400 : decode cX8_init 400 = .ok (.bipush 70, 2) := by decide +kernel
theorem dX8_init_402 : decode cX8_init 402 = .ok (.iastore, 1) := by decide +kernel
theorem dX8_init_403 : decode cX8_init 403 = .ok (.dup, 1) := by decide +kernel
theorem dX8_init_404 : decode cX8_init 404 = .ok (.bipush 20, 2) := by decide +kernel
theorem dX8_init_406 : decode cX8_init 406 = .ok (.iconst 0, 1) := by decide +kernel
theorem dX8_init_407 : decode cX8_init 407 = .ok (.iastore, 1) := by decide +kernel
theorem dX8_init_408 : decode cX8_init 408 = .ok (.putfield 50, 3) := by decide +kernel
theorem dX8_init_411 : decode cX8_init 411 = .ok (.aload_n 0, 1) := by decide +kernel
theorem dX8_init_412 : decode cX8_init 412 = .ok (.bipush 20, 2) := by decide +kernel
theorem dX8_init_414 : decode cX8_init 414 = .ok (.newarray .int, 2) := by decide +kernel
theorem dX8_init_416 : decode cX8_init 416 = .ok (.putfield 53, 3) := by decide +kernel
theorem dX8_init_419 : decode cX8_init 419 = .ok (.aload_n 0, 1) := by decide +kernel
theorem dX8_init_420 : decode cX8_init 420 = .ok (.bipush 6, 2) := by decide +kernel
theorem dX8_init_422 : decode cX8_init 422 = .ok (.newarray .int, 2) := by decide +kernel
theorem dX8_init_424 : decode cX8_init 424 = .ok (.dup, 1) := by decide +kernel
theorem dX8_init_425 : decode cX8_init 425 = .ok (.iconst 0, 1) := by decide +kernel
theorem dX8_init_426 : decode cX8_init 426 = .ok (.iconst (-1), 1) := by decide +kernel
theorem dX8_init_427 : decode cX8_init 427 = .ok (.iastore, 1) := by decide +kernel
theorem dX8_init_428 : decode cX8_init 428 = .ok (.dup, 1) := by decide +kernel
theorem dX8_init_429 : decode cX8_init 429 = .ok (.iconst 1, 1) := by decide +kernel
theorem dX8_init_430 : decode cX8_init 430 = .ok (.iconst (-1), 1) := by decide +kernel
theorem dX8_init_431 : decode cX8_init 431 = .ok (.iastore, 1) := by decide +kernel
theorem dX8_init_432 : decode cX8_init 432 = .ok (.dup, 1) := by decide +kernel
theorem dX8_init_433 : decode cX8_init 433 = .ok (.iconst 2, 1) := by decide +kernel
theorem dX8_init_434 : decode cX8_init 434 = .ok (.iconst (-1), 1) := by decide +kernel
theorem dX8_init_435 : decode cX8_init 435 = .ok (.iastore, 1) := by decide +kernel
theorem dX8_init_436 : decode cX8_init 436 = .ok (.dup, 1) := by decide +kernel
theorem dX8_init_437 : decode cX8_init 437 = .ok (.iconst 3, 1) := by decide +kernel
theorem dX8_init_438 : decode cX8_init 438 = .ok (.iconst (-1), 1) := by decide +kernel
theorem dX8_init_439 : decode cX8_init 439 = .ok (.iastore, 1) := by decide +kernel
theorem dX8_init_440 : decode cX8_init 440 = .ok (.dup, 1) := by decide +kernel
theorem dX8_init_441 : decode cX8_init 441 = .ok (.iconst 4, 1) := by decide +kernel
theorem dX8_init_442 : decode cX8_init 442 = .ok (.iconst (-1), 1) := by decide +kernel
theorem dX8_init_443 : decode cX8_init 443 = .ok (.iastore, 1) := by decide +kernel
theorem dX8_init_444 : decode cX8_init 444 = .ok (.dup, 1) := by decide +kernel
theorem dX8_init_445 : decode cX8_init 445 = .ok (.iconst 5, 1) := by decide +kernel
theorem dX8_init_446 : decode cX8_init 446 = .ok (.iconst (-1), 1) := by decide +kernel
theorem dX8_init_447 : decode cX8_init 447 = .ok (.iastore, 1) := by decide +kernel
theorem dX8_init_448 : decode cX8_init 448 = .ok (.putfield 56, 3) := by decide +kernel
theorem dX8_init_451 : decode cX8_init 451 = .ok (.aload_n 0, 1) := by decide +kernel
theorem dX8_init_452 : decode cX8_init 452 = .ok (.bipush 6, 2) := by decide +kernel
theorem dX8_init_454 : decode cX8_init 454 = .ok (.newarray .int, 2) := by decide +kernel
theorem dX8_init_456 : decode cX8_init 456 = .ok (.putfield 59, 3) := by decide +kernel
theorem dX8_init_459 : decode cX8_init 459 = .ok (.aload_n 0, 1) := by decide +kernel
theorem dX8_init_460 : decode cX8_init 460 = .ok (.sipush 360, 3) := by decide +kernel
theorem dX8_init_463 : decode cX8_init 463 = .ok (.newarray .long, 2) := by decide +kernel
theorem dX8_init_465 : decode cX8_init 465 = .ok (.putfield 62, 3) := by decide +kernel
theorem dX8_init_468 : decode cX8_init 468 = .ok (.aload_n 0, 1) := by decide +kernel
theorem dX8_init_469 : decode cX8_init 469 = .ok (.bipush 60, 2) := by decide +kernel
theorem dX8_init_471 : decode cX8_init 471 = .ok (.newarray .long, 2) := by decide +kernel
theorem dX8_init_473 : decode cX8_init 473 = .ok (.putfield 66, 3) := by decide +kernel
theorem dX8_init_476 : decode cX8_init 476 = .ok (.return_, 1) := by decide +kernel
theorem dX8_isIn_0 : decode cX8_isIn 0 = .ok (.iload_n 0, 1) := by decide +kernel
theorem dX8_isIn_1 : decode cX8_isIn 1 = .ok (.iload_n 1, 1) := by decide +kernel
theorem dX8_isIn_2 : decode cX8_isIn 2 = .ok (.if_icmp .lt 12, 3) := by decide +kernel
theorem dX8_isIn_5 : decode cX8_isIn 5 = .ok (.iload_n 0, 1) := by decide +kernel
theorem dX8_isIn_6 : decode cX8_isIn 6 = .ok (.iload_n 2, 1) := by decide +kernel
theorem dX8_isIn_7 : decode cX8_isIn 7 = .ok (.if_icmp .gt 7, 3) := by decide +kernel
theorem dX8_isIn_10 : decode cX8_isIn 10 = .ok (.iconst 1, 1) := by decide +kernel
theorem dX8_isIn_11 : decode cX8_isIn 11 = .ok (.goto 4, 3) := by decide +kernel
theorem dX8_isIn_14 : decode cX8_isIn 14 = .ok (.iconst 0, 1) := by decide +kernel
theorem dX8_isIn_15 : decode cX8_isIn 15 = .ok (.ireturn, 1) := by decide +kernel
theorem dX8_move_0 : decode cX8_move 0 = .ok (.iconst 0, 1) := by decide +kernel
theorem dX8_move_1 : decode cX8_move 1 = .ok (.istore_n 2, 1) := by decide +kernel
theorem dX8_move_2 : decode cX8_move 2 = .ok (.iload_n 2, 1) := by decide +kernel
theorem dX8_move_3 : decode cX8_move 3 = .ok (.bipush 108, 2) := by decide +kernel
theorem dX8_move_5 : decode cX8_move 5 = .ok (.if_icmp .ge 15, 3) := by decide +kernel
theorem dX8_move_8 : decode cX8_move 8 = .ok (.aload_n 1, 1) := by decide +kernel
theorem dX8_move_9 : decode cX8_move 9 = .ok (.iload_n 2, 1) := by decide +kernel
theorem dX8_move_10 : decode cX8_move 10 = .ok (.aload_n 0, 1) := by decide +kernel
theorem dX8_move_11 : decode cX8_move 11 = .ok (.iload_n 2, 1) := by decide +kernel
theorem dX8_move_12 : decode cX8_move 12 = .ok (.iaload, 1) := by decide +kernel
theorem dX8_move_13 : decode cX8_move 13 = .ok (.iastore, 1) := by decide +kernel
theorem dX8_move_14 : decode cX8_move 14 = .ok (.iinc 2 1, 3) := by decide +kernel
theorem dX8_move_17 : decode cX8_move 17 = .ok (.goto (-15), 3) := by decide +kernel
theorem dX8_move_20 : decode cX8_move 20 = .ok (.return_, 1) := by decide +kernel
theorem dX8_image_0 : decode cX8_image 0 = .ok (.aload_n 0, 1) := by decide +kernel
theorem dX8_image_1 : decode cX8_image 1 = .ok (.iconst 1, 1) := by decide +kernel
theorem dX8_image_2 : decode cX8_image 2 = .ok (.putfield 69, 3) := by decide +kernel
theorem dX8_image_5 : decode cX8_image 5 = .ok (.aload_n 0, 1) := by decide +kernel
theorem dX8_image_6 : decode cX8_image 6 = .ok (.getfield 9, 3) := by decide +kernel
theorem dX8_image_9 : decode cX8_image 9 = .ok (.aload_n 0, 1) := by decide +kernel
theorem dX8_image_10 : decode cX8_image 10 = .ok (.getfield 18, 3) := by decide +kernel
theorem dX8_image_13 : decode cX8_image 13 = .ok (.invokestatic 73, 3) := by decide +kernel
theorem dX8_image_16 : decode cX8_image 16 = .ok (.aload_n 0, 1) := by decide +kernel
theorem dX8_image_17 : decode cX8_image 17 = .ok (.getfield 9, 3) := by decide +kernel
theorem dX8_image_20 : decode cX8_image 20 = .ok (.bipush 49, 2) := by decide +kernel
theorem dX8_image_22 : decode cX8_image 22 = .ok (.iaload, 1) := by decide +kernel
theorem dX8_image_23 : decode cX8_image 23 = .ok (.ireturn, 1) := by decide +kernel
theorem dX8_undo_0 : decode cX8_undo 0 = .ok (.aload_n 0, 1) := by decide +kernel
theorem dX8_undo_1 : decode cX8_undo 1 = .ok (.getfield 69, 3) := by decide +kernel
theorem dX8_undo_4 : decode cX8_undo 4 = .ok (.ifCond .ne 6, 3) := by decide +kernel
theorem dX8_undo_7 : decode cX8_undo 7 = .ok (.bipush (-3), 2) := by decide +kernel
theorem dX8_undo_9 : decode cX8_undo 9 = .ok (.ireturn, 1) := by decide +kernel
theorem dX8_undo_10 : decode cX8_undo 10 = .ok (.aload_n 0, 1) := by decide +kernel
theorem dX8_undo_11 : decode cX8_undo 11 = .ok (.getfield 18, 3) := by decide +kernel
theorem dX8_undo_14 : decode cX8_undo 14 = .ok (.aload_n 0, 1) := by decide +kernel
theorem dX8_undo_15 : decode cX8_undo 15 = .ok (.getfield 9, 3) := by decide +kernel
theorem dX8_undo_18 : decode cX8_undo 18 = .ok (.invokestatic 73, 3) := by decide +kernel
theorem dX8_undo_21 : decode cX8_undo 21 = .ok (.aload_n 0, 1) := by decide +kernel
theorem dX8_undo_22 : decode cX8_undo 22 = .ok (.getfield 9, 3) := by decide +kernel
theorem dX8_undo_25 : decode cX8_undo 25 = .ok (.bipush 49, 2) := by decide +kernel
theorem dX8_undo_27 : decode cX8_undo 27 = .ok (.iaload, 1) := by decide +kernel
theorem dX8_undo_28 : decode cX8_undo 28 = .ok (.ireturn, 1) := by decide +kernel
theorem dX8_isOne_0 : decode cX8_isOne 0 = .ok (.iload_n 1, 1) := by decide +kernel
theorem dX8_isOne_1 : decode cX8_isOne 1 = .ok (.iconst 0, 1) := by decide +kernel
theorem dX8_isOne_2 : decode cX8_isOne 2 = .ok (.aload_n 0, 1) := by decide +kernel
theorem dX8_isOne_3 : decode cX8_isOne 3 = .ok (.getfield 9, 3) := by decide +kernel
theorem dX8_isOne_6 : decode cX8_isOne 6 = .ok (.bipush 49, 2) := by decide +kernel
theorem dX8_isOne_8 : decode cX8_isOne 8 = .ok (.iaload, 1) := by decide +kernel
theorem dX8_isOne_9 : decode cX8_isOne 9 = .ok (.iconst 1, 1) := by decide +kernel
theorem dX8_isOne_10 : decode cX8_isOne 10 = .ok (.isub, 1) := by decide +kernel
theorem dX8_isOne_11 : decode cX8_isOne 11 = .ok (.invokestatic 77, 3) := by decide +kernel
theorem dX8_isOne_14 : decode cX8_isOne 14 = .ok (.ireturn, 1) := by decide +kernel
theorem dX8_number_0 : decode cX8_number 0 = .ok (.aload_n 0, 1) := by decide +kernel
theorem dX8_number_1 : decode cX8_number 1 = .ok (.getfield 9, 3) := by decide +kernel
theorem dX8_number_4 : decode cX8_number 4 = .ok (.bipush 7, 2) := by decide +kernel
theorem dX8_number_6 : decode cX8_number 6 = .ok (.iload_n 1, 1) := by decide +kernel
theorem dX8_number_7 : decode cX8_number 7 = .ok (.imul, 1) := by decide +kernel
theorem dX8_number_8 : decode cX8_number 8 = .ok (.iload_n 2, 1) := by decide +kernel
theorem dX8_number_9 : decode cX8_number 9 = .ok (.iadd, 1) := by decide +kernel
theorem dX8_number_10 : decode cX8_number 10 = .ok (.iaload, 1) := by decide +kernel
theorem dX8_number_11 : decode cX8_number 11 = .ok (.ireturn, 1) := by decide +kernel
theorem dX8_change_0 : decode cX8_change 0 = .ok (.aload_n 0, 1) := by decide +kernel
theorem dX8_change_1 : decode cX8_change 1 = .ok (.iload_n 1, 1) := by decide +kernel
theorem dX8_change_2 : decode cX8_change 2 = .ok (.iload_n 2, 1) := by decide +kernel
theorem dX8_change_3 : decode cX8_change 3 = .ok (.invokevirtual 81, 3) := by decide +kernel
theorem dX8_change_6 : decode cX8_change 6 = .ok (.istore 4, 2) := by decide +kernel
theorem dX8_change_8 : decode cX8_change 8 = .ok (.aload_n 0, 1) := by decide +kernel
theorem dX8_change_9 : decode cX8_change 9 = .ok (.getfield 9, 3) := by decide +kernel
theorem dX8_change_12 : decode cX8_change 12 = .ok (.bipush 7, 2) := by decide +kernel
theorem dX8_change_14 : decode cX8_change 14 = .ok (.iload_n 1, 1) := by decide +kernel
theorem dX8_change_15 : decode cX8_change 15 = .ok (.imul, 1) := by decide +kernel
theorem dX8_change_16 : decode cX8_change 16 = .ok (.iload_n 2, 1) := by decide +kernel
theorem dX8_change_17 : decode cX8_change 17 = .ok (.iadd, 1) := by decide +kernel
theorem dX8_change_18 : decode cX8_change 18 = .ok (.iload_n 3, 1) := by decide +kernel
theorem dX8_change_19 : decode cX8_change 19 = .ok (.iastore, 1) := by decide +kernel
theorem dX8_change_20 : decode cX8_change 20 = .ok (.iload 4, 2) := by decide +kernel
theorem dX8_change_22 : decode cX8_change 22 = .ok (.ireturn, 1) := by decide +kernel
theorem dX8_placeOf_0 : decode cX8_placeOf 0 = .ok (.iconst 0, 1) := by decide +kernel
theorem dX8_placeOf_1 : decode cX8_placeOf 1 = .ok (.istore_n 2, 1) := by decide +kernel
theorem dX8_placeOf_2 : decode cX8_placeOf 2 = .ok (.iload_n 2, 1) := by decide +kernel
theorem dX8_placeOf_3 : decode cX8_placeOf 3 = .ok (.aload_n 0, 1) := by decide +kernel
theorem dX8_placeOf_4 : decode cX8_placeOf 4 = .ok (.getfield 9, 3) := by decide +kernel
theorem dX8_placeOf_7 : decode cX8_placeOf 7 = .ok (.bipush 48, 2) := by decide +kernel
theorem dX8_placeOf_9 : decode cX8_placeOf 9 = .ok (.iaload, 1) := by decide +kernel
theorem dX8_placeOf_10 : decode cX8_placeOf 10 = .ok (.if_icmp .ge 24, 3) := by decide +kernel
theorem dX8_placeOf_13 : decode cX8_placeOf 13 = .ok (.aload_n 0, 1) := by decide +kernel
theorem dX8_placeOf_14 : decode cX8_placeOf 14 = .ok (.getfield 9, 3) := by decide +kernel
theorem dX8_placeOf_17 : decode cX8_placeOf 17 = .ok (.bipush 42, 2) := by decide +kernel
theorem dX8_placeOf_19 : decode cX8_placeOf 19 = .ok (.iload_n 2, 1) := by decide +kernel
theorem dX8_placeOf_20 : decode cX8_placeOf 20 = .ok (.iadd, 1) := by decide +kernel
theorem dX8_placeOf_21 : decode cX8_placeOf 21 = .ok (.iaload, 1) := by decide +kernel
theorem dX8_placeOf_22 : decode cX8_placeOf 22 = .ok (.iload_n 1, 1) := by decide +kernel
theorem dX8_placeOf_23 : decode cX8_placeOf 23 = .ok (.if_icmp .ne 5, 3) := by decide +kernel
theorem dX8_placeOf_26 : decode cX8_placeOf 26 = .ok (.iload_n 2, 1) := by decide +kernel
theorem dX8_placeOf_27 : decode cX8_placeOf 27 = .ok (.ireturn, 1) := by decide +kernel
theorem dX8_placeOf_28 : decode cX8_placeOf 28 = .ok (.iinc 2 1, 3) := by decide +kernel
theorem dX8_placeOf_31 : decode cX8_placeOf 31 = .ok (.goto (-29), 3) := by decide +kernel
theorem dX8_placeOf_34 : decode cX8_placeOf 34 = .ok (.bipush (-5), 2) := by decide +kernel
theorem dX8_placeOf_36 : decode cX8_placeOf 36 = .ok (.ireturn, 1) := by decide +kernel
theorem dX8_isOnRoad_0 : decode cX8_isOnRoad 0 = .ok (.aload_n 0, 1) := by decide +kernel
theorem dX8_isOnRoad_1 : decode cX8_isOnRoad 1 = .ok (.iload_n 1, 1) := by decide +kernel
theorem dX8_isOnRoad_2 : decode cX8_isOnRoad 2 = .ok (.invokevirtual 85, 3) := by decide +kernel
theorem dX8_isOnRoad_5 : decode cX8_isOnRoad 5 = .ok (.bipush (-5), 2) := by decide +kernel
theorem dX8_isOnRoad_7 : decode cX8_isOnRoad 7 = .ok (.if_icmp .eq 7, 3) := by decide +kernel
theorem dX8_isOnRoad_10 : decode cX8_isOnRoad 10 = .ok (.iconst 1, 1) := by decide +kernel
theorem dX8_isOnRoad_11 : decode cX8_isOnRoad 11 = .ok (.goto 4, 3) := by decide +kernel
theorem dX8_isOnRoad_14 : decode cX8_isOnRoad 14 = .ok (.iconst 0, 1) := by decide +kernel
theorem dX8_isOnRoad_15 : decode cX8_isOnRoad 15 = .ok (.ireturn, 1) := by decide +kernel
theorem dX8_joins_0 : decode cX8_joins 0 = .ok (.aload_n 0, 1) := by decide +kernel
theorem dX8_joins_1 : decode cX8_joins 1 = .ok (.getfield 9, 3) := by decide +kernel
theorem dX8_joins_4 : decode cX8_joins 4 = .ok (.bipush 42, 2) := by decide +kernel
theorem dX8_joins_6 : decode cX8_joins 6 = .ok (.aload_n 0, 1) := by decide +kernel
theorem dX8_joins_7 : decode cX8_joins 7 = .ok (.getfield 9, 3) := by decide +kernel
theorem dX8_joins_10 : decode cX8_joins 10 = .ok (.bipush 48, 2) := by decide +kernel
theorem dX8_joins_12 : decode cX8_joins 12 = .ok (.iaload, 1) := by decide +kernel
theorem dX8_joins_13 : decode cX8_joins 13 = .ok (.iadd, 1) := by decide +kernel
theorem dX8_joins_14 : decode cX8_joins 14 = .ok (.iload_n 1, 1) := by decide +kernel
theorem dX8_joins_15 : decode cX8_joins 15 = .ok (.iastore, 1) := by decide +kernel
theorem dX8_joins_16 : decode cX8_joins 16 = .ok (.aload_n 0, 1) := by decide +kernel
theorem dX8_joins_17 : decode cX8_joins 17 = .ok (.getfield 9, 3) := by decide +kernel
theorem dX8_joins_20 : decode cX8_joins 20 = .ok (.bipush 48, 2) := by decide +kernel
theorem dX8_joins_22 : decode cX8_joins 22 = .ok (.dup2, 1) := by decide +kernel
theorem dX8_joins_23 : decode cX8_joins 23 = .ok (.iaload, 1) := by decide +kernel
theorem dX8_joins_24 : decode cX8_joins 24 = .ok (.iconst 1, 1) := by decide +kernel
theorem dX8_joins_25 : decode cX8_joins 25 = .ok (.iadd, 1) := by decide +kernel
theorem dX8_joins_26 : decode cX8_joins 26 = .ok (.iastore, 1) := by decide +kernel
theorem dX8_joins_27 : decode cX8_joins 27 = .ok (.return_, 1) := by decide +kernel
theorem dX8_one_0 : decode cX8_one 0 = .ok (.iload_n 1, 1) := by decide +kernel
theorem dX8_one_1 : decode cX8_one 1 = .ok (.iconst 0, 1) := by decide +kernel
theorem dX8_one_2 : decode cX8_one 2 = .ok (.bipush 6, 2) := by decide +kernel
theorem dX8_one_4 : decode cX8_one 4 = .ok (.invokestatic 77, 3) := by decide +kernel
theorem dX8_one_7 : decode cX8_one 7 = .ok (.ifCond .ne 5, 3) := by decide +kernel
theorem dX8_one_10 : decode cX8_one 10 = .ok (.iconst (-1), 1) := by decide +kernel
theorem dX8_one_11 : decode cX8_one 11 = .ok (.ireturn, 1) := by decide +kernel
theorem dX8_one_12 : decode cX8_one 12 = .ok (.iload_n 2, 1) := by decide +kernel
theorem dX8_one_13 : decode cX8_one 13 = .ok (.iconst 0, 1) := by decide +kernel
theorem dX8_one_14 : decode cX8_one 14 = .ok (.bipush 9, 2) := by decide +kernel
theorem dX8_one_16 : decode cX8_one 16 = .ok (.invokestatic 77, 3) := by decide +kernel
theorem dX8_one_19 : decode cX8_one 19 = .ok (.ifCond .eq 13, 3) := by decide +kernel
theorem dX8_one_22 : decode cX8_one 22 = .ok (.iload_n 3, 1) := by decide +kernel
theorem dX8_one_23 : decode cX8_one 23 = .ok (.iconst 0, 1) := by decide +kernel
theorem dX8_one_24 : decode cX8_one 24 = .ok (.bipush 9, 2) := by decide +kernel
theorem dX8_one_26 : decode cX8_one 26 = .ok (.invokestatic 77, 3) := by decide +kernel
theorem dX8_one_29 : decode cX8_one 29 = .ok (.ifCond .ne 6, 3) := by decide +kernel
theorem dX8_one_32 : decode cX8_one 32 = .ok (.bipush (-2), 2) := by decide +kernel
theorem dX8_one_34 : decode cX8_one 34 = .ok (.ireturn, 1) := by decide +kernel
theorem dX8_one_35 : decode cX8_one 35 = .ok (.aload_n 0, 1) := by decide +kernel
theorem dX8_one_36 : decode cX8_one 36 = .ok (.getfield 9, 3) := by decide +kernel
theorem dX8_one_39 : decode cX8_one 39 = .ok (.bipush 49, 2) := by decide +kernel
theorem dX8_one_41 : decode cX8_one 41 = .ok (.iaload, 1) := by decide +kernel
theorem dX8_one_42 : decode cX8_one 42 = .ok (.istore 4, 2) := by decide +kernel
theorem dX8_one_44 : decode cX8_one 44 = .ok (.iload 4, 2) := by decide +kernel
theorem dX8_one_46 : decode cX8_one 46 = .ok (.bipush 6, 2) := by decide +kernel
theorem dX8_one_48 : decode cX8_one 48 = .ok (.if_icmp .ne 6, 3) := by decide +kernel
theorem dX8_one_51 : decode cX8_one 51 = .ok (.bipush (-4), 2) := by decide +kernel
theorem dX8_one_53 : decode cX8_one 53 = .ok (.ireturn, 1) := by decide +kernel
theorem dX8_one_54 : decode cX8_one 54 = .ok (.iconst 0, 1) := by decide +kernel
theorem dX8_one_55 : decode cX8_one 55 = .ok (.istore 5, 2) := by decide +kernel
theorem dX8_one_57 : decode cX8_one 57 = .ok (.iload 5, 2) := by decide +kernel
theorem dX8_one_59 : decode cX8_one 59 = .ok (.bipush 7, 2) := by decide +kernel
theorem dX8_one_61 : decode cX8_one 61 = .ok (.if_icmp .ge 19, 3) := by decide +kernel
theorem dX8_one_64 : decode cX8_one 64 = .ok (.aload_n 0, 1) := by decide +kernel
theorem dX8_one_65 : decode cX8_one 65 = .ok (.iload 4, 2) := by decide +kernel
theorem dX8_one_67 : decode cX8_one 67 = .ok (.iload 5, 2) := by decide +kernel
theorem dX8_one_69 : decode cX8_one 69 = .ok (.iconst 0, 1) := by decide +kernel
theorem dX8_one_70 : decode cX8_one 70 = .ok (.invokevirtual 89, 3) := by decide +kernel
theorem dX8_one_73 : decode cX8_one 73 = .ok (.pop, 1) := by decide +kernel
theorem dX8_one_74 : decode cX8_one 74 = .ok (.iinc 5 1, 3) := by decide +kernel
theorem dX8_one_77 : decode cX8_one 77 = .ok (.goto (-20), 3) := by decide +kernel
theorem dX8_one_80 : decode cX8_one 80 = .ok (.aload_n 0, 1) := by decide +kernel
theorem dX8_one_81 : decode cX8_one 81 = .ok (.iload 4, 2) := by decide +kernel
theorem dX8_one_83 : decode cX8_one 83 = .ok (.iconst 0, 1) := by decide +kernel
theorem dX8_one_84 : decode cX8_one 84 = .ok (.iload_n 1, 1) := by decide +kernel
theorem dX8_one_85 : decode cX8_one 85 = .ok (.invokevirtual 89, 3) := by decide +kernel
theorem dX8_one_88 : decode cX8_one 88 = .ok (.pop, 1) := by decide +kernel
theorem dX8_one_89 : decode cX8_one 89 = .ok (.aload_n 0, 1) := by decide +kernel
theorem dX8_one_90 : decode cX8_one 90 = .ok (.iload 4, 2) := by decide +kernel
theorem dX8_one_92 : decode cX8_one 92 = .ok (.iconst 1, 1) := by decide +kernel
theorem dX8_one_93 : decode cX8_one 93 = .ok (.iload_n 2, 1) := by decide +kernel
theorem dX8_one_94 : decode cX8_one 94 = .ok (.invokevirtual 89, 3) := by decide +kernel
theorem dX8_one_97 : decode cX8_one 97 = .ok (.pop, 1) := by decide +kernel
theorem dX8_one_98 : decode cX8_one 98 = .ok (.aload_n 0, 1) := by decide +kernel
theorem dX8_one_99 : decode cX8_one 99 = .ok (.iload 4, 2) := by decide +kernel
theorem dX8_one_101 : decode cX8_one 101 = .ok (.iconst 2, 1) := by decide +kernel
theorem dX8_one_102 : decode cX8_one 102 = .ok (.iload_n 3, 1) := by decide +kernel
theorem dX8_one_103 : decode cX8_one 103 = .ok (.invokevirtual 89, 3) := by decide +kernel
theorem dX8_one_106 : decode cX8_one 106 = .ok (.pop, 1) := by decide +kernel
theorem dX8_one_107 : decode cX8_one 107 = .ok (.aload_n 0, 1) := by decide +kernel
theorem dX8_one_108 : decode cX8_one 108 = .ok (.iload 4, 2) := by decide +kernel
theorem dX8_one_110 : decode cX8_one 110 = .ok (.invokevirtual 93, 3) := by decide +kernel
theorem dX8_one_113 : decode cX8_one 113 = .ok (.aload_n 0, 1) := by decide +kernel
theorem dX8_one_114 : decode cX8_one 114 = .ok (.getfield 9, 3) := by decide +kernel
theorem dX8_one_117 : decode cX8_one 117 = .ok (.bipush 49, 2) := by decide +kernel
theorem dX8_one_119 : decode cX8_one 119 = .ok (.dup2, 1) := by decide +kernel
theorem dX8_one_120 : decode cX8_one 120 = .ok (.iaload, 1) := by decide +kernel
theorem dX8_one_121 : decode cX8_one 121 = .ok (.iconst 1, 1) := by decide +kernel
theorem dX8_one_122 : decode cX8_one 122 = .ok (.iadd, 1) := by decide +kernel
theorem dX8_one_123 : decode cX8_one 123 = .ok (.iastore, 1) := by decide +kernel
theorem dX8_one_124 : decode cX8_one 124 = .ok (.iload 4, 2) := by decide +kernel
theorem dX8_one_126 : decode cX8_one 126 = .ok (.ireturn, 1) := by decide +kernel
theorem dX8_of_0 : decode cX8_of 0 = .ok (.aload_n 0, 1) := by decide +kernel
theorem dX8_of_1 : decode cX8_of 1 = .ok (.iload_n 1, 1) := by decide +kernel
theorem dX8_of_2 : decode cX8_of 2 = .ok (.invokevirtual 97, 3) := by decide +kernel
theorem dX8_of_5 : decode cX8_of 5 = .ok (.ifCond .ne 7, 3) := by decide +kernel
theorem dX8_of_8 : decode cX8_of 8 = .ok (.sipush (-10001), 3) := by decide +kernel
theorem dX8_of_11 : decode cX8_of 11 = .ok (.ireturn, 1) := by decide +kernel
theorem dX8_of_12 : decode cX8_of 12 = .ok (.iload_n 2, 1) := by decide +kernel
theorem dX8_of_13 : decode cX8_of 13 = .ok (.tableswitch 96 0 7 #[47, 47, 47, 54, 68, 74, 83, 89], 47) := by decide +kernel
theorem dX8_of_60 : decode cX8_of 60 = .ok (.aload_n 0, 1) := by decide +kernel
theorem dX8_of_61 : decode cX8_of 61 = .ok (.iload_n 1, 1) := by decide +kernel
theorem dX8_of_62 : decode cX8_of 62 = .ok (.iload_n 2, 1) := by decide +kernel
theorem dX8_of_63 : decode cX8_of 63 = .ok (.invokevirtual 81, 3) := by decide +kernel
theorem dX8_of_66 : decode cX8_of 66 = .ok (.ireturn, 1) := by decide +kernel
theorem dX8_of_67 : decode cX8_of 67 = .ok (.aload_n 0, 1) := by decide +kernel
theorem dX8_of_68 : decode cX8_of 68 = .ok (.iload_n 1, 1) := by decide +kernel
theorem dX8_of_69 : decode cX8_of 69 = .ok (.invokevirtual 101, 3) := by decide +kernel
theorem dX8_of_72 : decode cX8_of 72 = .ok (.ifCond .eq 7, 3) := by decide +kernel
theorem dX8_of_75 : decode cX8_of 75 = .ok (.iconst 0, 1) := by decide +kernel
theorem dX8_of_76 : decode cX8_of 76 = .ok (.goto 4, 3) := by decide +kernel
theorem dX8_of_79 : decode cX8_of 79 = .ok (.iconst 1, 1) := by decide +kernel
theorem dX8_of_80 : decode cX8_of 80 = .ok (.ireturn, 1) := by decide +kernel
theorem dX8_of_81 : decode cX8_of 81 = .ok (.aload_n 0, 1) := by decide +kernel
theorem dX8_of_82 : decode cX8_of 82 = .ok (.iload_n 1, 1) := by decide +kernel
theorem dX8_of_83 : decode cX8_of 83 = .ok (.invokevirtual 85, 3) := by decide +kernel
theorem dX8_of_86 : decode cX8_of 86 = .ok (.ireturn, 1) := by decide +kernel
theorem dX8_of_87 : decode cX8_of 87 = .ok (.aload_n 0, 1) := by decide +kernel
theorem dX8_of_88 : decode cX8_of 88 = .ok (.invokevirtual 104, 3) := by decide +kernel
theorem dX8_of_91 : decode cX8_of 91 = .ok (.iload_n 1, 1) := by decide +kernel
theorem dX8_of_92 : decode cX8_of 92 = .ok (.ishr, 1) := by decide +kernel
theorem dX8_of_93 : decode cX8_of 93 = .ok (.iconst 1, 1) := by decide +kernel
theorem dX8_of_94 : decode cX8_of 94 = .ok (.iand, 1) := by decide +kernel
theorem dX8_of_95 : decode cX8_of 95 = .ok (.ireturn, 1) := by decide +kernel
theorem dX8_of_96 : decode cX8_of 96 = .ok (.aload_n 0, 1) := by decide +kernel
theorem dX8_of_97 : decode cX8_of 97 = .ok (.iload_n 1, 1) := by decide +kernel
theorem dX8_of_98 : decode cX8_of 98 = .ok (.invokevirtual 108, 3) := by decide +kernel
theorem dX8_of_101 : decode cX8_of 101 = .ok (.ireturn, 1) := by decide +kernel
theorem dX8_of_102 : decode cX8_of 102 = .ok (.aload_n 0, 1) := by decide +kernel
theorem dX8_of_103 : decode cX8_of 103 = .ok (.iload_n 1, 1) := by decide +kernel
theorem dX8_of_104 : decode cX8_of 104 = .ok (.iconst 2, 1) := by decide +kernel
theorem dX8_of_105 : decode cX8_of 105 = .ok (.invokevirtual 111, 3) := by decide +kernel
theorem dX8_of_108 : decode cX8_of 108 = .ok (.ireturn, 1) := by decide +kernel
theorem dX8_of_109 : decode cX8_of 109 = .ok (.iload_n 2, 1) := by decide +kernel
theorem dX8_of_110 : decode cX8_of 110 = .ok (.bipush 10, 2) := by decide +kernel
theorem dX8_of_112 : decode cX8_of 112 = .ok (.bipush 12, 2) := by decide +kernel
theorem dX8_of_114 : decode cX8_of 114 = .ok (.invokestatic 77, 3) := by decide +kernel
theorem dX8_of_117 : decode cX8_of 117 = .ok (.ifCond .eq 23, 3) := by decide +kernel
theorem dX8_of_120 : decode cX8_of 120 = .ok (.aload_n 0, 1) := by decide +kernel
theorem dX8_of_121 : decode cX8_of 121 = .ok (.iload_n 1, 1) := by decide +kernel
theorem dX8_of_122 : decode cX8_of 122 = .ok (.invokevirtual 101, 3) := by decide +kernel
theorem dX8_of_125 : decode cX8_of 125 = .ok (.ifCond .eq 15, 3) := by decide +kernel
theorem dX8_of_128 : decode cX8_of 128 = .ok (.aload_n 0, 1) := by decide +kernel
theorem dX8_of_129 : decode cX8_of 129 = .ok (.iload_n 1, 1) := by decide +kernel
theorem dX8_of_130 : decode cX8_of 130 = .ok (.iload_n 2, 1) := by decide +kernel
theorem dX8_of_131 : decode cX8_of 131 = .ok (.bipush 10, 2) := by decide +kernel
theorem dX8_of_133 : decode cX8_of 133 = .ok (.isub, 1) := by decide +kernel
theorem dX8_of_134 : decode cX8_of 134 = .ok (.invokevirtual 114, 3) := by decide +kernel
theorem dX8_of_137 : decode cX8_of 137 = .ok (.goto 6, 3) := by decide +kernel
theorem dX8_of_140 : decode cX8_of 140 = .ok (.sipush (-10001), 3) := by decide +kernel
theorem dX8_of_143 : decode cX8_of 143 = .ok (.ireturn, 1) := by decide +kernel
theorem dX8_cheer_0 : decode cX8_cheer 0 = .ok (.aload_n 0, 1) := by decide +kernel
theorem dX8_cheer_1 : decode cX8_cheer 1 = .ok (.iload_n 1, 1) := by decide +kernel
theorem dX8_cheer_2 : decode cX8_cheer 2 = .ok (.invokevirtual 97, 3) := by decide +kernel
theorem dX8_cheer_5 : decode cX8_cheer 5 = .ok (.ifCond .ne 5, 3) := by decide +kernel
theorem dX8_cheer_8 : decode cX8_cheer 8 = .ok (.iconst (-1), 1) := by decide +kernel
theorem dX8_cheer_9 : decode cX8_cheer 9 = .ok (.ireturn, 1) := by decide +kernel
theorem dX8_cheer_10 : decode cX8_cheer 10 = .ok (.iload_n 2, 1) := by decide +kernel
theorem dX8_cheer_11 : decode cX8_cheer 11 = .ok (.iconst 0, 1) := by decide +kernel
theorem dX8_cheer_12 : decode cX8_cheer 12 = .ok (.bipush 9, 2) := by decide +kernel
theorem dX8_cheer_14 : decode cX8_cheer 14 = .ok (.invokestatic 77, 3) := by decide +kernel
theorem dX8_cheer_17 : decode cX8_cheer 17 = .ok (.ifCond .eq 13, 3) := by decide +kernel
theorem dX8_cheer_20 : decode cX8_cheer 20 = .ok (.aload_n 0, 1) := by decide +kernel
theorem dX8_cheer_21 : decode cX8_cheer 21 = .ok (.iload_n 1, 1) := by decide +kernel
theorem dX8_cheer_22 : decode cX8_cheer 22 = .ok (.iconst 2, 1) := by decide +kernel
theorem dX8_cheer_23 : decode cX8_cheer 23 = .ok (.iload_n 2, 1) := by decide +kernel
theorem dX8_cheer_24 : decode cX8_cheer 24 = .ok (.invokevirtual 89, 3) := by decide +kernel
theorem dX8_cheer_27 : decode cX8_cheer 27 = .ok (.goto 5, 3) := by decide +kernel
theorem dX8_cheer_30 : decode cX8_cheer 30 = .ok (.bipush (-2), 2) := by decide +kernel
theorem dX8_cheer_32 : decode cX8_cheer 32 = .ok (.ireturn, 1) := by decide +kernel
theorem dX8_goSwap_0 : decode cX8_goSwap 0 = .ok (.aload_n 0, 1) := by decide +kernel
theorem dX8_goSwap_1 : decode cX8_goSwap 1 = .ok (.iload_n 1, 1) := by decide +kernel
theorem dX8_goSwap_2 : decode cX8_goSwap 2 = .ok (.invokevirtual 85, 3) := by decide +kernel
theorem dX8_goSwap_5 : decode cX8_goSwap 5 = .ok (.istore_n 3, 1) := by decide +kernel
theorem dX8_goSwap_6 : decode cX8_goSwap 6 = .ok (.aload_n 0, 1) := by decide +kernel
theorem dX8_goSwap_7 : decode cX8_goSwap 7 = .ok (.iload_n 2, 1) := by decide +kernel
theorem dX8_goSwap_8 : decode cX8_goSwap 8 = .ok (.invokevirtual 85, 3) := by decide +kernel
theorem dX8_goSwap_11 : decode cX8_goSwap 11 = .ok (.istore 4, 2) := by decide +kernel
theorem dX8_goSwap_13 : decode cX8_goSwap 13 = .ok (.aload_n 0, 1) := by decide +kernel
theorem dX8_goSwap_14 : decode cX8_goSwap 14 = .ok (.getfield 9, 3) := by decide +kernel
theorem dX8_goSwap_17 : decode cX8_goSwap 17 = .ok (.bipush 42, 2) := by decide +kernel
theorem dX8_goSwap_19 : decode cX8_goSwap 19 = .ok (.iload_n 3, 1) := by decide +kernel
theorem dX8_goSwap_20 : decode cX8_goSwap 20 = .ok (.iadd, 1) := by decide +kernel
theorem dX8_goSwap_21 : decode cX8_goSwap 21 = .ok (.iload_n 2, 1) := by decide +kernel
theorem dX8_goSwap_22 : decode cX8_goSwap 22 = .ok (.iastore, 1) := by decide +kernel
theorem dX8_goSwap_23 : decode cX8_goSwap 23 = .ok (.aload_n 0, 1) := by decide +kernel
theorem dX8_goSwap_24 : decode cX8_goSwap 24 = .ok (.getfield 9, 3) := by decide +kernel
theorem dX8_goSwap_27 : decode cX8_goSwap 27 = .ok (.bipush 42, 2) := by decide +kernel
theorem dX8_goSwap_29 : decode cX8_goSwap 29 = .ok (.iload 4, 2) := by decide +kernel
theorem dX8_goSwap_31 : decode cX8_goSwap 31 = .ok (.iadd, 1) := by decide +kernel
theorem dX8_goSwap_32 : decode cX8_goSwap 32 = .ok (.iload_n 1, 1) := by decide +kernel
theorem dX8_goSwap_33 : decode cX8_goSwap 33 = .ok (.iastore, 1) := by decide +kernel
theorem dX8_goSwap_34 : decode cX8_goSwap 34 = .ok (.return_, 1) := by decide +kernel
theorem dX8_swap_0 : decode cX8_swap 0 = .ok (.aload_n 0, 1) := by decide +kernel
theorem dX8_swap_1 : decode cX8_swap 1 = .ok (.iload_n 1, 1) := by decide +kernel
theorem dX8_swap_2 : decode cX8_swap 2 = .ok (.invokevirtual 97, 3) := by decide +kernel
theorem dX8_swap_5 : decode cX8_swap 5 = .ok (.ifCond .eq 11, 3) := by decide +kernel
theorem dX8_swap_8 : decode cX8_swap 8 = .ok (.aload_n 0, 1) := by decide +kernel
theorem dX8_swap_9 : decode cX8_swap 9 = .ok (.iload_n 2, 1) := by decide +kernel
theorem dX8_swap_10 : decode cX8_swap 10 = .ok (.invokevirtual 97, 3) := by decide +kernel
theorem dX8_swap_13 : decode cX8_swap 13 = .ok (.ifCond .ne 5, 3) := by decide +kernel
theorem dX8_swap_16 : decode cX8_swap 16 = .ok (.iconst (-1), 1) := by decide +kernel
theorem dX8_swap_17 : decode cX8_swap 17 = .ok (.ireturn, 1) := by decide +kernel
theorem dX8_swap_18 : decode cX8_swap 18 = .ok (.iload_n 1, 1) := by decide +kernel
theorem dX8_swap_19 : decode cX8_swap 19 = .ok (.iload_n 2, 1) := by decide +kernel
theorem dX8_swap_20 : decode cX8_swap 20 = .ok (.if_icmp .ne 6, 3) := by decide +kernel
theorem dX8_swap_23 : decode cX8_swap 23 = .ok (.bipush (-2), 2) := by decide +kernel
theorem dX8_swap_25 : decode cX8_swap 25 = .ok (.ireturn, 1) := by decide +kernel
theorem dX8_swap_26 : decode cX8_swap 26 = .ok (.aload_n 0, 1) := by decide +kernel
theorem dX8_swap_27 : decode cX8_swap 27 = .ok (.iload_n 1, 1) := by decide +kernel
theorem dX8_swap_28 : decode cX8_swap 28 = .ok (.invokevirtual 101, 3) := by decide +kernel
theorem dX8_swap_31 : decode cX8_swap 31 = .ok (.ifCond .eq 11, 3) := by decide +kernel
theorem dX8_swap_34 : decode cX8_swap 34 = .ok (.aload_n 0, 1) := by decide +kernel
theorem dX8_swap_35 : decode cX8_swap 35 = .ok (.iload_n 2, 1) := by decide +kernel
theorem dX8_swap_36 : decode cX8_swap 36 = .ok (.invokevirtual 101, 3) := by decide +kernel
theorem dX8_swap_39 : decode cX8_swap 39 = .ok (.ifCond .ne 6, 3) := by decide +kernel
theorem dX8_swap_42 : decode cX8_swap 42 = .ok (.bipush (-3), 2) := by decide +kernel
theorem dX8_swap_44 : decode cX8_swap 44 = .ok (.ireturn, 1) := by decide +kernel
theorem dX8_swap_45 : decode cX8_swap 45 = .ok (.aload_n 0, 1) := by decide +kernel
theorem dX8_swap_46 : decode cX8_swap 46 = .ok (.iload_n 1, 1) := by decide +kernel
theorem dX8_swap_47 : decode cX8_swap 47 = .ok (.iload_n 2, 1) := by decide +kernel
theorem dX8_swap_48 : decode cX8_swap 48 = .ok (.invokevirtual 117, 3) := by decide +kernel
theorem dX8_swap_51 : decode cX8_swap 51 = .ok (.aload_n 0, 1) := by decide +kernel
theorem dX8_swap_52 : decode cX8_swap 52 = .ok (.iload_n 1, 1) := by decide +kernel
theorem dX8_swap_53 : decode cX8_swap 53 = .ok (.invokevirtual 85, 3) := by decide +kernel
theorem dX8_swap_56 : decode cX8_swap 56 = .ok (.ireturn, 1) := by decide +kernel
theorem dX8_again_0 : decode cX8_again 0 = .ok (.aload_n 0, 1) := by decide +kernel
theorem dX8_again_1 : decode cX8_again 1 = .ok (.iload_n 1, 1) := by decide +kernel
theorem dX8_again_2 : decode cX8_again 2 = .ok (.invokevirtual 97, 3) := by decide +kernel
theorem dX8_again_5 : decode cX8_again 5 = .ok (.ifCond .ne 5, 3) := by decide +kernel
theorem dX8_again_8 : decode cX8_again 8 = .ok (.iconst (-1), 1) := by decide +kernel
theorem dX8_again_9 : decode cX8_again 9 = .ok (.ireturn, 1) := by decide +kernel
theorem dX8_again_10 : decode cX8_again 10 = .ok (.aload_n 0, 1) := by decide +kernel
theorem dX8_again_11 : decode cX8_again 11 = .ok (.iload_n 1, 1) := by decide +kernel
theorem dX8_again_12 : decode cX8_again 12 = .ok (.invokevirtual 101, 3) := by decide +kernel
theorem dX8_again_15 : decode cX8_again 15 = .ok (.ifCond .eq 6, 3) := by decide +kernel
theorem dX8_again_18 : decode cX8_again 18 = .ok (.bipush (-3), 2) := by decide +kernel
theorem dX8_again_20 : decode cX8_again 20 = .ok (.ireturn, 1) := by decide +kernel
theorem dX8_again_21 : decode cX8_again 21 = .ok (.aload_n 0, 1) := by decide +kernel
theorem dX8_again_22 : decode cX8_again 22 = .ok (.iload_n 1, 1) := by decide +kernel
theorem dX8_again_23 : decode cX8_again 23 = .ok (.invokevirtual 93, 3) := by decide +kernel
theorem dX8_again_26 : decode cX8_again 26 = .ok (.aload_n 0, 1) := by decide +kernel
theorem dX8_again_27 : decode cX8_again 27 = .ok (.iload_n 1, 1) := by decide +kernel
theorem dX8_again_28 : decode cX8_again 28 = .ok (.invokevirtual 85, 3) := by decide +kernel
theorem dX8_again_31 : decode cX8_again 31 = .ok (.ireturn, 1) := by decide +kernel
theorem dX8_down_0 : decode cX8_down 0 = .ok (.iload_n 1, 1) := by decide +kernel
theorem dX8_down_1 : decode cX8_down 1 = .ok (.iconst 0, 1) := by decide +kernel
theorem dX8_down_2 : decode cX8_down 2 = .ok (.bipush 99, 2) := by decide +kernel
theorem dX8_down_4 : decode cX8_down 4 = .ok (.invokestatic 77, 3) := by decide +kernel
theorem dX8_down_7 : decode cX8_down 7 = .ok (.ifCond .ne 6, 3) := by decide +kernel
theorem dX8_down_10 : decode cX8_down 10 = .ok (.bipush (-2), 2) := by decide +kernel
theorem dX8_down_12 : decode cX8_down 12 = .ok (.ireturn, 1) := by decide +kernel
theorem dX8_down_13 : decode cX8_down 13 = .ok (.aload_n 0, 1) := by decide +kernel
theorem dX8_down_14 : decode cX8_down 14 = .ok (.getfield 9, 3) := by decide +kernel
theorem dX8_down_17 : decode cX8_down 17 = .ok (.bipush 50, 2) := by decide +kernel
theorem dX8_down_19 : decode cX8_down 19 = .ok (.iaload, 1) := by decide +kernel
theorem dX8_down_20 : decode cX8_down 20 = .ok (.istore_n 2, 1) := by decide +kernel
theorem dX8_down_21 : decode cX8_down 21 = .ok (.aload_n 0, 1) := by decide +kernel
theorem dX8_down_22 : decode cX8_down 22 = .ok (.getfield 9, 3) := by decide +kernel
theorem dX8_down_25 : decode cX8_down 25 = .ok (.bipush 50, 2) := by decide +kernel
theorem dX8_down_27 : decode cX8_down 27 = .ok (.iload_n 1, 1) := by decide +kernel
theorem dX8_down_28 : decode cX8_down 28 = .ok (.iastore, 1) := by decide +kernel
theorem dX8_down_29 : decode cX8_down 29 = .ok (.iload_n 2, 1) := by decide +kernel
theorem dX8_down_30 : decode cX8_down 30 = .ok (.ireturn, 1) := by decide +kernel
theorem dX8_row_0 : decode cX8_row 0 = .ok (.aload_n 0, 1) := by decide +kernel
theorem dX8_row_1 : decode cX8_row 1 = .ok (.iload_n 1, 1) := by decide +kernel
theorem dX8_row_2 : decode cX8_row 2 = .ok (.invokevirtual 97, 3) := by decide +kernel
theorem dX8_row_5 : decode cX8_row 5 = .ok (.ifCond .eq 12, 3) := by decide +kernel
theorem dX8_row_8 : decode cX8_row 8 = .ok (.iload_n 2, 1) := by decide +kernel
theorem dX8_row_9 : decode cX8_row 9 = .ok (.iconst 0, 1) := by decide +kernel
theorem dX8_row_10 : decode cX8_row 10 = .ok (.iconst 3, 1) := by decide +kernel
theorem dX8_row_11 : decode cX8_row 11 = .ok (.invokestatic 77, 3) := by decide +kernel
theorem dX8_row_14 : decode cX8_row 14 = .ok (.ifCond .ne 5, 3) := by decide +kernel
theorem dX8_row_17 : decode cX8_row 17 = .ok (.iconst (-1), 1) := by decide +kernel
theorem dX8_row_18 : decode cX8_row 18 = .ok (.ireturn, 1) := by decide +kernel
theorem dX8_row_19 : decode cX8_row 19 = .ok (.iload_n 3, 1) := by decide +kernel
theorem dX8_row_20 : decode cX8_row 20 = .ok (.iconst 0, 1) := by decide +kernel
theorem dX8_row_21 : decode cX8_row 21 = .ok (.bipush 9, 2) := by decide +kernel
theorem dX8_row_23 : decode cX8_row 23 = .ok (.invokestatic 77, 3) := by decide +kernel
theorem dX8_row_26 : decode cX8_row 26 = .ok (.ifCond .ne 6, 3) := by decide +kernel
theorem dX8_row_29 : decode cX8_row 29 = .ok (.bipush (-2), 2) := by decide +kernel
theorem dX8_row_31 : decode cX8_row 31 = .ok (.ireturn, 1) := by decide +kernel
