set_option maxRecDepth 100000 in
theorem ggX6_init_X6_put : GoodIn wsX6_init wsX6_put := goodIn_r _ [18, 5, 19, 20, 21, 22, 23, 24, 25, 26, 27, 28, 29, 30, 31, 32, 33, 34, 35] rfl (by decide +kernel)
set_option maxRecDepth 100000 in
theorem gX6_init_X6_put : GoodIn wsX6_init (wsV RX6 37 RX6 yX6_put wsX6_put) := goodIn_app (goodIn_r _ [14, 15, 16, 17] rfl (by decide +kernel)) ggX6_init_X6_put
theorem dX6_init_0 : decode cX6_init 0 = .ok (.aload_n 0, 1) := by decide +kernel
theorem dX6_init_1 : decode cX6_init 1 = .ok (.invokespecial 1, 3) := by decide +kernel
theorem dX6_init_4 : decode cX6_init 4 = .ok (.aload_n 0, 1) := by decide +kernel
theorem dX6_init_5 : decode cX6_init 5 = .ok (.bipush 50, 2) := by decide +kernel
theorem dX6_init_7 : decode cX6_init 7 = .ok (.newarray .int, 2) := by decide +kernel
theorem dX6_init_9 : decode cX6_init 9 = .ok (.putfield 7, 3) := by decide +kernel
theorem dX6_init_12 : decode cX6_init 12 = .ok (.aload_n 0, 1) := by decide +kernel
theorem dX6_init_13 : decode cX6_init 13 = .ok (.sipush 300, 3) := by decide +kernel
theorem dX6_init_16 : decode cX6_init 16 = .ok (.newarray .int, 2) := by decide +kernel
theorem dX6_init_18 : decode cX6_init 18 = .ok (.putfield 13, 3) := by decide +kernel
theorem dX6_init_21 : decode cX6_init 21 = .ok (.aload_n 0, 1) := by decide +kernel
theorem dX6_init_22 : decode cX6_init 22 = .ok (.bipush 50, 2) := by decide +kernel
theorem dX6_init_24 : decode cX6_init 24 = .ok (.newarray .int, 2) := by decide +kernel
theorem dX6_init_26 : decode cX6_init 26 = .ok (.putfield 16, 3) := by decide +kernel
theorem dX6_init_29 : decode cX6_init 29 = .ok (.aload_n 0, 1) := by decide +kernel
theorem dX6_init_30 : decode cX6_init 30 = .ok (.bipush 50, 2) := by decide +kernel
theorem dX6_init_32 : decode cX6_init 32 = .ok (.newarray .int, 2) := by decide +kernel
theorem dX6_init_34 : decode cX6_init 34 = .ok (.putfield 19, 3) := by decide +kernel
theorem dX6_init_37 : decode cX6_init 37 = .ok (.aload_n 0, 1) := by decide +kernel
theorem dX6_init_38 : decode cX6_init 38 = .ok (.iconst 3, 1) := by decide +kernel
theorem dX6_init_39 : decode cX6_init 39 = .ok (.newarray .int, 2) := by decide +kernel
theorem dX6_init_41 : decode cX6_init 41 = .ok (.putfield 22, 3) := by decide +kernel
theorem dX6_init_44 : decode cX6_init 44 = .ok (.aload_n 0, 1) := by decide +kernel
theorem dX6_init_45 : decode cX6_init 45 = .ok (.bipush 60, 2) := by decide +kernel
theorem dX6_init_47 : decode cX6_init 47 = .ok (.newarray .int, 2) := by decide +kernel
theorem dX6_init_49 : decode cX6_init 49 = .ok (.putfield 25, 3) := by decide +kernel
theorem dX6_init_52 : decode cX6_init 52 = .ok (.aload_n 0, 1) := by decide +kernel
theorem dX6_init_53 : decode cX6_init 53 = .ok (.bipush 24, 2) := by decide +kernel
theorem dX6_init_55 : decode cX6_init 55 = .ok (.newarray .int, 2) := by decide +kernel
theorem dX6_init_57 : decode cX6_init 57 = .ok (.putfield 28, 3) := by decide +kernel
theorem dX6_init_60 : decode cX6_init 60 = .ok (.aload_n 0, 1) := by decide +kernel
theorem dX6_init_61 : decode cX6_init 61 = .ok (.bipush 24, 2) := by decide +kernel
theorem dX6_init_63 : decode cX6_init 63 = .ok (.newarray .int, 2) := by decide +kernel
theorem dX6_init_65 : decode cX6_init 65 = .ok (.putfield 31, 3) := by decide +kernel
theorem dX6_init_68 : decode cX6_init 68 = .ok (.aload_n 0, 1) := by decide +kernel
theorem dX6_init_69 : decode cX6_init 69 = .ok (.bipush 24, 2) := by decide +kernel
theorem dX6_init_71 : decode cX6_init 71 = .ok (.newarray .int, 2) := by decide +kernel
theorem dX6_init_73 : decode cX6_init 73 = .ok (.putfield 34, 3) := by decide +kernel
theorem dX6_init_76 : decode cX6_init 76 = .ok (.aload_n 0, 1) := by decide +kernel
theorem dX6_init_77 : decode cX6_init 77 = .ok (.getfield 7, 3) := by decide +kernel
theorem dX6_init_80 : decode cX6_init 80 = .ok (.iconst 0, 1) := by decide +kernel
theorem dX6_init_81 : decode cX6_init 81 = .ok (.iconst 3, 1) := by decide +kernel
theorem dX6_init_82 : decode cX6_init 82 = .ok (.iastore, 1) := by decide +kernel
theorem dX6_init_83 : decode cX6_init 83 = .ok (.aload_n 0, 1) := by decide +kernel
theorem dX6_init_84 : decode cX6_init 84 = .ok (.getfield 7, 3) := by decide +kernel
theorem dX6_init_87 : decode cX6_init 87 = .ok (.iconst 1, 1) := by decide +kernel
theorem dX6_init_88 : decode cX6_init 88 = .ok (.iconst 2, 1) := by decide +kernel
theorem dX6_init_89 : decode cX6_init 89 = .ok (.iastore, 1) := by decide +kernel
theorem dX6_init_90 : decode cX6_init 90 = .ok (.aload_n 0, 1) := by decide +kernel
theorem dX6_init_91 : decode cX6_init 91 = .ok (.getfield 7, 3) := by decide +kernel
theorem dX6_init_94 : decode cX6_init 94 = .ok (.iconst 2, 1) := by decide +kernel
theorem dX6_init_95 : decode cX6_init 95 = .ok (.bipush 10, 2) := by decide +kernel
theorem dX6_init_97 : decode cX6_init 97 = .ok (.iastore, 1) := by decide +kernel
theorem dX6_init_98 : decode cX6_init 98 = .ok (.aload_n 0, 1) := by decide +kernel
theorem dX6_init_99 : decode cX6_init 99 = .ok (.getfield 7, 3) := by decide +kernel
theorem dX6_init_102 : decode cX6_init 102 = .ok (.iconst 3, 1) := by decide +kernel
theorem dX6_init_103 : decode cX6_init 103 = .ok (.bipush 30, 2) := by decide +kernel
theorem dX6_init_105 : decode cX6_init 105 = .ok (.iastore, 1) := by decide +kernel
theorem dX6_init_106 : decode cX6_init 106 = .ok (.iconst 0, 1) := by decide +kernel
theorem dX6_init_107 : decode cX6_init 107 = .ok (.istore_n 1, 1) := by decide +kernel
theorem dX6_init_108 : decode cX6_init 108 = .ok (.iload_n 1, 1) := by decide +kernel
theorem dX6_init_109 : decode cX6_init 109 = .ok (.iconst 3, 1) := by decide +kernel
theorem dX6_init_110 : decode cX6_init 110 = .ok (.if_icmp .ge 41, 3) := by decide +kernel
theorem dX6_init_113 : decode cX6_init 113 = .ok (.aload_n 0, 1) := by decide +kernel
theorem dX6_init_114 : decode cX6_init 114 = .ok (.iload_n 1, 1) := by decide +kernel
theorem dX6_init_115 : decode cX6_init 115 = .ok (.iconst 0, 1) := by decide +kernel
theorem dX6_init_116 : decode cX6_init 116 = .ok (.sipush 200, 3) := by decide +kernel
theorem dX6_init_119 : decode cX6_init 119 = .ok (.bipush 100, 2) := by decide +kernel
theorem dX6_init_121 : decode cX6_init 121 = .ok (.iload_n 1, 1) := by decide +kernel
theorem dX6_init_122 : decode cX6_init 122 = .ok (.imul, 1) := by decide +kernel
theorem dX6_init_123 : decode cX6_init 123 = .ok (.iadd, 1) := by decide +kernel
theorem dX6_init_124 : decode cX6_init 124 = .ok (.invokevirtual 37, 3) := by decide +kernel
theorem dX6_init_127 : decode cX6_init 127 = .ok (.aload_n 0, 1) := by decide +kernel
theorem dX6_init_128 : decode cX6_init 128 = .ok (.iload_n 1, 1) := by decide +kernel
theorem dX6_init_129 : decode cX6_init 129 = .ok (.iconst 1, 1) := by decide +kernel
theorem dX6_init_130 : decode cX6_init 130 = .ok (.sipush 200, 3) := by decide +kernel
theorem dX6_init_133 : decode cX6_init 133 = .ok (.invokevirtual 37, 3) := by decide +kernel
theorem dX6_init_136 : decode cX6_init 136 = .ok (.aload_n 0, 1) := by decide +kernel
theorem dX6_init_137 : decode cX6_init 137 = .ok (.iload_n 1, 1) := by decide +kernel
theorem dX6_init_138 : decode cX6_init 138 = .ok (.iconst 2, 1) := by decide +kernel
theorem dX6_init_139 : decode cX6_init 139 = .ok (.sipush 5000, 3) := by decide +kernel
theorem dX6_init_142 : decode cX6_init 142 = .ok (.invokevirtual 37, 3) := by decide +kernel
theorem dX6_init_145 : decode cX6_init 145 = .ok (.iinc 1 1, 3) := by decide +kernel
theorem dX6_init_148 : decode cX6_init 148 = .ok (.goto (-40), 3) := by decide +kernel
theorem dX6_init_151 : decode cX6_init 151 = .ok (.iconst 0, 1) := by decide +kernel
theorem dX6_init_152 : decode cX6_init 152 = .ok (.istore_n 1, 1) := by decide +kernel
theorem dX6_init_153 : decode cX6_init 153 = .ok (.iload_n 1, 1) := by decide +kernel
theorem dX6_init_154 : decode cX6_init 154 = .ok (.iconst 4, 1) := by decide +kernel
theorem dX6_init_155 : decode cX6_init 155 = .ok (.if_icmp .ge 23, 3) := by decide +kernel
theorem dX6_init_158 : decode cX6_init 158 = .ok (.aload_n 0, 1) := by decide +kernel
theorem dX6_init_159 : decode cX6_init 159 = .ok (.getfield 7, 3) := by decide +kernel
theorem dX6_init_162 : decode cX6_init 162 = .ok (.bipush 38, 2) := by decide +kernel
theorem dX6_init_164 : decode cX6_init 164 = .ok (.iconst 3, 1) := by decide +kernel
theorem dX6_init_165 : decode cX6_init 165 = .ok (.iload_n 1, 1) := by decide +kernel
theorem dX6_init_166 : decode cX6_init 166 = .ok (.imul, 1) := by decide +kernel
theorem dX6_init_167 : decode cX6_init 167 = .ok (.iadd, 1) := by decide +kernel
theorem dX6_init_168 : decode cX6_init 168 = .ok (.iconst 1, 1) := by decide +kernel
theorem dX6_init_169 : decode cX6_init 169 = .ok (.iadd, 1) := by decide +kernel
theorem dX6_init_170 : decode cX6_init 170 = .ok (.iconst 1, 1) := by decide +kernel
theorem dX6_init_171 : decode cX6_init 171 = .ok (.iastore, 1) := by decide +kernel
theorem dX6_init_172 : decode cX6_init 172 = .ok (.iinc 1 1, 3) := by decide +kernel
theorem dX6_init_175 : decode cX6_init 175 = .ok (.goto (-22), 3) := by decide +kernel
theorem dX6_init_178 : decode cX6_init 178 = .ok (.return_, 1) := by decide +kernel
theorem dX6_thrown_0 : decode cX6_thrown 0 = .ok (.aload_n 0, 1) := by decide +kernel
theorem dX6_thrown_1 : decode cX6_thrown 1 = .ok (.getfield 41, 3) := by decide +kernel
theorem dX6_thrown_4 : decode cX6_thrown 4 = .ok (.ireturn, 1) := by decide +kernel
theorem dX6_fails_0 : decode cX6_fails 0 = .ok (.aload_n 0, 1) := by decide +kernel
theorem dX6_fails_1 : decode cX6_fails 1 = .ok (.iload_n 1, 1) := by decide +kernel
theorem dX6_fails_2 : decode cX6_fails 2 = .ok (.putfield 41, 3) := by decide +kernel
theorem dX6_fails_5 : decode cX6_fails 5 = .ok (.iconst 0, 1) := by decide +kernel
theorem dX6_fails_6 : decode cX6_fails 6 = .ok (.ireturn, 1) := by decide +kernel
theorem dX6_in_0 : decode cX6_in 0 = .ok (.iload_n 0, 1) := by decide +kernel
theorem dX6_in_1 : decode cX6_in 1 = .ok (.iload_n 1, 1) := by decide +kernel
theorem dX6_in_2 : decode cX6_in 2 = .ok (.if_icmp .lt 12, 3) := by decide +kernel
theorem dX6_in_5 : decode cX6_in 5 = .ok (.iload_n 0, 1) := by decide +kernel
theorem dX6_in_6 : decode cX6_in 6 = .ok (.iload_n 2, 1) := by decide +kernel
theorem dX6_in_7 : decode cX6_in 7 = .ok (.if_icmp .gt 7, 3) := by decide +kernel
theorem dX6_in_10 : decode cX6_in 10 = .ok (.iconst 1, 1) := by decide +kernel
theorem dX6_in_11 : decode cX6_in 11 = .ok (.goto 4, 3) := by decide +kernel
theorem dX6_in_14 : decode cX6_in 14 = .ok (.iconst 0, 1) := by decide +kernel
theorem dX6_in_15 : decode cX6_in 15 = .ok (.ireturn, 1) := by decide +kernel
set_option maxRecDepth 100000 in
theorem ggX6_isSet_X6_in : GoodIn wsX6_isSet wsX6_in := goodIn_r _ [4] rfl (by decide +kernel)
set_option maxRecDepth 100000 in
theorem gX6_isSet_X6_in : GoodIn wsX6_isSet (va_wsS RX6 45 yX6_in wsX6_in) := goodIn_app (goodIn_r _ [1, 2, 3] rfl (by decide +kernel)) ggX6_isSet_X6_in
theorem dX6_isSet_0 : decode cX6_isSet 0 = .ok (.iload_n 0, 1) := by decide +kernel
theorem dX6_isSet_1 : decode cX6_isSet 1 = .ok (.iconst 0, 1) := by decide +kernel
theorem dX6_isSet_2 : decode cX6_isSet 2 = .ok (.iconst 2, 1) := by decide +kernel
theorem dX6_isSet_3 : decode cX6_isSet 3 = .ok (.invokestatic 45, 3) := by decide +kernel
theorem dX6_isSet_6 : decode cX6_isSet 6 = .ok (.ireturn, 1) := by decide +kernel
set_option maxRecDepth 100000 in
theorem ggX6_isFeeder_X6_in : GoodIn wsX6_isFeeder wsX6_in := goodIn_r _ [4] rfl (by decide +kernel)
set_option maxRecDepth 100000 in
theorem gX6_isFeeder_X6_in : GoodIn wsX6_isFeeder (va_wsS RX6 45 yX6_in wsX6_in) := goodIn_app (goodIn_r _ [1, 2, 3] rfl (by decide +kernel)) ggX6_isFeeder_X6_in
theorem dX6_isFeeder_0 : decode cX6_isFeeder 0 = .ok (.iload_n 0, 1) := by decide +kernel
theorem dX6_isFeeder_1 : decode cX6_isFeeder 1 = .ok (.iconst 0, 1) := by decide +kernel
theorem dX6_isFeeder_2 : decode cX6_isFeeder 2 = .ok (.iconst 3, 1) := by decide +kernel
theorem dX6_isFeeder_3 : decode cX6_isFeeder 3 = .ok (.invokestatic 45, 3) := by decide +kernel
theorem dX6_isFeeder_6 : decode cX6_isFeeder 6 = .ok (.ireturn, 1) := by decide +kernel
theorem dX6_of_0 : decode cX6_of 0 = .ok (.aload_n 0, 1) := by decide +kernel
theorem dX6_of_1 : decode cX6_of 1 = .ok (.getfield 7, 3) := by decide +kernel
theorem dX6_of_4 : decode cX6_of 4 = .ok (.bipush 8, 2) := by decide +kernel
theorem dX6_of_6 : decode cX6_of 6 = .ok (.bipush 10, 2) := by decide +kernel
theorem dX6_of_8 : decode cX6_of 8 = .ok (.iload_n 1, 1) := by decide +kernel
theorem dX6_of_9 : decode cX6_of 9 = .ok (.imul, 1) := by decide +kernel
theorem dX6_of_10 : decode cX6_of 10 = .ok (.iadd, 1) := by decide +kernel
theorem dX6_of_11 : decode cX6_of 11 = .ok (.iload_n 2, 1) := by decide +kernel
theorem dX6_of_12 : decode cX6_of 12 = .ok (.iadd, 1) := by decide +kernel
theorem dX6_of_13 : decode cX6_of 13 = .ok (.iaload, 1) := by decide +kernel
theorem dX6_of_14 : decode cX6_of 14 = .ok (.ireturn, 1) := by decide +kernel
theorem dX6_put_0 : decode cX6_put 0 = .ok (.aload_n 0, 1) := by decide +kernel
theorem dX6_put_1 : decode cX6_put 1 = .ok (.getfield 7, 3) := by decide +kernel
theorem dX6_put_4 : decode cX6_put 4 = .ok (.bipush 8, 2) := by decide +kernel
theorem dX6_put_6 : decode cX6_put 6 = .ok (.bipush 10, 2) := by decide +kernel
theorem dX6_put_8 : decode cX6_put 8 = .ok (.iload_n 1, 1) := by decide +kernel
theorem dX6_put_9 : decode cX6_put 9 = .ok (.imul, 1) := by decide +kernel
theorem dX6_put_10 : decode cX6_put 10 = .ok (.iadd, 1) := by decide +kernel
theorem dX6_put_11 : decode cX6_put 11 = .ok (.iload_n 2, 1) := by decide +kernel
theorem dX6_put_12 : decode cX6_put 12 = .ok (.iadd, 1) := by decide +kernel
theorem dX6_put_13 : decode cX6_put 13 = .ok (.iload_n 3, 1) := by decide +kernel
theorem dX6_put_14 : decode cX6_put 14 = .ok (.iastore, 1) := by decide +kernel
theorem dX6_put_15 : decode cX6_put 15 = .ok (.return_, 1) := by decide +kernel
theorem dX6_ofLine_0 : decode cX6_ofLine 0 = .ok (.aload_n 0, 1) := by decide +kernel
theorem dX6_ofLine_1 : decode cX6_ofLine 1 = .ok (.getfield 7, 3) := by decide +kernel
theorem dX6_ofLine_4 : decode cX6_ofLine 4 = .ok (.bipush 38, 2) := by decide +kernel
theorem dX6_ofLine_6 : decode cX6_ofLine 6 = .ok (.iconst 3, 1) := by decide +kernel
theorem dX6_ofLine_7 : decode cX6_ofLine 7 = .ok (.iload_n 1, 1) := by decide +kernel
theorem dX6_ofLine_8 : decode cX6_ofLine 8 = .ok (.imul, 1) := by decide +kernel
theorem dX6_ofLine_9 : decode cX6_ofLine 9 = .ok (.iadd, 1) := by decide +kernel
theorem dX6_ofLine_10 : decode cX6_ofLine 10 = .ok (.iload_n 2, 1) := by decide +kernel
theorem dX6_ofLine_11 : decode cX6_ofLine 11 = .ok (.iadd, 1) := by decide +kernel
theorem dX6_ofLine_12 : decode cX6_ofLine 12 = .ok (.iaload, 1) := by decide +kernel
theorem dX6_ofLine_13 : decode cX6_ofLine 13 = .ok (.ireturn, 1) := by decide +kernel
theorem dX6_size_0 : decode cX6_size 0 = .ok (.iload_n 0, 1) := by decide +kernel
theorem dX6_size_1 : decode cX6_size 1 = .ok (.ifCond .ge 8, 3) := by decide +kernel
theorem dX6_size_4 : decode cX6_size 4 = .ok (.iload_n 0, 1) := by decide +kernel
theorem dX6_size_5 : decode cX6_size 5 = .ok (.ineg, 1) := by decide +kernel
theorem dX6_size_6 : decode cX6_size 6 = .ok (.goto 4, 3) := by decide +kernel
theorem dX6_size_9 : decode cX6_size 9 = .ok (.iload_n 0, 1) := by decide +kernel
theorem dX6_size_10 : decode cX6_size 10 = .ok (.ireturn, 1) := by decide +kernel
theorem dX6_save_0 : decode cX6_save 0 = .ok (.aload_n 0, 1) := by decide +kernel
theorem dX6_save_1 : decode cX6_save 1 = .ok (.getfield 49, 3) := by decide +kernel
theorem dX6_save_4 : decode cX6_save 4 = .ok (.bipush 6, 2) := by decide +kernel
theorem dX6_save_6 : decode cX6_save 6 = .ok (.if_icmp .ne 43, 3) := by decide +kernel
theorem dX6_save_9 : decode cX6_save 9 = .ok (.iconst 0, 1) := by decide +kernel
theorem dX6_save_10 : decode cX6_save 10 = .ok (.istore_n 1, 1) := by decide +kernel
theorem dX6_save_11 : decode cX6_save 11 = .ok (.iload_n 1, 1) := by decide +kernel
theorem dX6_save_12 : decode cX6_save 12 = .ok (.sipush 250, 3) := by decide +kernel
theorem dX6_save_15 : decode cX6_save 15 = .ok (.if_icmp .ge 24, 3) := by decide +kernel
theorem dX6_save_18 : decode cX6_save 18 = .ok (.aload_n 0, 1) := by decide +kernel
theorem dX6_save_19 : decode cX6_save 19 = .ok (.getfield 13, 3) := by decide +kernel
theorem dX6_save_22 : decode cX6_save 22 = .ok (.iload_n 1, 1) := by decide +kernel
theorem dX6_save_23 : decode cX6_save 23 = .ok (.aload_n 0, 1) := by decide +kernel
theorem dX6_save_24 : decode cX6_save 24 = .ok (.getfield 13, 3) := by decide +kernel
theorem dX6_save_27 : decode cX6_save 27 = .ok (.iload_n 1, 1) := by decide +kernel
theorem dX6_save_28 : decode cX6_save 28 = .ok (.bipush 50, 2) := by decide +kernel
theorem dX6_save_30 : decode cX6_save 30 = .ok (.iadd, 1) := by decide +kernel
theorem dX6_save_31 : decode cX6_save 31 = .ok (.iaload, 1) := by decide +kernel
theorem dX6_save_32 : decode cX6_save 32 = .ok (.iastore, 1) := by decide +kernel
theorem dX6_save_33 : decode cX6_save 33 = .ok (.iinc 1 1, 3) := by decide +kernel
theorem dX6_save_36 : decode cX6_save 36 = .ok (.goto (-25), 3) := by decide +kernel
theorem dX6_save_39 : decode cX6_save 39 = .ok (.aload_n 0, 1) := by decide +kernel
theorem dX6_save_40 : decode cX6_save 40 = .ok (.dup, 1) := by decide +kernel
theorem dX6_save_41 : decode cX6_save 41 = .ok (.getfield 49, 3) := by decide +kernel
theorem dX6_save_44 : decode cX6_save 44 = .ok (.iconst 1, 1) := by decide +kernel
theorem dX6_save_45 : decode cX6_save 45 = .ok (.isub, 1) := by decide +kernel
theorem dX6_save_46 : decode cX6_save 46 = .ok (.putfield 49, 3) := by decide +kernel
theorem dX6_save_49 : decode cX6_save 49 = .ok (.iconst 0, 1) := by decide +kernel
theorem dX6_save_50 : decode cX6_save 50 = .ok (.istore_n 1, 1) := by decide +kernel
theorem dX6_save_51 : decode cX6_save 51 = .ok (.iload_n 1, 1) := by decide +kernel
theorem dX6_save_52 : decode cX6_save 52 = .ok (.bipush 50, 2) := by decide +kernel
theorem dX6_save_54 : decode cX6_save 54 = .ok (.if_icmp .ge 29, 3) := by decide +kernel
theorem dX6_save_57 : decode cX6_save 57 = .ok (.aload_n 0, 1) := by decide +kernel
theorem dX6_save_58 : decode cX6_save 58 = .ok (.getfield 13, 3) := by decide +kernel
theorem dX6_save_61 : decode cX6_save 61 = .ok (.bipush 50, 2) := by decide +kernel
theorem dX6_save_63 : decode cX6_save 63 = .ok (.aload_n 0, 1) := by decide +kernel
theorem dX6_save_64 : decode cX6_save 64 = .ok (.getfield 49, 3) := by decide +kernel
theorem dX6_save_67 : decode cX6_save 67 = .ok (.imul, 1) := by decide +kernel
theorem dX6_save_68 : decode cX6_save 68 = .ok (.iload_n 1, 1) := by decide +kernel
theorem dX6_save_69 : decode cX6_save 69 = .ok (.iadd, 1) := by decide +kernel
theorem dX6_save_70 : decode cX6_save 70 = .ok (.aload_n 0, 1) := by decide +kernel
theorem dX6_save_71 : decode cX6_save 71 = .ok (.getfield 7, 3) := by decide +kernel
theorem dX6_save_74 : decode cX6_save 74 = .ok (.iload_n 1, 1) := by decide +kernel
theorem dX6_save_75 : decode cX6_save 75 = .ok (.iaload, 1) := by decide +kernel
theorem dX6_save_76 : decode cX6_save 76 = .ok (.iastore, 1) := by decide +kernel
theorem dX6_save_77 : decode cX6_save 77 = .ok (.iinc 1 1, 3) := by decide +kernel
theorem dX6_save_80 : decode cX6_save 80 = .ok (.goto (-29), 3) := by decide +kernel
theorem dX6_save_83 : decode cX6_save 83 = .ok (.aload_n 0, 1) := by decide +kernel
theorem dX6_save_84 : decode cX6_save 84 = .ok (.dup, 1) := by decide +kernel
theorem dX6_save_85 : decode cX6_save 85 = .ok (.getfield 49, 3) := by decide +kernel
theorem dX6_save_88 : decode cX6_save 88 = .ok (.iconst 1, 1) := by decide +kernel
theorem dX6_save_89 : decode cX6_save 89 = .ok (.iadd, 1) := by decide +kernel
theorem dX6_save_90 : decode cX6_save 90 = .ok (.putfield 49, 3) := by decide +kernel
theorem dX6_save_93 : decode cX6_save 93 = .ok (.return_, 1) := by decide +kernel
theorem dX6_putAside_0 : decode cX6_putAside 0 = .ok (.iconst 0, 1) := by decide +kernel
theorem dX6_putAside_1 : decode cX6_putAside 1 = .ok (.istore_n 1, 1) := by decide +kernel
theorem dX6_putAside_2 : decode cX6_putAside 2 = .ok (.iload_n 1, 1) := by decide +kernel
theorem dX6_putAside_3 : decode cX6_putAside 3 = .ok (.bipush 50, 2) := by decide +kernel
theorem dX6_putAside_5 : decode cX6_putAside 5 = .ok (.if_icmp .ge 21, 3) := by decide +kernel
theorem dX6_putAside_8 : decode cX6_putAside 8 = .ok (.aload_n 0, 1) := by decide +kernel
theorem dX6_putAside_9 : decode cX6_putAside 9 = .ok (.getfield 19, 3) := by decide +kernel
theorem dX6_putAside_12 : decode cX6_putAside 12 = .ok (.iload_n 1, 1) := by decide +kernel
theorem dX6_putAside_13 : decode cX6_putAside 13 = .ok (.aload_n 0, 1) := by decide +kernel
theorem dX6_putAside_14 : decode cX6_putAside 14 = .ok (.getfield 7, 3) := by decide +kernel
theorem dX6_putAside_17 : decode cX6_putAside 17 = .ok (.iload_n 1, 1) := by decide +kernel
theorem dX6_putAside_18 : decode cX6_putAside 18 = .ok (.iaload, 1) := by decide +kernel
theorem dX6_putAside_19 : decode cX6_putAside 19 = .ok (.iastore, 1) := by decide +kernel
theorem dX6_putAside_20 : decode cX6_putAside 20 = .ok (.iinc 1 1, 3) := by decide +kernel
theorem dX6_putAside_23 : decode cX6_putAside 23 = .ok (.goto (-21), 3) := by decide +kernel
theorem dX6_putAside_26 : decode cX6_putAside 26 = .ok (.return_, 1) := by decide +kernel
theorem dX6_putBack_0 : decode cX6_putBack 0 = .ok (.iconst 0, 1) := by decide +kernel
theorem dX6_putBack_1 : decode cX6_putBack 1 = .ok (.istore_n 1, 1) := by decide +kernel
theorem dX6_putBack_2 : decode cX6_putBack 2 = .ok (.iload_n 1, 1) := by decide +kernel
theorem dX6_putBack_3 : decode cX6_putBack 3 = .ok (.bipush 50, 2) := by decide +kernel
theorem dX6_putBack_5 : decode cX6_putBack 5 = .ok (.if_icmp .ge 21, 3) := by decide +kernel
theorem dX6_putBack_8 : decode cX6_putBack 8 = .ok (.aload_n 0, 1) := by decide +kernel
theorem dX6_putBack_9 : decode cX6_putBack 9 = .ok (.getfield 7, 3) := by decide +kernel
theorem dX6_putBack_12 : decode cX6_putBack 12 = .ok (.iload_n 1, 1) := by decide +kernel
theorem dX6_putBack_13 : decode cX6_putBack 13 = .ok (.aload_n 0, 1) := by decide +kernel
theorem dX6_putBack_14 : decode cX6_putBack 14 = .ok (.getfield 19, 3) := by decide +kernel
theorem dX6_putBack_17 : decode cX6_putBack 17 = .ok (.iload_n 1, 1) := by decide +kernel
theorem dX6_putBack_18 : decode cX6_putBack 18 = .ok (.iaload, 1) := by decide +kernel
theorem dX6_putBack_19 : decode cX6_putBack 19 = .ok (.iastore, 1) := by decide +kernel
theorem dX6_putBack_20 : decode cX6_putBack 20 = .ok (.iinc 1 1, 3) := by decide +kernel
theorem dX6_putBack_23 : decode cX6_putBack 23 = .ok (.goto (-21), 3) := by decide +kernel
theorem dX6_putBack_26 : decode cX6_putBack 26 = .ok (.return_, 1) := by decide +kernel
set_option maxRecDepth 100000 in
theorem ggX6_sum_X6_of : GoodIn wsX6_sum wsX6_of := goodIn_r _ [5, 6, 7, 8, 9, 10, 11, 12, 13, 14, 15, 16, 17, 18, 19, 20, 21, 22, 23] rfl (by decide +kernel)
set_option maxRecDepth 100000 in
theorem gX6_sum_X6_of : GoodIn wsX6_sum (wsV RX6 52 RX6 yX6_of wsX6_of) := goodIn_app (goodIn_r _ [1, 2, 3, 4] rfl (by decide +kernel)) ggX6_sum_X6_of
theorem dX6_sum_0 : decode cX6_sum 0 = .ok (.aload_n 0, 1) := by decide +kernel
theorem dX6_sum_1 : decode cX6_sum 1 = .ok (.iconst 0, 1) := by decide +kernel
theorem dX6_sum_2 : decode cX6_sum 2 = .ok (.iload_n 1, 1) := by decide +kernel
theorem dX6_sum_3 : decode cX6_sum 3 = .ok (.invokevirtual 52, 3) := by decide +kernel
theorem dX6_sum_6 : decode cX6_sum 6 = .ok (.aload_n 0, 1) := by decide +kernel
theorem dX6_sum_7 : decode cX6_sum 7 = .ok (.iconst 1, 1) := by decide +kernel
theorem dX6_sum_8 : decode cX6_sum 8 = .ok (.iload_n 1, 1) := by decide +kernel
theorem dX6_sum_9 : decode cX6_sum 9 = .ok (.invokevirtual 52, 3) := by decide +kernel
theorem dX6_sum_12 : decode cX6_sum 12 = .ok (.iadd, 1) := by decide +kernel
theorem dX6_sum_13 : decode cX6_sum 13 = .ok (.aload_n 0, 1) := by decide +kernel
theorem dX6_sum_14 : decode cX6_sum 14 = .ok (.iconst 2, 1) := by decide +kernel
theorem dX6_sum_15 : decode cX6_sum 15 = .ok (.iload_n 1, 1) := by decide +kernel
theorem dX6_sum_16 : decode cX6_sum 16 = .ok (.invokevirtual 52, 3) := by decide +kernel
theorem dX6_sum_19 : decode cX6_sum 19 = .ok (.iadd, 1) := by decide +kernel
theorem dX6_sum_20 : decode cX6_sum 20 = .ok (.ireturn, 1) := by decide +kernel
set_option maxRecDepth 100000 in
theorem ggX6_isAlive_X6_sum : GoodIn wsX6_isAlive wsX6_sum := goodIn_r _ [5, 6, 7, 8, 4, 9, 10, 11, 12, 13, 14, 15, 16, 17, 18, 19, 20, 21, 22, 23, 24, 25, 26, 27] rfl (by decide +kernel)
set_option maxRecDepth 100000 in
theorem gX6_isAlive_X6_sum : GoodIn wsX6_isAlive (wsV RX6 56 RX6 yX6_sum wsX6_sum) := goodIn_app (goodIn_r _ [1, 2, 3, 4] rfl (by decide +kernel)) ggX6_isAlive_X6_sum
theorem dX6_isAlive_0 : decode cX6_isAlive 0 = .ok (.aload_n 0, 1) := by decide +kernel
theorem dX6_isAlive_1 : decode cX6_isAlive 1 = .ok (.iconst 4, 1) := by decide +kernel
theorem dX6_isAlive_2 : decode cX6_isAlive 2 = .ok (.invokevirtual 56, 3) := by decide +kernel
theorem dX6_isAlive_5 : decode cX6_isAlive 5 = .ok (.ifCond .le 7, 3) := by decide +kernel
theorem dX6_isAlive_8 : decode cX6_isAlive 8 = .ok (.iconst 1, 1) := by decide +kernel
theorem dX6_isAlive_9 : decode cX6_isAlive 9 = .ok (.goto 4, 3) := by decide +kernel
theorem dX6_isAlive_12 : decode cX6_isAlive 12 = .ok (.iconst 0, 1) := by decide +kernel
theorem dX6_isAlive_13 : decode cX6_isAlive 13 = .ok (.ireturn, 1) := by decide +kernel
set_option maxRecDepth 100000 in
theorem ggX6_load_X6_isAlive : GoodIn wsX6_load wsX6_isAlive := goodIn_r _ [5, 6, 7, 8, 4, 9, 10, 11, 12, 13, 14, 19, 20, 21, 22, 23, 24, 25, 26, 27, 28, 29, 30, 31, 32, 33, 34, 35] rfl (by decide +kernel)
set_option maxRecDepth 100000 in
theorem gX6_load_X6_isAlive : GoodIn wsX6_load (wsV RX6 60 RX6 yX6_isAlive wsX6_isAlive) := goodIn_app (goodIn_r _ [1, 2, 3, 4] rfl (by decide +kernel)) ggX6_load_X6_isAlive
set_option maxRecDepth 100000 in
theorem ggX6_load_X6_ofLine : GoodIn wsX6_load wsX6_ofLine := goodIn_r _ [18, 14, 19, 20, 21, 22, 23, 24, 25, 26, 27, 28, 29, 30, 31, 32, 33, 34, 35] rfl (by decide +kernel)
set_option maxRecDepth 100000 in
theorem gX6_load_X6_ofLine : GoodIn wsX6_load (wsV RX6 64 RX6 yX6_ofLine wsX6_ofLine) := goodIn_app (goodIn_r _ [15, 16, 17, 4] rfl (by decide +kernel)) ggX6_load_X6_ofLine
theorem dX6_load_0 : decode cX6_load 0 = .ok (.iconst 0, 1) := by decide +kernel
theorem dX6_load_1 : decode cX6_load 1 = .ok (.istore_n 1, 1) := by decide +kernel
theorem dX6_load_2 : decode cX6_load 2 = .ok (.iconst 0, 1) := by decide +kernel
theorem dX6_load_3 : decode cX6_load 3 = .ok (.istore_n 2, 1) := by decide +kernel
theorem dX6_load_4 : decode cX6_load 4 = .ok (.iload_n 2, 1) := by decide +kernel
theorem dX6_load_5 : decode cX6_load 5 = .ok (.iconst 4, 1) := by decide +kernel
theorem dX6_load_6 : decode cX6_load 6 = .ok (.if_icmp .ge 39, 3) := by decide +kernel
theorem dX6_load_9 : decode cX6_load 9 = .ok (.aload_n 0, 1) := by decide +kernel
theorem dX6_load_10 : decode cX6_load 10 = .ok (.invokevirtual 60, 3) := by decide +kernel
theorem dX6_load_13 : decode cX6_load 13 = .ok (.ifCond .eq 32, 3) := by decide +kernel
theorem dX6_load_16 : decode cX6_load 16 = .ok (.iload_n 1, 1) := by decide +kernel
theorem dX6_load_17 : decode cX6_load 17 = .ok (.aload_n 0, 1) := by decide +kernel
theorem dX6_load_18 : decode cX6_load 18 = .ok (.iload_n 2, 1) := by decide +kernel
theorem dX6_load_19 : decode cX6_load 19 = .ok (.iconst 1, 1) := by decide +kernel
theorem dX6_load_20 : decode cX6_load 20 = .ok (.invokevirtual 64, 3) := by decide +kernel
theorem dX6_load_23 : decode cX6_load 23 = .ok (.iconst 1, 1) := by decide +kernel
theorem dX6_load_24 : decode cX6_load 24 = .ok (.if_icmp .ne 12, 3) := by decide +kernel
theorem dX6_load_27 : decode cX6_load 27 = .ok (.aload_n 0, 1) := by decide +kernel
theorem dX6_load_28 : decode cX6_load 28 = .ok (.iload_n 2, 1) := by decide +kernel
theorem dX6_load_29 : decode cX6_load 29 = .ok (.iconst 0, 1) := by decide +kernel
theorem dX6_load_30 : decode cX6_load 30 = .ok (.invokevirtual 64, 3) := by decide +kernel
theorem dX6_load_33 : decode cX6_load 33 = .ok (.goto 4, 3) := by decide +kernel
theorem dX6_load_36 : decode cX6_load 36 = .ok (.iconst 0, 1) := by decide +kernel
theorem dX6_load_37 : decode cX6_load 37 = .ok (.iadd, 1) := by decide +kernel
theorem dX6_load_38 : decode cX6_load 38 = .ok (.istore_n 1, 1) := by decide +kernel
theorem dX6_load_39 : decode cX6_load 39 = .ok (.iinc 2 1, 3) := by decide +kernel
theorem dX6_load_42 : decode cX6_load 42 = .ok (.goto (-38), 3) := by decide +kernel
theorem dX6_load_45 : decode cX6_load 45 = .ok (.iload_n 1, 1) := by decide +kernel
theorem dX6_load_46 : decode cX6_load 46 = .ok (.ireturn, 1) := by decide +kernel
set_option maxRecDepth 100000 in
theorem ggX6_given_X6_of : GoodIn wsX6_given wsX6_of := goodIn_r _ [5, 6, 7, 8, 9, 10, 11, 12, 13, 14, 15, 16, 17, 18, 19, 20, 21, 22, 23] rfl (by decide +kernel)
set_option maxRecDepth 100000 in
theorem gX6_given_X6_of : GoodIn wsX6_given (wsV RX6 52 RX6 yX6_of wsX6_of) := goodIn_app (goodIn_r _ [1, 2, 3, 4] rfl (by decide +kernel)) ggX6_given_X6_of
theorem dX6_given_0 : decode cX6_given 0 = .ok (.aload_n 0, 1) := by decide +kernel
theorem dX6_given_1 : decode cX6_given 1 = .ok (.iload_n 1, 1) := by decide +kernel
theorem dX6_given_2 : decode cX6_given 2 = .ok (.iconst 4, 1) := by decide +kernel
theorem dX6_given_3 : decode cX6_given 3 = .ok (.invokevirtual 52, 3) := by decide +kernel
theorem dX6_given_6 : decode cX6_given 6 = .ok (.ifCond .ne 7, 3) := by decide +kernel
theorem dX6_given_9 : decode cX6_given 9 = .ok (.iconst 0, 1) := by decide +kernel
theorem dX6_given_10 : decode cX6_given 10 = .ok (.goto 25, 3) := by decide +kernel
theorem dX6_given_13 : decode cX6_given 13 = .ok (.aload_n 0, 1) := by decide +kernel
theorem dX6_given_14 : decode cX6_given 14 = .ok (.iload_n 1, 1) := by decide +kernel
theorem dX6_given_15 : decode cX6_given 15 = .ok (.iconst 2, 1) := by decide +kernel
theorem dX6_given_16 : decode cX6_given 16 = .ok (.invokevirtual 52, 3) := by decide +kernel
theorem dX6_given_19 : decode cX6_given 19 = .ok (.iload_n 2, 1) := by decide +kernel
theorem dX6_given_20 : decode cX6_given 20 = .ok (.isub, 1) := by decide +kernel
theorem dX6_given_21 : decode cX6_given 21 = .ok (.aload_n 0, 1) := by decide +kernel
theorem dX6_given_22 : decode cX6_given 22 = .ok (.iload_n 1, 1) := by decide +kernel
theorem dX6_given_23 : decode cX6_given 23 = .ok (.iconst 0, 1) := by decide +kernel
theorem dX6_given_24 : decode cX6_given 24 = .ok (.invokevirtual 52, 3) := by decide +kernel
theorem dX6_given_27 : decode cX6_given 27 = .ok (.imul, 1) := by decide +kernel
theorem dX6_given_28 : decode cX6_given 28 = .ok (.aload_n 0, 1) := by decide +kernel
theorem dX6_given_29 : decode cX6_given 29 = .ok (.iload_n 1, 1) := by decide +kernel
theorem dX6_given_30 : decode cX6_given 30 = .ok (.iconst 1, 1) := by decide +kernel
theorem dX6_given_31 : decode cX6_given 31 = .ok (.invokevirtual 52, 3) := by decide +kernel
theorem dX6_given_34 : decode cX6_given 34 = .ok (.idiv, 1) := by decide +kernel
theorem dX6_given_35 : decode cX6_given 35 = .ok (.ireturn, 1) := by decide +kernel
set_option maxRecDepth 100000 in
theorem ggX6_givenByAll_X6_given : GoodIn wsX6_givenByAll wsX6_given := goodIn_r _ [5, 6, 7, 8, 4, 9, 10, 11, 12, 13, 14, 15, 16, 17, 18, 19, 20, 21, 22, 23, 24, 25, 26, 27] rfl (by decide +kernel)
set_option maxRecDepth 100000 in
theorem gX6_givenByAll_X6_given : GoodIn wsX6_givenByAll (wsV RX6 67 RX6 yX6_given wsX6_given) := goodIn_app (goodIn_r _ [1, 2, 3, 4] rfl (by decide +kernel)) ggX6_givenByAll_X6_given
theorem dX6_givenByAll_0 : decode cX6_givenByAll 0 = .ok (.aload_n 0, 1) := by decide +kernel
theorem dX6_givenByAll_1 : decode cX6_givenByAll 1 = .ok (.iconst 0, 1) := by decide +kernel
theorem dX6_givenByAll_2 : decode cX6_givenByAll 2 = .ok (.iload_n 1, 1) := by decide +kernel
theorem dX6_givenByAll_3 : decode cX6_givenByAll 3 = .ok (.invokevirtual 67, 3) := by decide +kernel
theorem dX6_givenByAll_6 : decode cX6_givenByAll 6 = .ok (.aload_n 0, 1) := by decide +kernel
theorem dX6_givenByAll_7 : decode cX6_givenByAll 7 = .ok (.iconst 1, 1) := by decide +kernel
theorem dX6_givenByAll_8 : decode cX6_givenByAll 8 = .ok (.iload_n 1, 1) := by decide +kernel
theorem dX6_givenByAll_9 : decode cX6_givenByAll 9 = .ok (.invokevirtual 67, 3) := by decide +kernel
theorem dX6_givenByAll_12 : decode cX6_givenByAll 12 = .ok (.iadd, 1) := by decide +kernel
theorem dX6_givenByAll_13 : decode cX6_givenByAll 13 = .ok (.aload_n 0, 1) := by decide +kernel
theorem dX6_givenByAll_14 : decode cX6_givenByAll 14 = .ok (.iconst 2, 1) := by decide +kernel
theorem dX6_givenByAll_15 : decode cX6_givenByAll 15 = .ok (.iload_n 1, 1) := by decide +kernel
theorem dX6_givenByAll_16 : decode cX6_givenByAll 16 = .ok (.invokevirtual 67, 3) := by decide +kernel
theorem dX6_givenByAll_19 : decode cX6_givenByAll 19 = .ok (.iadd, 1) := by decide +kernel
theorem dX6_givenByAll_20 : decode cX6_givenByAll 20 = .ok (.ireturn, 1) := by decide +kernel
set_option maxRecDepth 100000 in
theorem ggX6_frequency_X6_isAlive : GoodIn wsX6_frequency wsX6_isAlive := goodIn_r _ [5, 6, 7, 8, 4, 9, 10, 11, 12, 13, 14, 31, 32, 33, 34, 35, 36, 37, 38, 39, 40, 41, 42, 43, 44, 45, 46, 47] rfl (by decide +kernel)
set_option maxRecDepth 100000 in
theorem gX6_frequency_X6_isAlive : GoodIn wsX6_frequency (wsV RX6 60 RX6 yX6_isAlive wsX6_isAlive) := goodIn_app (goodIn_r _ [1, 2, 3, 4] rfl (by decide +kernel)) ggX6_frequency_X6_isAlive
set_option maxRecDepth 100000 in
theorem ggX6_frequency_X6_load : GoodIn wsX6_frequency wsX6_load := goodIn_r _ [18, 1, 2, 3, 4, 5, 6, 7, 8, 9, 10, 11, 12, 13, 14, 19, 20, 21, 22, 31, 32, 33, 34, 35, 36, 37, 38, 39, 40, 41, 42, 43, 44, 45, 46, 47] rfl (by decide +kernel)
set_option maxRecDepth 100000 in
theorem gX6_frequency_X6_load : GoodIn wsX6_frequency (wsV RX6 70 RX6 yX6_load wsX6_load) := goodIn_app (goodIn_r _ [15, 16, 17, 4] rfl (by decide +kernel)) ggX6_frequency_X6_load
set_option maxRecDepth 100000 in
theorem ggX6_frequency_X6_givenByAll : GoodIn wsX6_frequency wsX6_givenByAll := goodIn_r _ [26, 27, 28, 29, 4, 30, 10, 11, 12, 13, 14, 31, 32, 33, 34, 35, 36, 37, 38, 39, 40, 41, 42, 43, 44, 45, 46, 47] rfl (by decide +kernel)
set_option maxRecDepth 100000 in
theorem gX6_frequency_X6_givenByAll : GoodIn wsX6_frequency (wsV RX6 74 RX6 yX6_givenByAll wsX6_givenByAll) := goodIn_app (goodIn_r _ [23, 24, 25, 4] rfl (by decide +kernel)) ggX6_frequency_X6_givenByAll
theorem dX6_frequency_0 : decode cX6_frequency 0 = .ok (.aload_n 0, 1) := by decide +kernel
theorem dX6_frequency_1 : decode cX6_frequency 1 = .ok (.invokevirtual 60, 3) := by decide +kernel
theorem dX6_frequency_4 : decode cX6_frequency 4 = .ok (.ifCond .ne 5, 3) := by decide +kernel
theorem dX6_frequency_7 : decode cX6_frequency 7 = .ok (.iconst 0, 1) := by decide +kernel
theorem dX6_frequency_8 : decode cX6_frequency 8 = .ok (.ireturn, 1) := by decide +kernel
theorem dX6_frequency_9 : decode cX6_frequency 9 = .ok (.sipush 5300, 3) := by decide +kernel
theorem dX6_frequency_12 : decode cX6_frequency 12 = .ok (.istore_n 1, 1) := by decide +kernel
theorem dX6_frequency_13 : decode cX6_frequency 13 = .ok (.aload_n 0, 1) := by decide +kernel
theorem dX6_frequency_14 : decode cX6_frequency 14 = .ok (.invokevirtual 70, 3) := by decide +kernel
theorem dX6_frequency_17 : decode cX6_frequency 17 = .ok (.istore_n 2, 1) := by decide +kernel
theorem dX6_frequency_18 : decode cX6_frequency 18 = .ok (.iload_n 1, 1) := by decide +kernel
theorem dX6_frequency_19 : decode cX6_frequency 19 = .ok (.sipush 4700, 3) := by decide +kernel
theorem dX6_frequency_22 : decode cX6_frequency 22 = .ok (.if_icmp .le 18, 3) := by decide +kernel
theorem dX6_frequency_25 : decode cX6_frequency 25 = .ok (.aload_n 0, 1) := by decide +kernel
theorem dX6_frequency_26 : decode cX6_frequency 26 = .ok (.iload_n 1, 1) := by decide +kernel
theorem dX6_frequency_27 : decode cX6_frequency 27 = .ok (.invokevirtual 74, 3) := by decide +kernel
theorem dX6_frequency_30 : decode cX6_frequency 30 = .ok (.iload_n 2, 1) := by decide +kernel
theorem dX6_frequency_31 : decode cX6_frequency 31 = .ok (.if_icmp .ge 9, 3) := by decide +kernel
theorem dX6_frequency_34 : decode cX6_frequency 34 = .ok (.iinc 1 (-1), 3) := by decide +kernel
theorem dX6_frequency_37 : decode cX6_frequency 37 = .ok (.goto (-19), 3) := by decide +kernel
theorem dX6_frequency_40 : decode cX6_frequency 40 = .ok (.iload_n 1, 1) := by decide +kernel
theorem dX6_frequency_41 : decode cX6_frequency 41 = .ok (.ireturn, 1) := by decide +kernel
set_option maxRecDepth 100000 in
theorem ggX6_find_X6_frequency : GoodIn wsX6_find wsX6_frequency := goodIn_r _ [7, 8, 9, 10, 6, 11, 12, 13, 14, 15, 16, 17, 18, 19, 20, 21, 22, 23, 24, 25, 26, 27, 28, 29, 30, 31, 32, 33, 34, 35, 36, 37, 38, 39, 40, 41, 42, 43, 44, 45, 46, 47, 48, 49, 50, 51, 52, 53] rfl (by decide +kernel)
set_option maxRecDepth 100000 in
theorem gX6_find_X6_frequency : GoodIn wsX6_find (wsV RX6 77 RX6 yX6_frequency wsX6_frequency) := goodIn_app (goodIn_r _ [3, 4, 5, 6] rfl (by decide +kernel)) ggX6_find_X6_frequency
set_option maxRecDepth 100000 in
theorem ggX6_find_X6_load : GoodIn wsX6_find wsX6_load := goodIn_r _ [24, 8, 9, 10, 6, 11, 12, 13, 14, 15, 16, 17, 18, 19, 20, 25, 26, 27, 28, 37, 38, 39, 40, 41, 42, 43, 44, 45, 46, 47, 48, 49, 50, 51, 52, 53] rfl (by decide +kernel)
set_option maxRecDepth 100000 in
theorem gX6_find_X6_load : GoodIn wsX6_find (wsV RX6 70 RX6 yX6_load wsX6_load) := goodIn_app (goodIn_r _ [21, 22, 23, 6] rfl (by decide +kernel)) ggX6_find_X6_load
set_option maxRecDepth 100000 in
theorem ggX6_find_X6_given : GoodIn wsX6_find wsX6_given := goodIn_r _ [36, 16, 17, 18, 6, 19, 20, 37, 38, 39, 40, 41, 42, 43, 44, 45, 46, 47, 48, 49, 50, 51, 52, 53] rfl (by decide +kernel)
set_option maxRecDepth 100000 in
theorem gX6_find_X6_given : GoodIn wsX6_find (wsV RX6 67 RX6 yX6_given wsX6_given) := goodIn_app (goodIn_r _ [33, 34, 35, 6] rfl (by decide +kernel)) ggX6_find_X6_given
set_option maxRecDepth 100000 in
theorem ggX6_find_X6_of : GoodIn wsX6_find wsX6_of := goodIn_r _ [19, 20, 37, 38, 39, 40, 41, 42, 43, 44, 45, 46, 47, 48, 49, 50, 51, 52, 53] rfl (by decide +kernel)
set_option maxRecDepth 100000 in
theorem gX6_find_X6_of : GoodIn wsX6_find (wsV RX6 52 RX6 yX6_of wsX6_of) := goodIn_app (goodIn_r _ [16, 17, 18, 6] rfl (by decide +kernel)) ggX6_find_X6_of
theorem dX6_find_0 : decode cX6_find 0 = .ok (.aload_n 0, 1) := by decide +kernel
theorem dX6_find_1 : decode cX6_find 1 = .ok (.invokevirtual 77, 3) := by decide +kernel
theorem dX6_find_4 : decode cX6_find 4 = .ok (.istore_n 1, 1) := by decide +kernel
theorem dX6_find_5 : decode cX6_find 5 = .ok (.aload_n 0, 1) := by decide +kernel
theorem dX6_find_6 : decode cX6_find 6 = .ok (.invokevirtual 70, 3) := by decide +kernel
theorem dX6_find_9 : decode cX6_find 9 = .ok (.istore_n 2, 1) := by decide +kernel
theorem dX6_find_10 : decode cX6_find 10 = .ok (.iconst (-1), 1) := by decide +kernel
theorem dX6_find_11 : decode cX6_find 11 = .ok (.istore_n 3, 1) := by decide +kernel
theorem dX6_find_12 : decode cX6_find 12 = .ok (.iconst 2, 1) := by decide +kernel
theorem dX6_find_13 : decode cX6_find 13 = .ok (.istore 4, 2) := by decide +kernel
theorem dX6_find_15 : decode cX6_find 15 = .ok (.iload 4, 2) := by decide +kernel
theorem dX6_find_17 : decode cX6_find 17 = .ok (.ifCond .lt 51, 3) := by decide +kernel
theorem dX6_find_20 : decode cX6_find 20 = .ok (.aload_n 0, 1) := by decide +kernel
theorem dX6_find_21 : decode cX6_find 21 = .ok (.getfield 22, 3) := by decide +kernel
theorem dX6_find_24 : decode cX6_find 24 = .ok (.iload 4, 2) := by decide +kernel
theorem dX6_find_26 : decode cX6_find 26 = .ok (.aload_n 0, 1) := by decide +kernel
theorem dX6_find_27 : decode cX6_find 27 = .ok (.iload 4, 2) := by decide +kernel
theorem dX6_find_29 : decode cX6_find 29 = .ok (.iload_n 1, 1) := by decide +kernel
theorem dX6_find_30 : decode cX6_find 30 = .ok (.invokevirtual 67, 3) := by decide +kernel
theorem dX6_find_33 : decode cX6_find 33 = .ok (.iastore, 1) := by decide +kernel
theorem dX6_find_34 : decode cX6_find 34 = .ok (.iload_n 2, 1) := by decide +kernel
theorem dX6_find_35 : decode cX6_find 35 = .ok (.aload_n 0, 1) := by decide +kernel
theorem dX6_find_36 : decode cX6_find 36 = .ok (.getfield 22, 3) := by decide +kernel
theorem dX6_find_39 : decode cX6_find 39 = .ok (.iload 4, 2) := by decide +kernel
theorem dX6_find_41 : decode cX6_find 41 = .ok (.iaload, 1) := by decide +kernel
theorem dX6_find_42 : decode cX6_find 42 = .ok (.isub, 1) := by decide +kernel
theorem dX6_find_43 : decode cX6_find 43 = .ok (.istore_n 2, 1) := by decide +kernel
theorem dX6_find_44 : decode cX6_find 44 = .ok (.aload_n 0, 1) := by decide +kernel
theorem dX6_find_45 : decode cX6_find 45 = .ok (.iload 4, 2) := by decide +kernel
theorem dX6_find_47 : decode cX6_find 47 = .ok (.iconst 4, 1) := by decide +kernel
theorem dX6_find_48 : decode cX6_find 48 = .ok (.invokevirtual 52, 3) := by decide +kernel
theorem dX6_find_51 : decode cX6_find 51 = .ok (.iconst 1, 1) := by decide +kernel
theorem dX6_find_52 : decode cX6_find 52 = .ok (.if_icmp .ne 8, 3) := by decide +kernel
theorem dX6_find_55 : decode cX6_find 55 = .ok (.iload 4, 2) := by decide +kernel
theorem dX6_find_57 : decode cX6_find 57 = .ok (.goto 4, 3) := by decide +kernel
theorem dX6_find_60 : decode cX6_find 60 = .ok (.iload_n 3, 1) := by decide +kernel
theorem dX6_find_61 : decode cX6_find 61 = .ok (.istore_n 3, 1) := by decide +kernel
theorem dX6_find_62 : decode cX6_find 62 = .ok (.iinc 4 (-1), 3) := by decide +kernel
theorem dX6_find_65 : decode cX6_find 65 = .ok (.goto (-50), 3) := by decide +kernel
theorem dX6_find_68 : decode cX6_find 68 = .ok (.aload_n 0, 1) := by decide +kernel
theorem dX6_find_69 : decode cX6_find 69 = .ok (.iload_n 2, 1) := by decide +kernel
theorem dX6_find_70 : decode cX6_find 70 = .ok (.ifCond .le 7, 3) := by decide +kernel
theorem dX6_find_73 : decode cX6_find 73 = .ok (.iload_n 2, 1) := by decide +kernel
theorem dX6_find_74 : decode cX6_find 74 = .ok (.goto 4, 3) := by decide +kernel
theorem dX6_find_77 : decode cX6_find 77 = .ok (.iconst 0, 1) := by decide +kernel
theorem dX6_find_78 : decode cX6_find 78 = .ok (.putfield 80, 3) := by decide +kernel
theorem dX6_find_81 : decode cX6_find 81 = .ok (.iload_n 2, 1) := by decide +kernel
theorem dX6_find_82 : decode cX6_find 82 = .ok (.ifCond .ge 13, 3) := by decide +kernel
theorem dX6_find_85 : decode cX6_find 85 = .ok (.aload_n 0, 1) := by decide +kernel
theorem dX6_find_86 : decode cX6_find 86 = .ok (.getfield 22, 3) := by decide +kernel
theorem dX6_find_89 : decode cX6_find 89 = .ok (.iload_n 3, 1) := by decide +kernel
theorem dX6_find_90 : decode cX6_find 90 = .ok (.dup2, 1) := by decide +kernel
theorem dX6_find_91 : decode cX6_find 91 = .ok (.iaload, 1) := by decide +kernel
theorem dX6_find_92 : decode cX6_find 92 = .ok (.iload_n 2, 1) := by decide +kernel
theorem dX6_find_93 : decode cX6_find 93 = .ok (.iadd, 1) := by decide +kernel
theorem dX6_find_94 : decode cX6_find 94 = .ok (.iastore, 1) := by decide +kernel
theorem dX6_find_95 : decode cX6_find 95 = .ok (.return_, 1) := by decide +kernel
set_option maxRecDepth 100000 in
theorem ggX6_power_X6_find : GoodIn wsX6_power wsX6_find := goodIn_r _ [6, 1, 7, 8, 9, 10, 5, 11, 12, 13, 14, 15, 16, 17, 18, 19, 20, 21, 22, 23, 24, 25, 26, 27, 28, 29, 30, 31, 32, 33, 34, 35, 36, 37, 38, 39, 40, 41, 42, 43, 44, 45, 46, 47, 48, 49, 50, 51, 52, 53, 54, 55, 56, 57] rfl (by decide +kernel)
set_option maxRecDepth 100000 in
theorem gX6_power_X6_find : GoodIn wsX6_power (wsV RX6 83 RX6 yX6_find wsX6_find) := goodIn_app (goodIn_r _ [2, 3, 4, 5] rfl (by decide +kernel)) ggX6_power_X6_find
theorem dX6_power_0 : decode cX6_power 0 = .ok (.aload_n 0, 1) := by decide +kernel
theorem dX6_power_1 : decode cX6_power 1 = .ok (.invokevirtual 83, 3) := by decide +kernel
theorem dX6_power_4 : decode cX6_power 4 = .ok (.aload_n 0, 1) := by decide +kernel
theorem dX6_power_5 : decode cX6_power 5 = .ok (.getfield 22, 3) := by decide +kernel
theorem dX6_power_8 : decode cX6_power 8 = .ok (.iload_n 1, 1) := by decide +kernel
theorem dX6_power_9 : decode cX6_power 9 = .ok (.iaload, 1) := by decide +kernel
theorem dX6_power_10 : decode cX6_power 10 = .ok (.ireturn, 1) := by decide +kernel
theorem dX6_lamps_0 : decode cX6_lamps 0 = .ok (.iload_n 0, 1) := by decide +kernel
theorem dX6_lamps_1 : decode cX6_lamps 1 = .ok (.sipush 1000, 3) := by decide +kernel
theorem dX6_lamps_4 : decode cX6_lamps 4 = .ok (.iload_n 0, 1) := by decide +kernel
theorem dX6_lamps_5 : decode cX6_lamps 5 = .ok (.isub, 1) := by decide +kernel
theorem dX6_lamps_6 : decode cX6_lamps 6 = .ok (.if_icmp .ge 7, 3) := by decide +kernel
theorem dX6_lamps_9 : decode cX6_lamps 9 = .ok (.iload_n 0, 1) := by decide +kernel
theorem dX6_lamps_10 : decode cX6_lamps 10 = .ok (.goto 8, 3) := by decide +kernel
theorem dX6_lamps_13 : decode cX6_lamps 13 = .ok (.sipush 1000, 3) := by decide +kernel
theorem dX6_lamps_16 : decode cX6_lamps 16 = .ok (.iload_n 0, 1) := by decide +kernel
theorem dX6_lamps_17 : decode cX6_lamps 17 = .ok (.isub, 1) := by decide +kernel
theorem dX6_lamps_18 : decode cX6_lamps 18 = .ok (.ireturn, 1) := by decide +kernel
set_option maxRecDepth 100000 in
theorem ggX6_reason_X6_of : GoodIn wsX6_reason wsX6_of := goodIn_r _ [6, 1, 41, 42, 43, 44, 45, 46, 47, 48, 49, 50, 51, 52, 53, 54, 55, 56, 57] rfl (by decide +kernel)
set_option maxRecDepth 100000 in
theorem gX6_reason_X6_of : GoodIn wsX6_reason (wsV RX6 52 RX6 yX6_of wsX6_of) := goodIn_app (goodIn_r _ [2, 3, 4, 5] rfl (by decide +kernel)) ggX6_reason_X6_of
set_option maxRecDepth 100000 in
theorem ggX6_reason_X6_isAlive : GoodIn wsX6_reason wsX6_isAlive := goodIn_r _ [10, 11, 12, 13, 5, 14, 2, 3, 4, 6, 1, 41, 42, 43, 44, 45, 46, 47, 48, 49, 50, 51, 52, 53, 54, 55, 56, 57] rfl (by decide +kernel)
set_option maxRecDepth 100000 in
theorem gX6_reason_X6_isAlive : GoodIn wsX6_reason (wsV RX6 60 RX6 yX6_isAlive wsX6_isAlive) := goodIn_app (goodIn_r _ [7, 8, 9, 5] rfl (by decide +kernel)) ggX6_reason_X6_isAlive
set_option maxRecDepth 100000 in
theorem ggX6_reason_X6_frequency : GoodIn wsX6_reason wsX6_frequency := goodIn_r _ [18, 7, 8, 9, 5, 10, 11, 12, 13, 14, 2, 3, 4, 6, 1, 19, 20, 21, 22, 23, 24, 25, 26, 27, 28, 29, 30, 31, 32, 33, 34, 41, 42, 43, 44, 45, 46, 47, 48, 49, 50, 51, 52, 53, 54, 55, 56, 57] rfl (by decide +kernel)
set_option maxRecDepth 100000 in
theorem gX6_reason_X6_frequency : GoodIn wsX6_reason (wsV RX6 77 RX6 yX6_frequency wsX6_frequency) := goodIn_app (goodIn_r _ [15, 16, 17, 5] rfl (by decide +kernel)) ggX6_reason_X6_frequency
set_option maxRecDepth 100000 in
theorem ggX6_reason_X6_size : GoodIn wsX6_reason wsX6_size := goodIn_r _ [37] rfl (by decide +kernel)
set_option maxRecDepth 100000 in
theorem gX6_reason_X6_size : GoodIn wsX6_reason (va_wsS RX6 86 yX6_size wsX6_size) := goodIn_app (goodIn_r _ [35, 36, 5] rfl (by decide +kernel)) ggX6_reason_X6_size
set_option maxRecDepth 100000 in
theorem ggX6_reason_X6_lamps : GoodIn wsX6_reason wsX6_lamps := goodIn_r _ [40] rfl (by decide +kernel)
set_option maxRecDepth 100000 in
theorem gX6_reason_X6_lamps : GoodIn wsX6_reason (va_wsS RX6 89 yX6_lamps wsX6_lamps) := goodIn_app (goodIn_r _ [38, 39, 5] rfl (by decide +kernel)) ggX6_reason_X6_lamps
theorem dX6_reason_0 : decode cX6_reason 0 = .ok (.aload_n 0, 1) := by decide +kernel
theorem dX6_reason_1 : decode cX6_reason 1 = .ok (.iload_n 1, 1) := by decide +kernel
theorem dX6_reason_2 : decode cX6_reason 2 = .ok (.iconst 3, 1) := by decide +kernel
theorem dX6_reason_3 : decode cX6_reason 3 = .ok (.invokevirtual 52, 3) := by decide +kernel
theorem dX6_reason_6 : decode cX6_reason 6 = .ok (.ifCond .ne 5, 3) := by decide +kernel
theorem dX6_reason_9 : decode cX6_reason 9 = .ok (.iconst 1, 1) := by decide +kernel
theorem dX6_reason_10 : decode cX6_reason 10 = .ok (.ireturn, 1) := by decide +kernel
theorem dX6_reason_11 : decode cX6_reason 11 = .ok (.aload_n 0, 1) := by decide +kernel
theorem dX6_reason_12 : decode cX6_reason 12 = .ok (.iload_n 1, 1) := by decide +kernel
theorem dX6_reason_13 : decode cX6_reason 13 = .ok (.iconst 4, 1) := by decide +kernel
theorem dX6_reason_14 : decode cX6_reason 14 = .ok (.invokevirtual 52, 3) := by decide +kernel
theorem dX6_reason_17 : decode cX6_reason 17 = .ok (.iconst 1, 1) := by decide +kernel
theorem dX6_reason_18 : decode cX6_reason 18 = .ok (.if_icmp .ne 5, 3) := by decide +kernel
theorem dX6_reason_21 : decode cX6_reason 21 = .ok (.iconst 2, 1) := by decide +kernel
theorem dX6_reason_22 : decode cX6_reason 22 = .ok (.ireturn, 1) := by decide +kernel
theorem dX6_reason_23 : decode cX6_reason 23 = .ok (.aload_n 0, 1) := by decide +kernel
theorem dX6_reason_24 : decode cX6_reason 24 = .ok (.invokevirtual 60, 3) := by decide +kernel
theorem dX6_reason_27 : decode cX6_reason 27 = .ok (.ifCond .eq 28, 3) := by decide +kernel
theorem dX6_reason_30 : decode cX6_reason 30 = .ok (.aload_n 0, 1) := by decide +kernel
theorem dX6_reason_31 : decode cX6_reason 31 = .ok (.iload_n 1, 1) := by decide +kernel
theorem dX6_reason_32 : decode cX6_reason 32 = .ok (.iconst 2, 1) := by decide +kernel
theorem dX6_reason_33 : decode cX6_reason 33 = .ok (.invokevirtual 52, 3) := by decide +kernel
theorem dX6_reason_36 : decode cX6_reason 36 = .ok (.aload_n 0, 1) := by decide +kernel
theorem dX6_reason_37 : decode cX6_reason 37 = .ok (.invokevirtual 77, 3) := by decide +kernel
theorem dX6_reason_40 : decode cX6_reason 40 = .ok (.isub, 1) := by decide +kernel
theorem dX6_reason_41 : decode cX6_reason 41 = .ok (.invokestatic 86, 3) := by decide +kernel
theorem dX6_reason_44 : decode cX6_reason 44 = .ok (.aload_n 0, 1) := by decide +kernel
theorem dX6_reason_45 : decode cX6_reason 45 = .ok (.getfield 7, 3) := by decide +kernel
theorem dX6_reason_48 : decode cX6_reason 48 = .ok (.iconst 2, 1) := by decide +kernel
theorem dX6_reason_49 : decode cX6_reason 49 = .ok (.iaload, 1) := by decide +kernel
theorem dX6_reason_50 : decode cX6_reason 50 = .ok (.if_icmp .le 5, 3) := by decide +kernel
theorem dX6_reason_53 : decode cX6_reason 53 = .ok (.iconst 3, 1) := by decide +kernel
theorem dX6_reason_54 : decode cX6_reason 54 = .ok (.ireturn, 1) := by decide +kernel
theorem dX6_reason_55 : decode cX6_reason 55 = .ok (.aload_n 0, 1) := by decide +kernel
theorem dX6_reason_56 : decode cX6_reason 56 = .ok (.invokevirtual 60, 3) := by decide +kernel
theorem dX6_reason_59 : decode cX6_reason 59 = .ok (.ifCond .eq 25, 3) := by decide +kernel
theorem dX6_reason_62 : decode cX6_reason 62 = .ok (.aload_n 0, 1) := by decide +kernel
theorem dX6_reason_63 : decode cX6_reason 63 = .ok (.iload_n 1, 1) := by decide +kernel
theorem dX6_reason_64 : decode cX6_reason 64 = .ok (.iconst 5, 1) := by decide +kernel
theorem dX6_reason_65 : decode cX6_reason 65 = .ok (.invokevirtual 52, 3) := by decide +kernel
theorem dX6_reason_68 : decode cX6_reason 68 = .ok (.invokestatic 89, 3) := by decide +kernel
theorem dX6_reason_71 : decode cX6_reason 71 = .ok (.aload_n 0, 1) := by decide +kernel
theorem dX6_reason_72 : decode cX6_reason 72 = .ok (.getfield 7, 3) := by decide +kernel
theorem dX6_reason_75 : decode cX6_reason 75 = .ok (.iconst 3, 1) := by decide +kernel
theorem dX6_reason_76 : decode cX6_reason 76 = .ok (.iaload, 1) := by decide +kernel
theorem dX6_reason_77 : decode cX6_reason 77 = .ok (.if_icmp .le 7, 3) := by decide +kernel
theorem dX6_reason_80 : decode cX6_reason 80 = .ok (.iconst 4, 1) := by decide +kernel
theorem dX6_reason_81 : decode cX6_reason 81 = .ok (.goto 4, 3) := by decide +kernel
theorem dX6_reason_84 : decode cX6_reason 84 = .ok (.iconst 0, 1) := by decide +kernel
theorem dX6_reason_85 : decode cX6_reason 85 = .ok (.ireturn, 1) := by decide +kernel
set_option maxRecDepth 100000 in
theorem ggX6_rest_X6_put : GoodIn wsX6_rest wsX6_put := goodIn_r _ [5, 6, 7, 8, 9, 10, 11, 12, 13, 14, 15, 16, 17, 18, 19, 20, 21, 22, 23] rfl (by decide +kernel)
set_option maxRecDepth 100000 in
theorem gX6_rest_X6_put : GoodIn wsX6_rest (wsV RX6 37 RX6 yX6_put wsX6_put) := goodIn_app (goodIn_r _ [1, 2, 3, 4] rfl (by decide +kernel)) ggX6_rest_X6_put
theorem dX6_rest_0 : decode cX6_rest 0 = .ok (.aload_n 0, 1) := by decide +kernel
theorem dX6_rest_1 : decode cX6_rest 1 = .ok (.iload_n 1, 1) := by decide +kernel
theorem dX6_rest_2 : decode cX6_rest 2 = .ok (.iconst 5, 1) := by decide +kernel
theorem dX6_rest_3 : decode cX6_rest 3 = .ok (.iconst 0, 1) := by decide +kernel
theorem dX6_rest_4 : decode cX6_rest 4 = .ok (.invokevirtual 37, 3) := by decide +kernel
theorem dX6_rest_7 : decode cX6_rest 7 = .ok (.aload_n 0, 1) := by decide +kernel
theorem dX6_rest_8 : decode cX6_rest 8 = .ok (.iload_n 1, 1) := by decide +kernel
theorem dX6_rest_9 : decode cX6_rest 9 = .ok (.bipush 6, 2) := by decide +kernel
theorem dX6_rest_11 : decode cX6_rest 11 = .ok (.iconst 0, 1) := by decide +kernel
theorem dX6_rest_12 : decode cX6_rest 12 = .ok (.invokevirtual 37, 3) := by decide +kernel
theorem dX6_rest_15 : decode cX6_rest 15 = .ok (.aload_n 0, 1) := by decide +kernel
theorem dX6_rest_16 : decode cX6_rest 16 = .ok (.iload_n 1, 1) := by decide +kernel
theorem dX6_rest_17 : decode cX6_rest 17 = .ok (.bipush 7, 2) := by decide +kernel
theorem dX6_rest_19 : decode cX6_rest 19 = .ok (.iconst 0, 1) := by decide +kernel
theorem dX6_rest_20 : decode cX6_rest 20 = .ok (.invokevirtual 37, 3) := by decide +kernel
theorem dX6_rest_23 : decode cX6_rest 23 = .ok (.return_, 1) := by decide +kernel
set_option maxRecDepth 100000 in
theorem ggX6_turn_X6_of : GoodIn wsX6_turn wsX6_of := goodIn_r _ [5, 6, 11, 12, 13, 14, 15, 16, 17, 18, 19, 20, 21, 22, 23, 24, 25, 26, 27] rfl (by decide +kernel)
set_option maxRecDepth 100000 in
theorem gX6_turn_X6_of : GoodIn wsX6_turn (wsV RX6 52 RX6 yX6_of wsX6_of) := goodIn_app (goodIn_r _ [1, 2, 3, 4] rfl (by decide +kernel)) ggX6_turn_X6_of
set_option maxRecDepth 100000 in
theorem ggX6_turn_X6_put : GoodIn wsX6_turn wsX6_put := goodIn_r _ [10, 6, 11, 12, 13, 14, 15, 16, 17, 18, 19, 20, 21, 22, 23, 24, 25, 26, 27] rfl (by decide +kernel)
set_option maxRecDepth 100000 in
theorem gX6_turn_X6_put : GoodIn wsX6_turn (wsV RX6 37 RX6 yX6_put wsX6_put) := goodIn_app (goodIn_r _ [7, 8, 9, 4] rfl (by decide +kernel)) ggX6_turn_X6_put
theorem dX6_turn_0 : decode cX6_turn 0 = .ok (.aload_n 0, 1) := by decide +kernel
theorem dX6_turn_1 : decode cX6_turn 1 = .ok (.iload_n 1, 1) := by decide +kernel
theorem dX6_turn_2 : decode cX6_turn 2 = .ok (.iconst 5, 1) := by decide +kernel
theorem dX6_turn_3 : decode cX6_turn 3 = .ok (.invokevirtual 52, 3) := by decide +kernel
theorem dX6_turn_6 : decode cX6_turn 6 = .ok (.aload_n 0, 1) := by decide +kernel
theorem dX6_turn_7 : decode cX6_turn 7 = .ok (.iload_n 1, 1) := by decide +kernel
theorem dX6_turn_8 : decode cX6_turn 8 = .ok (.iconst 2, 1) := by decide +kernel
theorem dX6_turn_9 : decode cX6_turn 9 = .ok (.invokevirtual 52, 3) := by decide +kernel
theorem dX6_turn_12 : decode cX6_turn 12 = .ok (.iadd, 1) := by decide +kernel
theorem dX6_turn_13 : decode cX6_turn 13 = .ok (.iload_n 2, 1) := by decide +kernel
theorem dX6_turn_14 : decode cX6_turn 14 = .ok (.isub, 1) := by decide +kernel
theorem dX6_turn_15 : decode cX6_turn 15 = .ok (.sipush 1000, 3) := by decide +kernel
theorem dX6_turn_18 : decode cX6_turn 18 = .ok (.irem, 1) := by decide +kernel
theorem dX6_turn_19 : decode cX6_turn 19 = .ok (.istore_n 3, 1) := by decide +kernel
theorem dX6_turn_20 : decode cX6_turn 20 = .ok (.aload_n 0, 1) := by decide +kernel
theorem dX6_turn_21 : decode cX6_turn 21 = .ok (.iload_n 1, 1) := by decide +kernel
theorem dX6_turn_22 : decode cX6_turn 22 = .ok (.iconst 5, 1) := by decide +kernel
theorem dX6_turn_23 : decode cX6_turn 23 = .ok (.iload_n 3, 1) := by decide +kernel
theorem dX6_turn_24 : decode cX6_turn 24 = .ok (.ifCond .ge 11, 3) := by decide +kernel
theorem dX6_turn_27 : decode cX6_turn 27 = .ok (.iload_n 3, 1) := by decide +kernel
theorem dX6_turn_28 : decode cX6_turn 28 = .ok (.sipush 1000, 3) := by decide +kernel
theorem dX6_turn_31 : decode cX6_turn 31 = .ok (.iadd, 1) := by decide +kernel
theorem dX6_turn_32 : decode cX6_turn 32 = .ok (.goto 4, 3) := by decide +kernel
theorem dX6_turn_35 : decode cX6_turn 35 = .ok (.iload_n 3, 1) := by decide +kernel
theorem dX6_turn_36 : decode cX6_turn 36 = .ok (.invokevirtual 37, 3) := by decide +kernel
theorem dX6_turn_39 : decode cX6_turn 39 = .ok (.return_, 1) := by decide +kernel
set_option maxRecDepth 100000 in
theorem ggX6_watch_X6_of : GoodIn wsX6_watch wsX6_of := goodIn_r _ [6, 7, 12, 13, 14, 15, 16, 17, 18, 19, 20, 21, 22, 23, 24, 25, 26, 27, 28] rfl (by decide +kernel)
set_option maxRecDepth 100000 in
theorem gX6_watch_X6_of : GoodIn wsX6_watch (wsV RX6 52 RX6 yX6_of wsX6_of) := goodIn_app (goodIn_r _ [2, 3, 4, 5] rfl (by decide +kernel)) ggX6_watch_X6_of
set_option maxRecDepth 100000 in
theorem ggX6_watch_X6_put : GoodIn wsX6_watch wsX6_put := goodIn_r _ [11, 7, 12, 13, 14, 15, 16, 17, 18, 19, 20, 21, 22, 23, 24, 25, 26, 27, 28] rfl (by decide +kernel)
set_option maxRecDepth 100000 in
theorem gX6_watch_X6_put : GoodIn wsX6_watch (wsV RX6 37 RX6 yX6_put wsX6_put) := goodIn_app (goodIn_r _ [8, 9, 10, 5] rfl (by decide +kernel)) ggX6_watch_X6_put
theorem dX6_watch_0 : decode cX6_watch 0 = .ok (.aload_n 0, 1) := by decide +kernel
theorem dX6_watch_1 : decode cX6_watch 1 = .ok (.iload_n 1, 1) := by decide +kernel
theorem dX6_watch_2 : decode cX6_watch 2 = .ok (.iconst 0, 1) := by decide +kernel
theorem dX6_watch_3 : decode cX6_watch 3 = .ok (.invokevirtual 52, 3) := by decide +kernel
theorem dX6_watch_6 : decode cX6_watch 6 = .ok (.istore_n 2, 1) := by decide +kernel
theorem dX6_watch_7 : decode cX6_watch 7 = .ok (.aload_n 0, 1) := by decide +kernel
theorem dX6_watch_8 : decode cX6_watch 8 = .ok (.iload_n 1, 1) := by decide +kernel
theorem dX6_watch_9 : decode cX6_watch 9 = .ok (.bipush 6, 2) := by decide +kernel
theorem dX6_watch_11 : decode cX6_watch 11 = .ok (.aload_n 0, 1) := by decide +kernel
theorem dX6_watch_12 : decode cX6_watch 12 = .ok (.getfield 22, 3) := by decide +kernel
theorem dX6_watch_15 : decode cX6_watch 15 = .ok (.iload_n 1, 1) := by decide +kernel
theorem dX6_watch_16 : decode cX6_watch 16 = .ok (.iaload, 1) := by decide +kernel
theorem dX6_watch_17 : decode cX6_watch 17 = .ok (.iload_n 2, 1) := by decide +kernel
theorem dX6_watch_18 : decode cX6_watch 18 = .ok (.iload_n 2, 1) := by decide +kernel
theorem dX6_watch_19 : decode cX6_watch 19 = .ok (.bipush 10, 2) := by decide +kernel
theorem dX6_watch_21 : decode cX6_watch 21 = .ok (.idiv, 1) := by decide +kernel
theorem dX6_watch_22 : decode cX6_watch 22 = .ok (.iadd, 1) := by decide +kernel
theorem dX6_watch_23 : decode cX6_watch 23 = .ok (.if_icmp .le 15, 3) := by decide +kernel
theorem dX6_watch_26 : decode cX6_watch 26 = .ok (.aload_n 0, 1) := by decide +kernel
theorem dX6_watch_27 : decode cX6_watch 27 = .ok (.iload_n 1, 1) := by decide +kernel
theorem dX6_watch_28 : decode cX6_watch 28 = .ok (.bipush 6, 2) := by decide +kernel
theorem dX6_watch_30 : decode cX6_watch 30 = .ok (.invokevirtual 52, 3) := by decide +kernel
theorem dX6_watch_33 : decode cX6_watch 33 = .ok (.iconst 1, 1) := by decide +kernel
theorem dX6_watch_34 : decode cX6_watch 34 = .ok (.iadd, 1) := by decide +kernel
theorem dX6_watch_35 : decode cX6_watch 35 = .ok (.goto 4, 3) := by decide +kernel
theorem dX6_watch_38 : decode cX6_watch 38 = .ok (.iconst 0, 1) := by decide +kernel
theorem dX6_watch_39 : decode cX6_watch 39 = .ok (.invokevirtual 37, 3) := by decide +kernel
theorem dX6_watch_42 : decode cX6_watch 42 = .ok (.aload_n 0, 1) := by decide +kernel
theorem dX6_watch_43 : decode cX6_watch 43 = .ok (.iload_n 1, 1) := by decide +kernel
theorem dX6_watch_44 : decode cX6_watch 44 = .ok (.bipush 7, 2) := by decide +kernel
theorem dX6_watch_46 : decode cX6_watch 46 = .ok (.aload_n 0, 1) := by decide +kernel
theorem dX6_watch_47 : decode cX6_watch 47 = .ok (.getfield 22, 3) := by decide +kernel
theorem dX6_watch_50 : decode cX6_watch 50 = .ok (.iload_n 1, 1) := by decide +kernel
theorem dX6_watch_51 : decode cX6_watch 51 = .ok (.iaload, 1) := by decide +kernel
theorem dX6_watch_52 : decode cX6_watch 52 = .ok (.iload_n 2, 1) := by decide +kernel
theorem dX6_watch_53 : decode cX6_watch 53 = .ok (.bipush 20, 2) := by decide +kernel
theorem dX6_watch_55 : decode cX6_watch 55 = .ok (.idiv, 1) := by decide +kernel
theorem dX6_watch_56 : decode cX6_watch 56 = .ok (.ineg, 1) := by decide +kernel
theorem dX6_watch_57 : decode cX6_watch 57 = .ok (.if_icmp .ge 15, 3) := by decide +kernel
theorem dX6_watch_60 : decode cX6_watch 60 = .ok (.aload_n 0, 1) := by decide +kernel
theorem dX6_watch_61 : decode cX6_watch 61 = .ok (.iload_n 1, 1) := by decide +kernel
theorem dX6_watch_62 : decode cX6_watch 62 = .ok (.bipush 7, 2) := by decide +kernel
theorem dX6_watch_64 : decode cX6_watch 64 = .ok (.invokevirtual 52, 3) := by decide +kernel
theorem dX6_watch_67 : decode cX6_watch 67 = .ok (.iconst 1, 1) := by decide +kernel
theorem dX6_watch_68 : decode cX6_watch 68 = .ok (.iadd, 1) := by decide +kernel
theorem dX6_watch_69 : decode cX6_watch 69 = .ok (.goto 4, 3) := by decide +kernel
theorem dX6_watch_72 : decode cX6_watch 72 = .ok (.iconst 0, 1) := by decide +kernel
theorem dX6_watch_73 : decode cX6_watch 73 = .ok (.invokevirtual 37, 3) := by decide +kernel
theorem dX6_watch_76 : decode cX6_watch 76 = .ok (.return_, 1) := by decide +kernel
set_option maxRecDepth 100000 in
theorem ggX6_shed_X6_ofLine : GoodIn wsX6_shed wsX6_ofLine := goodIn_r _ [6, 1, 7, 8, 9, 10, 11, 12, 13, 14, 15, 16, 17, 18, 19, 20, 21, 22, 23] rfl (by decide +kernel)
set_option maxRecDepth 100000 in
theorem gX6_shed_X6_ofLine : GoodIn wsX6_shed (wsV RX6 64 RX6 yX6_ofLine wsX6_ofLine) := goodIn_app (goodIn_r _ [2, 3, 4, 5] rfl (by decide +kernel)) ggX6_shed_X6_ofLine
theorem dX6_shed_0 : decode cX6_shed 0 = .ok (.iconst (-1), 1) := by decide +kernel
theorem dX6_shed_1 : decode cX6_shed 1 = .ok (.istore_n 1, 1) := by decide +kernel
theorem dX6_shed_2 : decode cX6_shed 2 = .ok (.iconst 0, 1) := by decide +kernel
theorem dX6_shed_3 : decode cX6_shed 3 = .ok (.istore_n 2, 1) := by decide +kernel
theorem dX6_shed_4 : decode cX6_shed 4 = .ok (.iload_n 2, 1) := by decide +kernel
theorem dX6_shed_5 : decode cX6_shed 5 = .ok (.iconst 4, 1) := by decide +kernel
theorem dX6_shed_6 : decode cX6_shed 6 = .ok (.if_icmp .ge 34, 3) := by decide +kernel
theorem dX6_shed_9 : decode cX6_shed 9 = .ok (.aload_n 0, 1) := by decide +kernel
theorem dX6_shed_10 : decode cX6_shed 10 = .ok (.iload_n 2, 1) := by decide +kernel
theorem dX6_shed_11 : decode cX6_shed 11 = .ok (.iconst 1, 1) := by decide +kernel
theorem dX6_shed_12 : decode cX6_shed 12 = .ok (.invokevirtual 64, 3) := by decide +kernel
theorem dX6_shed_15 : decode cX6_shed 15 = .ok (.iconst 1, 1) := by decide +kernel
theorem dX6_shed_16 : decode cX6_shed 16 = .ok (.if_icmp .ne 16, 3) := by decide +kernel
theorem dX6_shed_19 : decode cX6_shed 19 = .ok (.aload_n 0, 1) := by decide +kernel
theorem dX6_shed_20 : decode cX6_shed 20 = .ok (.iload_n 2, 1) := by decide +kernel
theorem dX6_shed_21 : decode cX6_shed 21 = .ok (.iconst 0, 1) := by decide +kernel
theorem dX6_shed_22 : decode cX6_shed 22 = .ok (.invokevirtual 64, 3) := by decide +kernel
theorem dX6_shed_25 : decode cX6_shed 25 = .ok (.ifCond .le 7, 3) := by decide +kernel
theorem dX6_shed_28 : decode cX6_shed 28 = .ok (.iload_n 2, 1) := by decide +kernel
theorem dX6_shed_29 : decode cX6_shed 29 = .ok (.goto 4, 3) := by decide +kernel
theorem dX6_shed_32 : decode cX6_shed 32 = .ok (.iload_n 1, 1) := by decide +kernel
theorem dX6_shed_33 : decode cX6_shed 33 = .ok (.istore_n 1, 1) := by decide +kernel
theorem dX6_shed_34 : decode cX6_shed 34 = .ok (.iinc 2 1, 3) := by decide +kernel
theorem dX6_shed_37 : decode cX6_shed 37 = .ok (.goto (-33), 3) := by decide +kernel
theorem dX6_shed_40 : decode cX6_shed 40 = .ok (.iload_n 1, 1) := by decide +kernel
theorem dX6_shed_41 : decode cX6_shed 41 = .ok (.iconst (-1), 1) := by decide +kernel
theorem dX6_shed_42 : decode cX6_shed 42 = .ok (.if_icmp .eq 45, 3) := by decide +kernel
theorem dX6_shed_45 : decode cX6_shed 45 = .ok (.aload_n 0, 1) := by decide +kernel
theorem dX6_shed_46 : decode cX6_shed 46 = .ok (.getfield 7, 3) := by decide +kernel
theorem dX6_shed_49 : decode cX6_shed 49 = .ok (.bipush 38, 2) := by decide +kernel
theorem dX6_shed_51 : decode cX6_shed 51 = .ok (.iconst 3, 1) := by decide +kernel
theorem dX6_shed_52 : decode cX6_shed 52 = .ok (.iload_n 1, 1) := by decide +kernel
theorem dX6_shed_53 : decode cX6_shed 53 = .ok (.imul, 1) := by decide +kernel
theorem dX6_shed_54 : decode cX6_shed 54 = .ok (.iadd, 1) := by decide +kernel
theorem dX6_shed_55 : decode cX6_shed 55 = .ok (.iconst 1, 1) := by decide +kernel
theorem dX6_shed_56 : decode cX6_shed 56 = .ok (.iadd, 1) := by decide +kernel
theorem dX6_shed_57 : decode cX6_shed 57 = .ok (.iconst 0, 1) := by decide +kernel
theorem dX6_shed_58 : decode cX6_shed 58 = .ok (.iastore, 1) := by decide +kernel
theorem dX6_shed_59 : decode cX6_shed 59 = .ok (.aload_n 0, 1) := by decide +kernel
theorem dX6_shed_60 : decode cX6_shed 60 = .ok (.getfield 7, 3) := by decide +kernel
theorem dX6_shed_63 : decode cX6_shed 63 = .ok (.bipush 38, 2) := by decide +kernel
theorem dX6_shed_65 : decode cX6_shed 65 = .ok (.iconst 3, 1) := by decide +kernel
theorem dX6_shed_66 : decode cX6_shed 66 = .ok (.iload_n 1, 1) := by decide +kernel
theorem dX6_shed_67 : decode cX6_shed 67 = .ok (.imul, 1) := by decide +kernel
theorem dX6_shed_68 : decode cX6_shed 68 = .ok (.iadd, 1) := by decide +kernel
theorem dX6_shed_69 : decode cX6_shed 69 = .ok (.iconst 2, 1) := by decide +kernel
theorem dX6_shed_70 : decode cX6_shed 70 = .ok (.iadd, 1) := by decide +kernel
theorem dX6_shed_71 : decode cX6_shed 71 = .ok (.dup2, 1) := by decide +kernel
theorem dX6_shed_72 : decode cX6_shed 72 = .ok (.iaload, 1) := by decide +kernel
theorem dX6_shed_73 : decode cX6_shed 73 = .ok (.iconst 1, 1) := by decide +kernel
theorem dX6_shed_74 : decode cX6_shed 74 = .ok (.iadd, 1) := by decide +kernel
theorem dX6_shed_75 : decode cX6_shed 75 = .ok (.iastore, 1) := by decide +kernel
theorem dX6_shed_76 : decode cX6_shed 76 = .ok (.aload_n 0, 1) := by decide +kernel
theorem dX6_shed_77 : decode cX6_shed 77 = .ok (.getfield 7, 3) := by decide +kernel
theorem dX6_shed_80 : decode cX6_shed 80 = .ok (.bipush 6, 2) := by decide +kernel
theorem dX6_shed_82 : decode cX6_shed 82 = .ok (.dup2, 1) := by decide +kernel
theorem dX6_shed_83 : decode cX6_shed 83 = .ok (.iaload, 1) := by decide +kernel
theorem dX6_shed_84 : decode cX6_shed 84 = .ok (.iconst 1, 1) := by decide +kernel
theorem dX6_shed_85 : decode cX6_shed 85 = .ok (.iadd, 1) := by decide +kernel
theorem dX6_shed_86 : decode cX6_shed 86 = .ok (.iastore, 1) := by decide +kernel
theorem dX6_shed_87 : decode cX6_shed 87 = .ok (.return_, 1) := by decide +kernel
set_option maxRecDepth 100000 in
theorem ggX6_trip_X6_of : GoodIn wsX6_trip wsX6_of := goodIn_r _ [6, 1, 15, 16, 17, 18, 19, 20, 21, 22, 23, 24, 25, 26, 27, 28, 29, 30, 31] rfl (by decide +kernel)
set_option maxRecDepth 100000 in
theorem gX6_trip_X6_of : GoodIn wsX6_trip (wsV RX6 52 RX6 yX6_of wsX6_of) := goodIn_app (goodIn_r _ [2, 3, 4, 5] rfl (by decide +kernel)) ggX6_trip_X6_of
set_option maxRecDepth 100000 in
theorem ggX6_trip_X6_put : GoodIn wsX6_trip wsX6_put := goodIn_r _ [10, 1, 15, 16, 17, 18, 19, 20, 21, 22, 23, 24, 25, 26, 27, 28, 29, 30, 31] rfl (by decide +kernel)
set_option maxRecDepth 100000 in
theorem gX6_trip_X6_put : GoodIn wsX6_trip (wsV RX6 37 RX6 yX6_put wsX6_put) := goodIn_app (goodIn_r _ [7, 8, 9, 5] rfl (by decide +kernel)) ggX6_trip_X6_put
set_option maxRecDepth 100000 in
theorem ggX6_trip_X6_rest : GoodIn wsX6_trip wsX6_rest := goodIn_r _ [14, 7, 8, 9, 5, 10, 1, 15, 16, 17, 18, 19, 20, 21, 22, 23, 24, 25, 26, 27, 28, 29, 30, 31] rfl (by decide +kernel)
set_option maxRecDepth 100000 in
theorem gX6_trip_X6_rest : GoodIn wsX6_trip (wsV RX6 92 RX6 yX6_rest wsX6_rest) := goodIn_app (goodIn_r _ [11, 12, 13, 5] rfl (by decide +kernel)) ggX6_trip_X6_rest
theorem dX6_trip_0 : decode cX6_trip 0 = .ok (.iconst 0, 1) := by decide +kernel
theorem dX6_trip_1 : decode cX6_trip 1 = .ok (.istore_n 1, 1) := by decide +kernel
theorem dX6_trip_2 : decode cX6_trip 2 = .ok (.iconst 0, 1) := by decide +kernel
theorem dX6_trip_3 : decode cX6_trip 3 = .ok (.istore_n 2, 1) := by decide +kernel
theorem dX6_trip_4 : decode cX6_trip 4 = .ok (.iload_n 2, 1) := by decide +kernel
theorem dX6_trip_5 : decode cX6_trip 5 = .ok (.iconst 3, 1) := by decide +kernel
theorem dX6_trip_6 : decode cX6_trip 6 = .ok (.if_icmp .ge 82, 3) := by decide +kernel
theorem dX6_trip_9 : decode cX6_trip 9 = .ok (.aload_n 0, 1) := by decide +kernel
theorem dX6_trip_10 : decode cX6_trip 10 = .ok (.iload_n 2, 1) := by decide +kernel
theorem dX6_trip_11 : decode cX6_trip 11 = .ok (.iconst 4, 1) := by decide +kernel
theorem dX6_trip_12 : decode cX6_trip 12 = .ok (.invokevirtual 52, 3) := by decide +kernel
theorem dX6_trip_15 : decode cX6_trip 15 = .ok (.iconst 1, 1) := by decide +kernel
theorem dX6_trip_16 : decode cX6_trip 16 = .ok (.if_icmp .ne 66, 3) := by decide +kernel
theorem dX6_trip_19 : decode cX6_trip 19 = .ok (.aload_n 0, 1) := by decide +kernel
theorem dX6_trip_20 : decode cX6_trip 20 = .ok (.iload_n 2, 1) := by decide +kernel
theorem dX6_trip_21 : decode cX6_trip 21 = .ok (.bipush 6, 2) := by decide +kernel
theorem dX6_trip_23 : decode cX6_trip 23 = .ok (.invokevirtual 52, 3) := by decide +kernel
theorem dX6_trip_26 : decode cX6_trip 26 = .ok (.aload_n 0, 1) := by decide +kernel
theorem dX6_trip_27 : decode cX6_trip 27 = .ok (.getfield 7, 3) := by decide +kernel
theorem dX6_trip_30 : decode cX6_trip 30 = .ok (.iconst 0, 1) := by decide +kernel
theorem dX6_trip_31 : decode cX6_trip 31 = .ok (.iaload, 1) := by decide +kernel
theorem dX6_trip_32 : decode cX6_trip 32 = .ok (.if_icmp .ge 19, 3) := by decide +kernel
theorem dX6_trip_35 : decode cX6_trip 35 = .ok (.aload_n 0, 1) := by decide +kernel
theorem dX6_trip_36 : decode cX6_trip 36 = .ok (.iload_n 2, 1) := by decide +kernel
theorem dX6_trip_37 : decode cX6_trip 37 = .ok (.bipush 7, 2) := by decide +kernel
theorem dX6_trip_39 : decode cX6_trip 39 = .ok (.invokevirtual 52, 3) := by decide +kernel
theorem dX6_trip_42 : decode cX6_trip 42 = .ok (.aload_n 0, 1) := by decide +kernel
theorem dX6_trip_43 : decode cX6_trip 43 = .ok (.getfield 7, 3) := by decide +kernel
theorem dX6_trip_46 : decode cX6_trip 46 = .ok (.iconst 1, 1) := by decide +kernel
theorem dX6_trip_47 : decode cX6_trip 47 = .ok (.iaload, 1) := by decide +kernel
theorem dX6_trip_48 : decode cX6_trip 48 = .ok (.if_icmp .lt 34, 3) := by decide +kernel
theorem dX6_trip_51 : decode cX6_trip 51 = .ok (.aload_n 0, 1) := by decide +kernel
theorem dX6_trip_52 : decode cX6_trip 52 = .ok (.iload_n 2, 1) := by decide +kernel
theorem dX6_trip_53 : decode cX6_trip 53 = .ok (.iconst 4, 1) := by decide +kernel
theorem dX6_trip_54 : decode cX6_trip 54 = .ok (.iconst 0, 1) := by decide +kernel
theorem dX6_trip_55 : decode cX6_trip 55 = .ok (.invokevirtual 37, 3) := by decide +kernel
theorem dX6_trip_58 : decode cX6_trip 58 = .ok (.aload_n 0, 1) := by decide +kernel
theorem dX6_trip_59 : decode cX6_trip 59 = .ok (.iload_n 2, 1) := by decide +kernel
theorem dX6_trip_60 : decode cX6_trip 60 = .ok (.bipush 9, 2) := by decide +kernel
theorem dX6_trip_62 : decode cX6_trip 62 = .ok (.aload_n 0, 1) := by decide +kernel
theorem dX6_trip_63 : decode cX6_trip 63 = .ok (.iload_n 2, 1) := by decide +kernel
theorem dX6_trip_64 : decode cX6_trip 64 = .ok (.bipush 9, 2) := by decide +kernel
theorem dX6_trip_66 : decode cX6_trip 66 = .ok (.invokevirtual 52, 3) := by decide +kernel
theorem dX6_trip_69 : decode cX6_trip 69 = .ok (.iconst 1, 1) := by decide +kernel
theorem dX6_trip_70 : decode cX6_trip 70 = .ok (.iadd, 1) := by decide +kernel
theorem dX6_trip_71 : decode cX6_trip 71 = .ok (.invokevirtual 37, 3) := by decide +kernel
theorem dX6_trip_74 : decode cX6_trip 74 = .ok (.aload_n 0, 1) := by decide +kernel
theorem dX6_trip_75 : decode cX6_trip 75 = .ok (.iload_n 2, 1) := by decide +kernel
theorem dX6_trip_76 : decode cX6_trip 76 = .ok (.invokevirtual 92, 3) := by decide +kernel
theorem dX6_trip_79 : decode cX6_trip 79 = .ok (.iinc 1 1, 3) := by decide +kernel
theorem dX6_trip_82 : decode cX6_trip 82 = .ok (.iinc 2 1, 3) := by decide +kernel
theorem dX6_trip_85 : decode cX6_trip 85 = .ok (.goto (-81), 3) := by decide +kernel
theorem dX6_trip_88 : decode cX6_trip 88 = .ok (.aload_n 0, 1) := by decide +kernel
theorem dX6_trip_89 : decode cX6_trip 89 = .ok (.getfield 7, 3) := by decide +kernel
theorem dX6_trip_92 : decode cX6_trip 92 = .ok (.iconst 5, 1) := by decide +kernel
theorem dX6_trip_93 : decode cX6_trip 93 = .ok (.dup2, 1) := by decide +kernel
theorem dX6_trip_94 : decode cX6_trip 94 = .ok (.iaload, 1) := by decide +kernel
theorem dX6_trip_95 : decode cX6_trip 95 = .ok (.iload_n 1, 1) := by decide +kernel
theorem dX6_trip_96 : decode cX6_trip 96 = .ok (.iadd, 1) := by decide +kernel
theorem dX6_trip_97 : decode cX6_trip 97 = .ok (.iastore, 1) := by decide +kernel
theorem dX6_trip_98 : decode cX6_trip 98 = .ok (.iload_n 1, 1) := by decide +kernel
theorem dX6_trip_99 : decode cX6_trip 99 = .ok (.ireturn, 1) := by decide +kernel
set_option maxRecDepth 100000 in
theorem ggX6_tick_X6_frequency : GoodIn wsX6_tick wsX6_frequency := goodIn_r _ [8, 9, 10, 11, 7, 12, 13, 14, 15, 16, 17, 18, 19, 20, 1, 21, 22, 23, 24, 25, 26, 27, 28, 29, 30, 31, 32, 33, 34, 35, 36, 65, 66, 67, 68, 69, 70, 71, 72, 73, 74, 75, 76, 77, 78, 79, 80, 81] rfl (by decide +kernel)
set_option maxRecDepth 100000 in
theorem gX6_tick_X6_frequency : GoodIn wsX6_tick (wsV RX6 77 RX6 yX6_frequency wsX6_frequency) := goodIn_app (goodIn_r _ [4, 5, 6, 7] rfl (by decide +kernel)) ggX6_tick_X6_frequency
set_option maxRecDepth 100000 in
theorem ggX6_tick_X6_isAlive : GoodIn wsX6_tick wsX6_isAlive := goodIn_r _ [12, 13, 14, 15, 7, 16, 17, 18, 19, 20, 1, 65, 66, 67, 68, 69, 70, 71, 72, 73, 74, 75, 76, 77, 78, 79, 80, 81] rfl (by decide +kernel)
set_option maxRecDepth 100000 in
theorem gX6_tick_X6_isAlive : GoodIn wsX6_tick (wsV RX6 60 RX6 yX6_isAlive wsX6_isAlive) := goodIn_app (goodIn_r _ [9, 10, 11, 7] rfl (by decide +kernel)) ggX6_tick_X6_isAlive
set_option maxRecDepth 100000 in
theorem ggX6_tick_X6_find : GoodIn wsX6_tick wsX6_find := goodIn_r _ [40, 3, 2, 4, 5, 6, 7, 8, 9, 10, 11, 12, 13, 14, 15, 16, 17, 18, 19, 20, 1, 21, 22, 23, 24, 25, 26, 27, 28, 29, 30, 31, 32, 33, 34, 35, 36, 65, 66, 67, 68, 69, 70, 71, 72, 73, 74, 75, 76, 77, 78, 79, 80, 81] rfl (by decide +kernel)
set_option maxRecDepth 100000 in
theorem gX6_tick_X6_find : GoodIn wsX6_tick (wsV RX6 83 RX6 yX6_find wsX6_find) := goodIn_app (goodIn_r _ [37, 38, 39, 7] rfl (by decide +kernel)) ggX6_tick_X6_find
set_option maxRecDepth 100000 in
theorem ggX6_tick_X6_load : GoodIn wsX6_tick wsX6_load := goodIn_r _ [24, 9, 10, 11, 7, 12, 13, 14, 15, 16, 17, 18, 19, 20, 1, 25, 26, 27, 28, 65, 66, 67, 68, 69, 70, 71, 72, 73, 74, 75, 76, 77, 78, 79, 80, 81] rfl (by decide +kernel)
set_option maxRecDepth 100000 in
theorem gX6_tick_X6_load : GoodIn wsX6_tick (wsV RX6 70 RX6 yX6_load wsX6_load) := goodIn_app (goodIn_r _ [21, 22, 23, 7] rfl (by decide +kernel)) ggX6_tick_X6_load
set_option maxRecDepth 100000 in
theorem ggX6_tick_X6_of : GoodIn wsX6_tick wsX6_of := goodIn_r _ [20, 1, 65, 66, 67, 68, 69, 70, 71, 72, 73, 74, 75, 76, 77, 78, 79, 80, 81] rfl (by decide +kernel)
set_option maxRecDepth 100000 in
theorem gX6_tick_X6_of : GoodIn wsX6_tick (wsV RX6 52 RX6 yX6_of wsX6_of) := goodIn_app (goodIn_r _ [17, 18, 19, 7] rfl (by decide +kernel)) ggX6_tick_X6_of
set_option maxRecDepth 100000 in
theorem ggX6_tick_X6_put : GoodIn wsX6_tick wsX6_put := goodIn_r _ [44, 1, 65, 66, 67, 68, 69, 70, 71, 72, 73, 74, 75, 76, 77, 78, 79, 80, 81] rfl (by decide +kernel)
set_option maxRecDepth 100000 in
theorem gX6_tick_X6_put : GoodIn wsX6_tick (wsV RX6 37 RX6 yX6_put wsX6_put) := goodIn_app (goodIn_r _ [41, 42, 43, 7] rfl (by decide +kernel)) ggX6_tick_X6_put
set_option maxRecDepth 100000 in
theorem ggX6_tick_X6_watch : GoodIn wsX6_tick wsX6_watch := goodIn_r _ [48, 3, 17, 18, 19, 7, 20, 1, 41, 42, 43, 44, 65, 66, 67, 68, 69, 70, 71, 72, 73, 74, 75, 76, 77, 78, 79, 80, 81] rfl (by decide +kernel)
set_option maxRecDepth 100000 in
theorem gX6_tick_X6_watch : GoodIn wsX6_tick (wsV RX6 96 RX6 yX6_watch wsX6_watch) := goodIn_app (goodIn_r _ [45, 46, 47, 7] rfl (by decide +kernel)) ggX6_tick_X6_watch
set_option maxRecDepth 100000 in
theorem ggX6_tick_X6_turn : GoodIn wsX6_tick wsX6_turn := goodIn_r _ [52, 17, 18, 19, 7, 20, 1, 41, 42, 43, 44, 65, 66, 67, 68, 69, 70, 71, 72, 73, 74, 75, 76, 77, 78, 79, 80, 81] rfl (by decide +kernel)
set_option maxRecDepth 100000 in
theorem gX6_tick_X6_turn : GoodIn wsX6_tick (wsV RX6 99 RX6 yX6_turn wsX6_turn) := goodIn_app (goodIn_r _ [49, 50, 51, 7] rfl (by decide +kernel)) ggX6_tick_X6_turn
set_option maxRecDepth 100000 in
theorem ggX6_tick_X6_shed : GoodIn wsX6_tick wsX6_shed := goodIn_r _ [56, 1, 25, 26, 27, 7, 28, 65, 66, 67, 68, 69, 70, 71, 72, 73, 74, 75, 76, 77, 78, 79, 80, 81] rfl (by decide +kernel)
set_option maxRecDepth 100000 in
theorem gX6_tick_X6_shed : GoodIn wsX6_tick (wsV RX6 103 RX6 yX6_shed wsX6_shed) := goodIn_app (goodIn_r _ [53, 54, 55, 7] rfl (by decide +kernel)) ggX6_tick_X6_shed
set_option maxRecDepth 100000 in
theorem ggX6_tick_X6_trip : GoodIn wsX6_tick wsX6_trip := goodIn_r _ [60, 1, 17, 18, 19, 7, 20, 41, 42, 43, 44, 61, 62, 63, 64, 65, 66, 67, 68, 69, 70, 71, 72, 73, 74, 75, 76, 77, 78, 79, 80, 81] rfl (by decide +kernel)
set_option maxRecDepth 100000 in
theorem gX6_tick_X6_trip : GoodIn wsX6_tick (wsV RX6 106 RX6 yX6_trip wsX6_trip) := goodIn_app (goodIn_r _ [57, 58, 59, 7] rfl (by decide +kernel)) ggX6_tick_X6_trip
theorem dX6_tick_0 : decode cX6_tick 0 = .ok (.aload_n 0, 1) := by decide +kernel
theorem dX6_tick_1 : decode cX6_tick 1 = .ok (.invokevirtual 77, 3) := by decide +kernel
theorem dX6_tick_4 : decode cX6_tick 4 = .ok (.istore_n 1, 1) := by decide +kernel
theorem dX6_tick_5 : decode cX6_tick 5 = .ok (.aload_n 0, 1) := by decide +kernel
theorem dX6_tick_6 : decode cX6_tick 6 = .ok (.invokevirtual 60, 3) := by decide +kernel
theorem dX6_tick_9 : decode cX6_tick 9 = .ok (.istore_n 2, 1) := by decide +kernel
theorem dX6_tick_10 : decode cX6_tick 10 = .ok (.aload_n 0, 1) := by decide +kernel
theorem dX6_tick_11 : decode cX6_tick 11 = .ok (.invokevirtual 83, 3) := by decide +kernel
theorem dX6_tick_14 : decode cX6_tick 14 = .ok (.aload_n 0, 1) := by decide +kernel
theorem dX6_tick_15 : decode cX6_tick 15 = .ok (.getfield 7, 3) := by decide +kernel
theorem dX6_tick_18 : decode cX6_tick 18 = .ok (.iconst 4, 1) := by decide +kernel
theorem dX6_tick_19 : decode cX6_tick 19 = .ok (.dup2, 1) := by decide +kernel
theorem dX6_tick_20 : decode cX6_tick 20 = .ok (.iaload, 1) := by decide +kernel
theorem dX6_tick_21 : decode cX6_tick 21 = .ok (.iconst 1, 1) := by decide +kernel
theorem dX6_tick_22 : decode cX6_tick 22 = .ok (.iadd, 1) := by decide +kernel
theorem dX6_tick_23 : decode cX6_tick 23 = .ok (.iastore, 1) := by decide +kernel
theorem dX6_tick_24 : decode cX6_tick 24 = .ok (.aload_n 0, 1) := by decide +kernel
theorem dX6_tick_25 : decode cX6_tick 25 = .ok (.getfield 7, 3) := by decide +kernel
theorem dX6_tick_28 : decode cX6_tick 28 = .ok (.bipush 7, 2) := by decide +kernel
theorem dX6_tick_30 : decode cX6_tick 30 = .ok (.dup2, 1) := by decide +kernel
theorem dX6_tick_31 : decode cX6_tick 31 = .ok (.iaload, 1) := by decide +kernel
theorem dX6_tick_32 : decode cX6_tick 32 = .ok (.aload_n 0, 1) := by decide +kernel
theorem dX6_tick_33 : decode cX6_tick 33 = .ok (.invokevirtual 70, 3) := by decide +kernel
theorem dX6_tick_36 : decode cX6_tick 36 = .ok (.aload_n 0, 1) := by decide +kernel
theorem dX6_tick_37 : decode cX6_tick 37 = .ok (.getfield 80, 3) := by decide +kernel
theorem dX6_tick_40 : decode cX6_tick 40 = .ok (.isub, 1) := by decide +kernel
theorem dX6_tick_41 : decode cX6_tick 41 = .ok (.iadd, 1) := by decide +kernel
theorem dX6_tick_42 : decode cX6_tick 42 = .ok (.iastore, 1) := by decide +kernel
theorem dX6_tick_43 : decode cX6_tick 43 = .ok (.iconst 0, 1) := by decide +kernel
theorem dX6_tick_44 : decode cX6_tick 44 = .ok (.istore_n 3, 1) := by decide +kernel
theorem dX6_tick_45 : decode cX6_tick 45 = .ok (.iload_n 3, 1) := by decide +kernel
theorem dX6_tick_46 : decode cX6_tick 46 = .ok (.iconst 3, 1) := by decide +kernel
theorem dX6_tick_47 : decode cX6_tick 47 = .ok (.if_icmp .ge 68, 3) := by decide +kernel
theorem dX6_tick_50 : decode cX6_tick 50 = .ok (.aload_n 0, 1) := by decide +kernel
theorem dX6_tick_51 : decode cX6_tick 51 = .ok (.iload_n 3, 1) := by decide +kernel
theorem dX6_tick_52 : decode cX6_tick 52 = .ok (.bipush 8, 2) := by decide +kernel
theorem dX6_tick_54 : decode cX6_tick 54 = .ok (.aload_n 0, 1) := by decide +kernel
theorem dX6_tick_55 : decode cX6_tick 55 = .ok (.iload_n 3, 1) := by decide +kernel
theorem dX6_tick_56 : decode cX6_tick 56 = .ok (.bipush 8, 2) := by decide +kernel
theorem dX6_tick_58 : decode cX6_tick 58 = .ok (.invokevirtual 52, 3) := by decide +kernel
theorem dX6_tick_61 : decode cX6_tick 61 = .ok (.aload_n 0, 1) := by decide +kernel
theorem dX6_tick_62 : decode cX6_tick 62 = .ok (.getfield 22, 3) := by decide +kernel
theorem dX6_tick_65 : decode cX6_tick 65 = .ok (.iload_n 3, 1) := by decide +kernel
theorem dX6_tick_66 : decode cX6_tick 66 = .ok (.iaload, 1) := by decide +kernel
theorem dX6_tick_67 : decode cX6_tick 67 = .ok (.iadd, 1) := by decide +kernel
theorem dX6_tick_68 : decode cX6_tick 68 = .ok (.invokevirtual 37, 3) := by decide +kernel
theorem dX6_tick_71 : decode cX6_tick 71 = .ok (.aload_n 0, 1) := by decide +kernel
theorem dX6_tick_72 : decode cX6_tick 72 = .ok (.iload_n 3, 1) := by decide +kernel
theorem dX6_tick_73 : decode cX6_tick 73 = .ok (.iconst 4, 1) := by decide +kernel
theorem dX6_tick_74 : decode cX6_tick 74 = .ok (.invokevirtual 52, 3) := by decide +kernel
theorem dX6_tick_77 : decode cX6_tick 77 = .ok (.iconst 1, 1) := by decide +kernel
theorem dX6_tick_78 : decode cX6_tick 78 = .ok (.if_icmp .ne 11, 3) := by decide +kernel
theorem dX6_tick_81 : decode cX6_tick 81 = .ok (.aload_n 0, 1) := by decide +kernel
theorem dX6_tick_82 : decode cX6_tick 82 = .ok (.iload_n 3, 1) := by decide +kernel
theorem dX6_tick_83 : decode cX6_tick 83 = .ok (.invokevirtual 96, 3) := by decide +kernel
theorem dX6_tick_86 : decode cX6_tick 86 = .ok (.goto 23, 3) := by decide +kernel
theorem dX6_tick_89 : decode cX6_tick 89 = .ok (.aload_n 0, 1) := by decide +kernel
theorem dX6_tick_90 : decode cX6_tick 90 = .ok (.iload_n 3, 1) := by decide +kernel
theorem dX6_tick_91 : decode cX6_tick 91 = .ok (.iconst 3, 1) := by decide +kernel
theorem dX6_tick_92 : decode cX6_tick 92 = .ok (.invokevirtual 52, 3) := by decide +kernel
theorem dX6_tick_95 : decode cX6_tick 95 = .ok (.iconst 1, 1) := by decide +kernel
theorem dX6_tick_96 : decode cX6_tick 96 = .ok (.if_icmp .ne 13, 3) := by decide +kernel
theorem dX6_tick_99 : decode cX6_tick 99 = .ok (.iload_n 2, 1) := by decide +kernel
theorem dX6_tick_100 : decode cX6_tick 100 = .ok (.ifCond .eq 9, 3) := by decide +kernel
theorem dX6_tick_103 : decode cX6_tick 103 = .ok (.aload_n 0, 1) := by decide +kernel
theorem dX6_tick_104 : decode cX6_tick 104 = .ok (.iload_n 3, 1) := by decide +kernel
theorem dX6_tick_105 : decode cX6_tick 105 = .ok (.iload_n 1, 1) := by decide +kernel
theorem dX6_tick_106 : decode cX6_tick 106 = .ok (.invokevirtual 99, 3) := by decide +kernel
theorem dX6_tick_109 : decode cX6_tick 109 = .ok (.iinc 3 1, 3) := by decide +kernel
theorem dX6_tick_112 : decode cX6_tick 112 = .ok (.goto (-67), 3) := by decide +kernel
theorem dX6_tick_115 : decode cX6_tick 115 = .ok (.aload_n 0, 1) := by decide +kernel
theorem dX6_tick_116 : decode cX6_tick 116 = .ok (.getfield 80, 3) := by decide +kernel
theorem dX6_tick_119 : decode cX6_tick 119 = .ok (.ifCond .le 7, 3) := by decide +kernel
theorem dX6_tick_122 : decode cX6_tick 122 = .ok (.aload_n 0, 1) := by decide +kernel
theorem dX6_tick_123 : decode cX6_tick 123 = .ok (.invokevirtual 103, 3) := by decide +kernel
theorem dX6_tick_126 : decode cX6_tick 126 = .ok (.aload_n 0, 1) := by decide +kernel
theorem dX6_tick_127 : decode cX6_tick 127 = .ok (.invokevirtual 106, 3) := by decide +kernel
theorem dX6_tick_130 : decode cX6_tick 130 = .ok (.ireturn, 1) := by decide +kernel
set_option maxRecDepth 100000 in
theorem ggX6_runNow_X6_put : GoodIn wsX6_runNow wsX6_put := goodIn_r _ [5, 6, 19, 20, 21, 22, 23, 24, 25, 26, 27, 28, 29, 30, 31, 32, 33, 34, 35] rfl (by decide +kernel)
set_option maxRecDepth 100000 in
theorem gX6_runNow_X6_put : GoodIn wsX6_runNow (wsV RX6 37 RX6 yX6_put wsX6_put) := goodIn_app (goodIn_r _ [1, 2, 3, 4] rfl (by decide +kernel)) ggX6_runNow_X6_put
set_option maxRecDepth 100000 in
theorem ggX6_runNow_X6_rest : GoodIn wsX6_runNow wsX6_rest := goodIn_r _ [10, 1, 2, 3, 4, 5, 6, 19, 20, 21, 22, 23, 24, 25, 26, 27, 28, 29, 30, 31, 32, 33, 34, 35] rfl (by decide +kernel)
set_option maxRecDepth 100000 in
theorem gX6_runNow_X6_rest : GoodIn wsX6_runNow (wsV RX6 92 RX6 yX6_rest wsX6_rest) := goodIn_app (goodIn_r _ [7, 8, 9, 4] rfl (by decide +kernel)) ggX6_runNow_X6_rest
set_option maxRecDepth 100000 in
theorem ggX6_runNow_X6_sum : GoodIn wsX6_runNow wsX6_sum := goodIn_r _ [14, 15, 16, 17, 4, 18, 6, 19, 20, 21, 22, 23, 24, 25, 26, 27, 28, 29, 30, 31, 32, 33, 34, 35] rfl (by decide +kernel)
set_option maxRecDepth 100000 in
theorem gX6_runNow_X6_sum : GoodIn wsX6_runNow (wsV RX6 56 RX6 yX6_sum wsX6_sum) := goodIn_app (goodIn_r _ [11, 12, 13, 4] rfl (by decide +kernel)) ggX6_runNow_X6_sum
theorem dX6_runNow_0 : decode cX6_runNow 0 = .ok (.aload_n 0, 1) := by decide +kernel
theorem dX6_runNow_1 : decode cX6_runNow 1 = .ok (.iload_n 1, 1) := by decide +kernel
theorem dX6_runNow_2 : decode cX6_runNow 2 = .ok (.iconst 3, 1) := by decide +kernel
theorem dX6_runNow_3 : decode cX6_runNow 3 = .ok (.iconst 1, 1) := by decide +kernel
theorem dX6_runNow_4 : decode cX6_runNow 4 = .ok (.invokevirtual 37, 3) := by decide +kernel
theorem dX6_runNow_7 : decode cX6_runNow 7 = .ok (.aload_n 0, 1) := by decide +kernel
theorem dX6_runNow_8 : decode cX6_runNow 8 = .ok (.iload_n 1, 1) := by decide +kernel
theorem dX6_runNow_9 : decode cX6_runNow 9 = .ok (.invokevirtual 92, 3) := by decide +kernel
theorem dX6_runNow_12 : decode cX6_runNow 12 = .ok (.aload_n 0, 1) := by decide +kernel
theorem dX6_runNow_13 : decode cX6_runNow 13 = .ok (.iconst 3, 1) := by decide +kernel
theorem dX6_runNow_14 : decode cX6_runNow 14 = .ok (.invokevirtual 56, 3) := by decide +kernel
theorem dX6_runNow_17 : decode cX6_runNow 17 = .ok (.ireturn, 1) := by decide +kernel
set_option maxRecDepth 100000 in
theorem ggX6_haltNow_X6_put : GoodIn wsX6_haltNow wsX6_put := goodIn_r _ [5, 6, 19, 20, 21, 22, 23, 24, 25, 26, 27, 28, 29, 30, 31, 32, 33, 34, 35] rfl (by decide +kernel)
set_option maxRecDepth 100000 in
theorem gX6_haltNow_X6_put : GoodIn wsX6_haltNow (wsV RX6 37 RX6 yX6_put wsX6_put) := goodIn_app (goodIn_r _ [1, 2, 3, 4] rfl (by decide +kernel)) ggX6_haltNow_X6_put
set_option maxRecDepth 100000 in
theorem ggX6_haltNow_X6_rest : GoodIn wsX6_haltNow wsX6_rest := goodIn_r _ [10, 1, 2, 3, 4, 5, 6, 19, 20, 21, 22, 23, 24, 25, 26, 27, 28, 29, 30, 31, 32, 33, 34, 35] rfl (by decide +kernel)
set_option maxRecDepth 100000 in
theorem gX6_haltNow_X6_rest : GoodIn wsX6_haltNow (wsV RX6 92 RX6 yX6_rest wsX6_rest) := goodIn_app (goodIn_r _ [7, 8, 9, 4] rfl (by decide +kernel)) ggX6_haltNow_X6_rest
set_option maxRecDepth 100000 in
theorem ggX6_haltNow_X6_sum : GoodIn wsX6_haltNow wsX6_sum := goodIn_r _ [14, 15, 16, 17, 4, 18, 6, 19, 20, 21, 22, 23, 24, 25, 26, 27, 28, 29, 30, 31, 32, 33, 34, 35] rfl (by decide +kernel)
set_option maxRecDepth 100000 in
theorem gX6_haltNow_X6_sum : GoodIn wsX6_haltNow (wsV RX6 56 RX6 yX6_sum wsX6_sum) := goodIn_app (goodIn_r _ [11, 12, 13, 4] rfl (by decide +kernel)) ggX6_haltNow_X6_sum
theorem dX6_haltNow_0 : decode cX6_haltNow 0 = .ok (.aload_n 0, 1) := by decide +kernel
theorem dX6_haltNow_1 : decode cX6_haltNow 1 = .ok (.iload_n 1, 1) := by decide +kernel
theorem dX6_haltNow_2 : decode cX6_haltNow 2 = .ok (.iconst 3, 1) := by decide +kernel
theorem dX6_haltNow_3 : decode cX6_haltNow 3 = .ok (.iconst 0, 1) := by decide +kernel
theorem dX6_haltNow_4 : decode cX6_haltNow 4 = .ok (.invokevirtual 37, 3) := by decide +kernel
theorem dX6_haltNow_7 : decode cX6_haltNow 7 = .ok (.aload_n 0, 1) := by decide +kernel
theorem dX6_haltNow_8 : decode cX6_haltNow 8 = .ok (.iload_n 1, 1) := by decide +kernel
theorem dX6_haltNow_9 : decode cX6_haltNow 9 = .ok (.invokevirtual 92, 3) := by decide +kernel
theorem dX6_haltNow_12 : decode cX6_haltNow 12 = .ok (.aload_n 0, 1) := by decide +kernel
theorem dX6_haltNow_13 : decode cX6_haltNow 13 = .ok (.iconst 3, 1) := by decide +kernel
theorem dX6_haltNow_14 : decode cX6_haltNow 14 = .ok (.invokevirtual 56, 3) := by decide +kernel
theorem dX6_haltNow_17 : decode cX6_haltNow 17 = .ok (.ireturn, 1) := by decide +kernel
set_option maxRecDepth 100000 in
theorem ggX6_switchNow_X6_put : GoodIn wsX6_switchNow wsX6_put := goodIn_r _ [5, 6, 43, 44, 45, 46, 47, 48, 49, 50, 51, 52, 53, 54, 55, 56, 57, 58, 59] rfl (by decide +kernel)
set_option maxRecDepth 100000 in
theorem gX6_switchNow_X6_put : GoodIn wsX6_switchNow (wsV RX6 37 RX6 yX6_put wsX6_put) := goodIn_app (goodIn_r _ [1, 2, 3, 4] rfl (by decide +kernel)) ggX6_switchNow_X6_put
set_option maxRecDepth 100000 in
theorem ggX6_switchNow_X6_rest : GoodIn wsX6_switchNow wsX6_rest := goodIn_r _ [10, 1, 2, 3, 4, 5, 6, 43, 44, 45, 46, 47, 48, 49, 50, 51, 52, 53, 54, 55, 56, 57, 58, 59] rfl (by decide +kernel)
set_option maxRecDepth 100000 in
theorem gX6_switchNow_X6_rest : GoodIn wsX6_switchNow (wsV RX6 92 RX6 yX6_rest wsX6_rest) := goodIn_app (goodIn_r _ [7, 8, 9, 4] rfl (by decide +kernel)) ggX6_switchNow_X6_rest
set_option maxRecDepth 100000 in
theorem ggX6_switchNow_X6_frequency : GoodIn wsX6_switchNow wsX6_frequency := goodIn_r _ [14, 15, 16, 17, 4, 18, 19, 20, 21, 22, 23, 24, 25, 26, 6, 27, 28, 29, 30, 31, 32, 33, 34, 35, 36, 37, 38, 39, 40, 41, 42, 43, 44, 45, 46, 47, 48, 49, 50, 51, 52, 53, 54, 55, 56, 57, 58, 59] rfl (by decide +kernel)
set_option maxRecDepth 100000 in
theorem gX6_switchNow_X6_frequency : GoodIn wsX6_switchNow (wsV RX6 77 RX6 yX6_frequency wsX6_frequency) := goodIn_app (goodIn_r _ [11, 12, 13, 4] rfl (by decide +kernel)) ggX6_switchNow_X6_frequency
theorem dX6_switchNow_0 : decode cX6_switchNow 0 = .ok (.aload_n 0, 1) := by decide +kernel
theorem dX6_switchNow_1 : decode cX6_switchNow 1 = .ok (.iload_n 1, 1) := by decide +kernel
theorem dX6_switchNow_2 : decode cX6_switchNow 2 = .ok (.iconst 4, 1) := by decide +kernel
theorem dX6_switchNow_3 : decode cX6_switchNow 3 = .ok (.iload_n 2, 1) := by decide +kernel
theorem dX6_switchNow_4 : decode cX6_switchNow 4 = .ok (.invokevirtual 37, 3) := by decide +kernel
theorem dX6_switchNow_7 : decode cX6_switchNow 7 = .ok (.aload_n 0, 1) := by decide +kernel
theorem dX6_switchNow_8 : decode cX6_switchNow 8 = .ok (.iload_n 1, 1) := by decide +kernel
theorem dX6_switchNow_9 : decode cX6_switchNow 9 = .ok (.invokevirtual 92, 3) := by decide +kernel
theorem dX6_switchNow_12 : decode cX6_switchNow 12 = .ok (.aload_n 0, 1) := by decide +kernel
theorem dX6_switchNow_13 : decode cX6_switchNow 13 = .ok (.invokevirtual 77, 3) := by decide +kernel
theorem dX6_switchNow_16 : decode cX6_switchNow 16 = .ok (.ireturn, 1) := by decide +kernel
set_option maxRecDepth 100000 in
theorem ggX6_feederNow_X6_ofLine : GoodIn wsX6_feederNow wsX6_ofLine := goodIn_r _ [6, 1, 7, 8, 9, 10, 11, 12, 13, 14, 15, 16, 17, 18, 19, 20, 21, 22, 23] rfl (by decide +kernel)
set_option maxRecDepth 100000 in
theorem gX6_feederNow_X6_ofLine : GoodIn wsX6_feederNow (wsV RX6 64 RX6 yX6_ofLine wsX6_ofLine) := goodIn_app (goodIn_r _ [2, 3, 4, 5] rfl (by decide +kernel)) ggX6_feederNow_X6_ofLine
theorem dX6_feederNow_0 : decode cX6_feederNow 0 = .ok (.aload_n 0, 1) := by decide +kernel
theorem dX6_feederNow_1 : decode cX6_feederNow 1 = .ok (.iload_n 1, 1) := by decide +kernel
theorem dX6_feederNow_2 : decode cX6_feederNow 2 = .ok (.iconst 1, 1) := by decide +kernel
theorem dX6_feederNow_3 : decode cX6_feederNow 3 = .ok (.invokevirtual 64, 3) := by decide +kernel
theorem dX6_feederNow_6 : decode cX6_feederNow 6 = .ok (.istore_n 3, 1) := by decide +kernel
theorem dX6_feederNow_7 : decode cX6_feederNow 7 = .ok (.aload_n 0, 1) := by decide +kernel
theorem dX6_feederNow_8 : decode cX6_feederNow 8 = .ok (.getfield 7, 3) := by decide +kernel
theorem dX6_feederNow_11 : decode cX6_feederNow 11 = .ok (.bipush 38, 2) := by decide +kernel
theorem dX6_feederNow_13 : decode cX6_feederNow 13 = .ok (.iconst 3, 1) := by decide +kernel
theorem dX6_feederNow_14 : decode cX6_feederNow 14 = .ok (.iload_n 1, 1) := by decide +kernel
theorem dX6_feederNow_15 : decode cX6_feederNow 15 = .ok (.imul, 1) := by decide +kernel
theorem dX6_feederNow_16 : decode cX6_feederNow 16 = .ok (.iadd, 1) := by decide +kernel
theorem dX6_feederNow_17 : decode cX6_feederNow 17 = .ok (.iconst 1, 1) := by decide +kernel
theorem dX6_feederNow_18 : decode cX6_feederNow 18 = .ok (.iadd, 1) := by decide +kernel
theorem dX6_feederNow_19 : decode cX6_feederNow 19 = .ok (.iload_n 2, 1) := by decide +kernel
theorem dX6_feederNow_20 : decode cX6_feederNow 20 = .ok (.iastore, 1) := by decide +kernel
theorem dX6_feederNow_21 : decode cX6_feederNow 21 = .ok (.iload_n 3, 1) := by decide +kernel
theorem dX6_feederNow_22 : decode cX6_feederNow 22 = .ok (.ireturn, 1) := by decide +kernel
set_option maxRecDepth 100000 in
theorem ggX6_passNow_X6_tick : GoodIn wsX6_passNow wsX6_tick := goodIn_r _ [5, 6, 7, 8, 9, 10, 11, 4, 12, 13, 14, 15, 16, 17, 18, 19, 20, 21, 22, 23, 24, 25, 26, 27, 28, 29, 30, 31, 32, 33, 34, 35, 36, 37, 38, 39, 40, 41, 42, 43, 44, 45, 46, 47, 48, 49, 50, 51, 52, 53, 54, 55, 56, 57, 58, 59, 60, 61, 62, 63, 64, 65, 66, 67, 68, 69, 70, 71, 72, 73, 74, 75, 76, 77, 78, 79, 80, 81, 82, 83, 84, 85] rfl (by decide +kernel)
set_option maxRecDepth 100000 in
theorem gX6_passNow_X6_tick : GoodIn wsX6_passNow (wsV RX6 109 RX6 yX6_tick wsX6_tick) := goodIn_app (goodIn_r _ [1, 2, 3, 4] rfl (by decide +kernel)) ggX6_passNow_X6_tick
theorem dX6_passNow_0 : decode cX6_passNow 0 = .ok (.iconst 0, 1) := by decide +kernel
theorem dX6_passNow_1 : decode cX6_passNow 1 = .ok (.istore_n 2, 1) := by decide +kernel
theorem dX6_passNow_2 : decode cX6_passNow 2 = .ok (.iconst 0, 1) := by decide +kernel
theorem dX6_passNow_3 : decode cX6_passNow 3 = .ok (.istore_n 3, 1) := by decide +kernel
theorem dX6_passNow_4 : decode cX6_passNow 4 = .ok (.iload_n 3, 1) := by decide +kernel
theorem dX6_passNow_5 : decode cX6_passNow 5 = .ok (.iload_n 1, 1) := by decide +kernel
theorem dX6_passNow_6 : decode cX6_passNow 6 = .ok (.if_icmp .ge 16, 3) := by decide +kernel
theorem dX6_passNow_9 : decode cX6_passNow 9 = .ok (.iload_n 2, 1) := by decide +kernel
theorem dX6_passNow_10 : decode cX6_passNow 10 = .ok (.aload_n 0, 1) := by decide +kernel
theorem dX6_passNow_11 : decode cX6_passNow 11 = .ok (.invokevirtual 109, 3) := by decide +kernel
theorem dX6_passNow_14 : decode cX6_passNow 14 = .ok (.iadd, 1) := by decide +kernel
theorem dX6_passNow_15 : decode cX6_passNow 15 = .ok (.istore_n 2, 1) := by decide +kernel
theorem dX6_passNow_16 : decode cX6_passNow 16 = .ok (.iinc 3 1, 3) := by decide +kernel
theorem dX6_passNow_19 : decode cX6_passNow 19 = .ok (.goto (-15), 3) := by decide +kernel
theorem dX6_passNow_22 : decode cX6_passNow 22 = .ok (.iload_n 2, 1) := by decide +kernel
theorem dX6_passNow_23 : decode cX6_passNow 23 = .ok (.ireturn, 1) := by decide +kernel
set_option maxRecDepth 100000 in
theorem ggX6_speedNow_X6_of : GoodIn wsX6_speedNow wsX6_of := goodIn_r _ [5, 6, 11, 12, 13, 14, 15, 16, 17, 18, 19, 20, 21, 22, 23, 24, 25, 26, 27] rfl (by decide +kernel)
set_option maxRecDepth 100000 in
theorem gX6_speedNow_X6_of : GoodIn wsX6_speedNow (wsV RX6 52 RX6 yX6_of wsX6_of) := goodIn_app (goodIn_r _ [1, 2, 3, 4] rfl (by decide +kernel)) ggX6_speedNow_X6_of
set_option maxRecDepth 100000 in
theorem ggX6_speedNow_X6_put : GoodIn wsX6_speedNow wsX6_put := goodIn_r _ [10, 6, 11, 12, 13, 14, 15, 16, 17, 18, 19, 20, 21, 22, 23, 24, 25, 26, 27] rfl (by decide +kernel)
set_option maxRecDepth 100000 in
theorem gX6_speedNow_X6_put : GoodIn wsX6_speedNow (wsV RX6 37 RX6 yX6_put wsX6_put) := goodIn_app (goodIn_r _ [7, 8, 9, 4] rfl (by decide +kernel)) ggX6_speedNow_X6_put
theorem dX6_speedNow_0 : decode cX6_speedNow 0 = .ok (.aload_n 0, 1) := by decide +kernel
theorem dX6_speedNow_1 : decode cX6_speedNow 1 = .ok (.iload_n 1, 1) := by decide +kernel
theorem dX6_speedNow_2 : decode cX6_speedNow 2 = .ok (.iconst 2, 1) := by decide +kernel
theorem dX6_speedNow_3 : decode cX6_speedNow 3 = .ok (.invokevirtual 52, 3) := by decide +kernel
theorem dX6_speedNow_6 : decode cX6_speedNow 6 = .ok (.istore_n 3, 1) := by decide +kernel
theorem dX6_speedNow_7 : decode cX6_speedNow 7 = .ok (.aload_n 0, 1) := by decide +kernel
theorem dX6_speedNow_8 : decode cX6_speedNow 8 = .ok (.iload_n 1, 1) := by decide +kernel
theorem dX6_speedNow_9 : decode cX6_speedNow 9 = .ok (.iconst 2, 1) := by decide +kernel
theorem dX6_speedNow_10 : decode cX6_speedNow 10 = .ok (.iload_n 2, 1) := by decide +kernel
theorem dX6_speedNow_11 : decode cX6_speedNow 11 = .ok (.invokevirtual 37, 3) := by decide +kernel
theorem dX6_speedNow_14 : decode cX6_speedNow 14 = .ok (.iload_n 3, 1) := by decide +kernel
theorem dX6_speedNow_15 : decode cX6_speedNow 15 = .ok (.ireturn, 1) := by decide +kernel
set_option maxRecDepth 100000 in
theorem ggX6_build_X6_isSet : GoodIn wsX6_build wsX6_isSet := goodIn_r _ [5, 6, 7, 4, 8] rfl (by decide +kernel)
set_option maxRecDepth 100000 in
theorem gX6_build_X6_isSet : GoodIn wsX6_build (va_wsS RX6 112 yX6_isSet wsX6_isSet) := goodIn_app (goodIn_r _ [2, 3, 4] rfl (by decide +kernel)) ggX6_build_X6_isSet
set_option maxRecDepth 100000 in
theorem ggX6_build_X6_fails : GoodIn wsX6_build wsX6_fails := goodIn_r _ [12, 1, 28, 29, 30, 31, 32, 33, 34, 35, 36, 37, 38, 39, 40, 41, 42, 43, 44] rfl (by decide +kernel)
set_option maxRecDepth 100000 in
theorem gX6_build_X6_fails : GoodIn wsX6_build (wsV RX6 116 RX6 yX6_fails wsX6_fails) := goodIn_app (goodIn_r _ [9, 10, 11, 4] rfl (by decide +kernel)) ggX6_build_X6_fails
set_option maxRecDepth 100000 in
theorem ggX6_build_X6_in : GoodIn wsX6_build wsX6_in := goodIn_r _ [8] rfl (by decide +kernel)
set_option maxRecDepth 100000 in
theorem gX6_build_X6_in : GoodIn wsX6_build (va_wsS RX6 45 yX6_in wsX6_in) := goodIn_app (goodIn_r _ [6, 7, 4] rfl (by decide +kernel)) ggX6_build_X6_in
set_option maxRecDepth 100000 in
theorem ggX6_build_X6_of : GoodIn wsX6_build wsX6_of := goodIn_r _ [16, 17, 28, 29, 30, 31, 32, 33, 34, 35, 36, 37, 38, 39, 40, 41, 42, 43, 44] rfl (by decide +kernel)
set_option maxRecDepth 100000 in
theorem gX6_build_X6_of : GoodIn wsX6_build (wsV RX6 52 RX6 yX6_of wsX6_of) := goodIn_app (goodIn_r _ [13, 14, 15, 4] rfl (by decide +kernel)) ggX6_build_X6_of
set_option maxRecDepth 100000 in
theorem ggX6_build_X6_save : GoodIn wsX6_build wsX6_save := goodIn_r _ [21, 22, 23, 17, 28, 29, 30, 31, 32, 33, 34, 35, 36, 37, 38, 39, 40, 41, 42, 43, 44] rfl (by decide +kernel)
set_option maxRecDepth 100000 in
theorem gX6_build_X6_save : GoodIn wsX6_build (wsV RX6 119 RX6 yX6_save wsX6_save) := goodIn_app (goodIn_r _ [18, 19, 20, 4] rfl (by decide +kernel)) ggX6_build_X6_save
set_option maxRecDepth 100000 in
theorem ggX6_build_X6_put : GoodIn wsX6_build wsX6_put := goodIn_r _ [27, 17, 28, 29, 30, 31, 32, 33, 34, 35, 36, 37, 38, 39, 40, 41, 42, 43, 44] rfl (by decide +kernel)
set_option maxRecDepth 100000 in
theorem gX6_build_X6_put : GoodIn wsX6_build (wsV RX6 37 RX6 yX6_put wsX6_put) := goodIn_app (goodIn_r _ [24, 25, 26, 4] rfl (by decide +kernel)) ggX6_build_X6_put
theorem dX6_build_0 : decode cX6_build 0 = .ok (.aload_n 0, 1) := by decide +kernel
theorem dX6_build_1 : decode cX6_build 1 = .ok (.iconst 0, 1) := by decide +kernel
theorem dX6_build_2 : decode cX6_build 2 = .ok (.putfield 41, 3) := by decide +kernel
theorem dX6_build_5 : decode cX6_build 5 = .ok (.iload_n 1, 1) := by decide +kernel
theorem dX6_build_6 : decode cX6_build 6 = .ok (.invokestatic 112, 3) := by decide +kernel
theorem dX6_build_9 : decode cX6_build 9 = .ok (.ifCond .ne 9, 3) := by decide +kernel
theorem dX6_build_12 : decode cX6_build 12 = .ok (.aload_n 0, 1) := by decide +kernel
theorem dX6_build_13 : decode cX6_build 13 = .ok (.iconst 1, 1) := by decide +kernel
theorem dX6_build_14 : decode cX6_build 14 = .ok (.invokevirtual 116, 3) := by decide +kernel
theorem dX6_build_17 : decode cX6_build 17 = .ok (.ireturn, 1) := by decide +kernel
theorem dX6_build_18 : decode cX6_build 18 = .ok (.iload_n 2, 1) := by decide +kernel
theorem dX6_build_19 : decode cX6_build 19 = .ok (.bipush 100, 2) := by decide +kernel
theorem dX6_build_21 : decode cX6_build 21 = .ok (.sipush 500, 3) := by decide +kernel
theorem dX6_build_24 : decode cX6_build 24 = .ok (.invokestatic 45, 3) := by decide +kernel
theorem dX6_build_27 : decode cX6_build 27 = .ok (.ifCond .eq 15, 3) := by decide +kernel
theorem dX6_build_30 : decode cX6_build 30 = .ok (.iload_n 3, 1) := by decide +kernel
theorem dX6_build_31 : decode cX6_build 31 = .ok (.bipush 100, 2) := by decide +kernel
theorem dX6_build_33 : decode cX6_build 33 = .ok (.sipush 400, 3) := by decide +kernel
theorem dX6_build_36 : decode cX6_build 36 = .ok (.invokestatic 45, 3) := by decide +kernel
theorem dX6_build_39 : decode cX6_build 39 = .ok (.ifCond .ne 9, 3) := by decide +kernel
theorem dX6_build_42 : decode cX6_build 42 = .ok (.aload_n 0, 1) := by decide +kernel
theorem dX6_build_43 : decode cX6_build 43 = .ok (.iconst 2, 1) := by decide +kernel
theorem dX6_build_44 : decode cX6_build 44 = .ok (.invokevirtual 116, 3) := by decide +kernel
theorem dX6_build_47 : decode cX6_build 47 = .ok (.ireturn, 1) := by decide +kernel
theorem dX6_build_48 : decode cX6_build 48 = .ok (.aload_n 0, 1) := by decide +kernel
theorem dX6_build_49 : decode cX6_build 49 = .ok (.iload_n 1, 1) := by decide +kernel
theorem dX6_build_50 : decode cX6_build 50 = .ok (.iconst 3, 1) := by decide +kernel
theorem dX6_build_51 : decode cX6_build 51 = .ok (.invokevirtual 52, 3) := by decide +kernel
theorem dX6_build_54 : decode cX6_build 54 = .ok (.iconst 1, 1) := by decide +kernel
theorem dX6_build_55 : decode cX6_build 55 = .ok (.if_icmp .ne 9, 3) := by decide +kernel
theorem dX6_build_58 : decode cX6_build 58 = .ok (.aload_n 0, 1) := by decide +kernel
theorem dX6_build_59 : decode cX6_build 59 = .ok (.iconst 3, 1) := by decide +kernel
theorem dX6_build_60 : decode cX6_build 60 = .ok (.invokevirtual 116, 3) := by decide +kernel
theorem dX6_build_63 : decode cX6_build 63 = .ok (.ireturn, 1) := by decide +kernel
theorem dX6_build_64 : decode cX6_build 64 = .ok (.aload_n 0, 1) := by decide +kernel
theorem dX6_build_65 : decode cX6_build 65 = .ok (.invokevirtual 119, 3) := by decide +kernel
theorem dX6_build_68 : decode cX6_build 68 = .ok (.aload_n 0, 1) := by decide +kernel
theorem dX6_build_69 : decode cX6_build 69 = .ok (.iload_n 1, 1) := by decide +kernel
theorem dX6_build_70 : decode cX6_build 70 = .ok (.iconst 0, 1) := by decide +kernel
theorem dX6_build_71 : decode cX6_build 71 = .ok (.invokevirtual 52, 3) := by decide +kernel
theorem dX6_build_74 : decode cX6_build 74 = .ok (.istore 4, 2) := by decide +kernel
theorem dX6_build_76 : decode cX6_build 76 = .ok (.aload_n 0, 1) := by decide +kernel
theorem dX6_build_77 : decode cX6_build 77 = .ok (.iload_n 1, 1) := by decide +kernel
theorem dX6_build_78 : decode cX6_build 78 = .ok (.iconst 0, 1) := by decide +kernel
theorem dX6_build_79 : decode cX6_build 79 = .ok (.iload_n 2, 1) := by decide +kernel
theorem dX6_build_80 : decode cX6_build 80 = .ok (.invokevirtual 37, 3) := by decide +kernel
theorem dX6_build_83 : decode cX6_build 83 = .ok (.aload_n 0, 1) := by decide +kernel
theorem dX6_build_84 : decode cX6_build 84 = .ok (.iload_n 1, 1) := by decide +kernel
theorem dX6_build_85 : decode cX6_build 85 = .ok (.iconst 1, 1) := by decide +kernel
theorem dX6_build_86 : decode cX6_build 86 = .ok (.iload_n 3, 1) := by decide +kernel
theorem dX6_build_87 : decode cX6_build 87 = .ok (.invokevirtual 37, 3) := by decide +kernel
theorem dX6_build_90 : decode cX6_build 90 = .ok (.iload 4, 2) := by decide +kernel
theorem dX6_build_92 : decode cX6_build 92 = .ok (.ireturn, 1) := by decide +kernel
set_option maxRecDepth 100000 in
theorem ggX6_speed_X6_isSet : GoodIn wsX6_speed wsX6_isSet := goodIn_r _ [5, 6, 7, 4, 8] rfl (by decide +kernel)
set_option maxRecDepth 100000 in
theorem gX6_speed_X6_isSet : GoodIn wsX6_speed (va_wsS RX6 112 yX6_isSet wsX6_isSet) := goodIn_app (goodIn_r _ [2, 3, 4] rfl (by decide +kernel)) ggX6_speed_X6_isSet
set_option maxRecDepth 100000 in
theorem ggX6_speed_X6_fails : GoodIn wsX6_speed wsX6_fails := goodIn_r _ [12, 1, 32, 33, 34, 35, 36, 37, 38, 39, 40, 41, 42, 43, 44, 45, 46, 47, 48] rfl (by decide +kernel)
set_option maxRecDepth 100000 in
theorem gX6_speed_X6_fails : GoodIn wsX6_speed (wsV RX6 116 RX6 yX6_fails wsX6_fails) := goodIn_app (goodIn_r _ [9, 10, 11, 4] rfl (by decide +kernel)) ggX6_speed_X6_fails
set_option maxRecDepth 100000 in
theorem ggX6_speed_X6_in : GoodIn wsX6_speed wsX6_in := goodIn_r _ [8] rfl (by decide +kernel)
set_option maxRecDepth 100000 in
theorem gX6_speed_X6_in : GoodIn wsX6_speed (va_wsS RX6 45 yX6_in wsX6_in) := goodIn_app (goodIn_r _ [6, 7, 4] rfl (by decide +kernel)) ggX6_speed_X6_in
set_option maxRecDepth 100000 in
theorem ggX6_speed_X6_save : GoodIn wsX6_speed wsX6_save := goodIn_r _ [16, 17, 18, 19, 32, 33, 34, 35, 36, 37, 38, 39, 40, 41, 42, 43, 44, 45, 46, 47, 48] rfl (by decide +kernel)
set_option maxRecDepth 100000 in
theorem gX6_speed_X6_save : GoodIn wsX6_speed (wsV RX6 119 RX6 yX6_save wsX6_save) := goodIn_app (goodIn_r _ [13, 14, 15, 4] rfl (by decide +kernel)) ggX6_speed_X6_save
set_option maxRecDepth 100000 in
theorem ggX6_speed_X6_speedNow : GoodIn wsX6_speed wsX6_speedNow := goodIn_r _ [23, 24, 25, 26, 4, 27, 19, 28, 29, 30, 31, 32, 33, 34, 35, 36, 37, 38, 39, 40, 41, 42, 43, 44, 45, 46, 47, 48] rfl (by decide +kernel)
set_option maxRecDepth 100000 in
theorem gX6_speed_X6_speedNow : GoodIn wsX6_speed (wsV RX6 122 RX6 yX6_speedNow wsX6_speedNow) := goodIn_app (goodIn_r _ [20, 21, 22, 4] rfl (by decide +kernel)) ggX6_speed_X6_speedNow
theorem dX6_speed_0 : decode cX6_speed 0 = .ok (.aload_n 0, 1) := by decide +kernel
theorem dX6_speed_1 : decode cX6_speed 1 = .ok (.iconst 0, 1) := by decide +kernel
theorem dX6_speed_2 : decode cX6_speed 2 = .ok (.putfield 41, 3) := by decide +kernel
theorem dX6_speed_5 : decode cX6_speed 5 = .ok (.iload_n 1, 1) := by decide +kernel
theorem dX6_speed_6 : decode cX6_speed 6 = .ok (.invokestatic 112, 3) := by decide +kernel
theorem dX6_speed_9 : decode cX6_speed 9 = .ok (.ifCond .ne 9, 3) := by decide +kernel
theorem dX6_speed_12 : decode cX6_speed 12 = .ok (.aload_n 0, 1) := by decide +kernel
theorem dX6_speed_13 : decode cX6_speed 13 = .ok (.iconst 1, 1) := by decide +kernel
theorem dX6_speed_14 : decode cX6_speed 14 = .ok (.invokevirtual 116, 3) := by decide +kernel
theorem dX6_speed_17 : decode cX6_speed 17 = .ok (.ireturn, 1) := by decide +kernel
theorem dX6_speed_18 : decode cX6_speed 18 = .ok (.iload_n 2, 1) := by decide +kernel
theorem dX6_speed_19 : decode cX6_speed 19 = .ok (.sipush 4700, 3) := by decide +kernel
theorem dX6_speed_22 : decode cX6_speed 22 = .ok (.sipush 5300, 3) := by decide +kernel
theorem dX6_speed_25 : decode cX6_speed 25 = .ok (.invokestatic 45, 3) := by decide +kernel
theorem dX6_speed_28 : decode cX6_speed 28 = .ok (.ifCond .ne 9, 3) := by decide +kernel
theorem dX6_speed_31 : decode cX6_speed 31 = .ok (.aload_n 0, 1) := by decide +kernel
theorem dX6_speed_32 : decode cX6_speed 32 = .ok (.iconst 2, 1) := by decide +kernel
theorem dX6_speed_33 : decode cX6_speed 33 = .ok (.invokevirtual 116, 3) := by decide +kernel
theorem dX6_speed_36 : decode cX6_speed 36 = .ok (.ireturn, 1) := by decide +kernel
theorem dX6_speed_37 : decode cX6_speed 37 = .ok (.aload_n 0, 1) := by decide +kernel
theorem dX6_speed_38 : decode cX6_speed 38 = .ok (.invokevirtual 119, 3) := by decide +kernel
theorem dX6_speed_41 : decode cX6_speed 41 = .ok (.aload_n 0, 1) := by decide +kernel
theorem dX6_speed_42 : decode cX6_speed 42 = .ok (.iload_n 1, 1) := by decide +kernel
theorem dX6_speed_43 : decode cX6_speed 43 = .ok (.iload_n 2, 1) := by decide +kernel
theorem dX6_speed_44 : decode cX6_speed 44 = .ok (.invokevirtual 122, 3) := by decide +kernel
theorem dX6_speed_47 : decode cX6_speed 47 = .ok (.ireturn, 1) := by decide +kernel
set_option maxRecDepth 100000 in
theorem ggX6_canHalt_X6_of : GoodIn wsX6_canHalt wsX6_of := goodIn_r _ [5, 6, 7, 8, 9, 10, 11, 12, 13, 14, 15, 16, 17, 18, 19, 20, 21, 22, 23] rfl (by decide +kernel)
set_option maxRecDepth 100000 in
theorem gX6_canHalt_X6_of : GoodIn wsX6_canHalt (wsV RX6 52 RX6 yX6_of wsX6_of) := goodIn_app (goodIn_r _ [1, 2, 3, 4] rfl (by decide +kernel)) ggX6_canHalt_X6_of
theorem dX6_canHalt_0 : decode cX6_canHalt 0 = .ok (.aload_n 0, 1) := by decide +kernel
theorem dX6_canHalt_1 : decode cX6_canHalt 1 = .ok (.iload_n 1, 1) := by decide +kernel
theorem dX6_canHalt_2 : decode cX6_canHalt 2 = .ok (.iconst 3, 1) := by decide +kernel
theorem dX6_canHalt_3 : decode cX6_canHalt 3 = .ok (.invokevirtual 52, 3) := by decide +kernel
theorem dX6_canHalt_6 : decode cX6_canHalt 6 = .ok (.iconst 1, 1) := by decide +kernel
theorem dX6_canHalt_7 : decode cX6_canHalt 7 = .ok (.if_icmp .ne 16, 3) := by decide +kernel
theorem dX6_canHalt_10 : decode cX6_canHalt 10 = .ok (.aload_n 0, 1) := by decide +kernel
theorem dX6_canHalt_11 : decode cX6_canHalt 11 = .ok (.iload_n 1, 1) := by decide +kernel
theorem dX6_canHalt_12 : decode cX6_canHalt 12 = .ok (.iconst 4, 1) := by decide +kernel
theorem dX6_canHalt_13 : decode cX6_canHalt 13 = .ok (.invokevirtual 52, 3) := by decide +kernel
theorem dX6_canHalt_16 : decode cX6_canHalt 16 = .ok (.ifCond .ne 7, 3) := by decide +kernel
theorem dX6_canHalt_19 : decode cX6_canHalt 19 = .ok (.iconst 1, 1) := by decide +kernel
theorem dX6_canHalt_20 : decode cX6_canHalt 20 = .ok (.goto 4, 3) := by decide +kernel
theorem dX6_canHalt_23 : decode cX6_canHalt 23 = .ok (.iconst 0, 1) := by decide +kernel
theorem dX6_canHalt_24 : decode cX6_canHalt 24 = .ok (.ireturn, 1) := by decide +kernel
set_option maxRecDepth 100000 in
theorem ggX6_run_X6_isSet : GoodIn wsX6_run wsX6_isSet := goodIn_r _ [5, 6, 7, 4, 8] rfl (by decide +kernel)
set_option maxRecDepth 100000 in
theorem gX6_run_X6_isSet : GoodIn wsX6_run (va_wsS RX6 112 yX6_isSet wsX6_isSet) := goodIn_app (goodIn_r _ [2, 3, 4] rfl (by decide +kernel)) ggX6_run_X6_isSet
set_option maxRecDepth 100000 in
theorem ggX6_run_X6_fails : GoodIn wsX6_run wsX6_fails := goodIn_r _ [12, 1, 40, 41, 42, 43, 44, 45, 46, 47, 48, 49, 50, 51, 52, 53, 54, 55, 56] rfl (by decide +kernel)
set_option maxRecDepth 100000 in
theorem gX6_run_X6_fails : GoodIn wsX6_run (wsV RX6 116 RX6 yX6_fails wsX6_fails) := goodIn_app (goodIn_r _ [9, 10, 11, 4] rfl (by decide +kernel)) ggX6_run_X6_fails
set_option maxRecDepth 100000 in
theorem ggX6_run_X6_of : GoodIn wsX6_run wsX6_of := goodIn_r _ [16, 17, 40, 41, 42, 43, 44, 45, 46, 47, 48, 49, 50, 51, 52, 53, 54, 55, 56] rfl (by decide +kernel)
set_option maxRecDepth 100000 in
theorem gX6_run_X6_of : GoodIn wsX6_run (wsV RX6 52 RX6 yX6_of wsX6_of) := goodIn_app (goodIn_r _ [13, 14, 15, 4] rfl (by decide +kernel)) ggX6_run_X6_of
set_option maxRecDepth 100000 in
theorem ggX6_run_X6_save : GoodIn wsX6_run wsX6_save := goodIn_r _ [21, 22, 23, 17, 40, 41, 42, 43, 44, 45, 46, 47, 48, 49, 50, 51, 52, 53, 54, 55, 56] rfl (by decide +kernel)
set_option maxRecDepth 100000 in
theorem gX6_run_X6_save : GoodIn wsX6_run (wsV RX6 119 RX6 yX6_save wsX6_save) := goodIn_app (goodIn_r _ [18, 19, 20, 4] rfl (by decide +kernel)) ggX6_run_X6_save
set_option maxRecDepth 100000 in
theorem ggX6_run_X6_runNow : GoodIn wsX6_run wsX6_runNow := goodIn_r _ [27, 28, 29, 30, 4, 31, 17, 32, 33, 34, 35, 36, 37, 38, 39, 13, 14, 15, 16, 40, 41, 42, 43, 44, 45, 46, 47, 48, 49, 50, 51, 52, 53, 54, 55, 56] rfl (by decide +kernel)
set_option maxRecDepth 100000 in
theorem gX6_run_X6_runNow : GoodIn wsX6_run (wsV RX6 125 RX6 yX6_runNow wsX6_runNow) := goodIn_app (goodIn_r _ [24, 25, 26, 4] rfl (by decide +kernel)) ggX6_run_X6_runNow
theorem dX6_run_0 : decode cX6_run 0 = .ok (.aload_n 0, 1) := by decide +kernel
theorem dX6_run_1 : decode cX6_run 1 = .ok (.iconst 0, 1) := by decide +kernel
theorem dX6_run_2 : decode cX6_run 2 = .ok (.putfield 41, 3) := by decide +kernel
theorem dX6_run_5 : decode cX6_run 5 = .ok (.iload_n 1, 1) := by decide +kernel
theorem dX6_run_6 : decode cX6_run 6 = .ok (.invokestatic 112, 3) := by decide +kernel
theorem dX6_run_9 : decode cX6_run 9 = .ok (.ifCond .ne 9, 3) := by decide +kernel
theorem dX6_run_12 : decode cX6_run 12 = .ok (.aload_n 0, 1) := by decide +kernel
theorem dX6_run_13 : decode cX6_run 13 = .ok (.iconst 1, 1) := by decide +kernel
theorem dX6_run_14 : decode cX6_run 14 = .ok (.invokevirtual 116, 3) := by decide +kernel
theorem dX6_run_17 : decode cX6_run 17 = .ok (.ireturn, 1) := by decide +kernel
theorem dX6_run_18 : decode cX6_run 18 = .ok (.aload_n 0, 1) := by decide +kernel
theorem dX6_run_19 : decode cX6_run 19 = .ok (.iload_n 1, 1) := by decide +kernel
theorem dX6_run_20 : decode cX6_run 20 = .ok (.iconst 3, 1) := by decide +kernel
theorem dX6_run_21 : decode cX6_run 21 = .ok (.invokevirtual 52, 3) := by decide +kernel
theorem dX6_run_24 : decode cX6_run 24 = .ok (.iconst 1, 1) := by decide +kernel
theorem dX6_run_25 : decode cX6_run 25 = .ok (.if_icmp .ne 9, 3) := by decide +kernel
theorem dX6_run_28 : decode cX6_run 28 = .ok (.aload_n 0, 1) := by decide +kernel
theorem dX6_run_29 : decode cX6_run 29 = .ok (.iconst 2, 1) := by decide +kernel
theorem dX6_run_30 : decode cX6_run 30 = .ok (.invokevirtual 116, 3) := by decide +kernel
theorem dX6_run_33 : decode cX6_run 33 = .ok (.ireturn, 1) := by decide +kernel
theorem dX6_run_34 : decode cX6_run 34 = .ok (.aload_n 0, 1) := by decide +kernel
theorem dX6_run_35 : decode cX6_run 35 = .ok (.invokevirtual 119, 3) := by decide +kernel
theorem dX6_run_38 : decode cX6_run 38 = .ok (.aload_n 0, 1) := by decide +kernel
theorem dX6_run_39 : decode cX6_run 39 = .ok (.iload_n 1, 1) := by decide +kernel
theorem dX6_run_40 : decode cX6_run 40 = .ok (.invokevirtual 125, 3) := by decide +kernel
theorem dX6_run_43 : decode cX6_run 43 = .ok (.ireturn, 1) := by decide +kernel
set_option maxRecDepth 100000 in
theorem ggX6_halt_X6_isSet : GoodIn wsX6_halt wsX6_isSet := goodIn_r _ [5, 6, 7, 4, 8] rfl (by decide +kernel)
set_option maxRecDepth 100000 in
theorem gX6_halt_X6_isSet : GoodIn wsX6_halt (va_wsS RX6 112 yX6_isSet wsX6_isSet) := goodIn_app (goodIn_r _ [2, 3, 4] rfl (by decide +kernel)) ggX6_halt_X6_isSet
set_option maxRecDepth 100000 in
theorem ggX6_halt_X6_fails : GoodIn wsX6_halt wsX6_fails := goodIn_r _ [12, 1, 44, 45, 46, 47, 48, 49, 50, 51, 52, 53, 54, 55, 56, 57, 58, 59, 60] rfl (by decide +kernel)
set_option maxRecDepth 100000 in
theorem gX6_halt_X6_fails : GoodIn wsX6_halt (wsV RX6 116 RX6 yX6_fails wsX6_fails) := goodIn_app (goodIn_r _ [9, 10, 11, 4] rfl (by decide +kernel)) ggX6_halt_X6_fails
set_option maxRecDepth 100000 in
theorem ggX6_halt_X6_canHalt : GoodIn wsX6_halt wsX6_canHalt := goodIn_r _ [16, 17, 18, 19, 4, 20, 21, 44, 45, 46, 47, 48, 49, 50, 51, 52, 53, 54, 55, 56, 57, 58, 59, 60] rfl (by decide +kernel)
set_option maxRecDepth 100000 in
theorem gX6_halt_X6_canHalt : GoodIn wsX6_halt (wsV RX6 128 RX6 yX6_canHalt wsX6_canHalt) := goodIn_app (goodIn_r _ [13, 14, 15, 4] rfl (by decide +kernel)) ggX6_halt_X6_canHalt
set_option maxRecDepth 100000 in
theorem ggX6_halt_X6_save : GoodIn wsX6_halt wsX6_save := goodIn_r _ [25, 26, 27, 21, 44, 45, 46, 47, 48, 49, 50, 51, 52, 53, 54, 55, 56, 57, 58, 59, 60] rfl (by decide +kernel)
set_option maxRecDepth 100000 in
theorem gX6_halt_X6_save : GoodIn wsX6_halt (wsV RX6 119 RX6 yX6_save wsX6_save) := goodIn_app (goodIn_r _ [22, 23, 24, 4] rfl (by decide +kernel)) ggX6_halt_X6_save
set_option maxRecDepth 100000 in
theorem ggX6_halt_X6_haltNow : GoodIn wsX6_halt wsX6_haltNow := goodIn_r _ [31, 32, 33, 34, 4, 35, 21, 36, 37, 38, 39, 40, 41, 42, 43, 17, 18, 19, 20, 44, 45, 46, 47, 48, 49, 50, 51, 52, 53, 54, 55, 56, 57, 58, 59, 60] rfl (by decide +kernel)
set_option maxRecDepth 100000 in
theorem gX6_halt_X6_haltNow : GoodIn wsX6_halt (wsV RX6 131 RX6 yX6_haltNow wsX6_haltNow) := goodIn_app (goodIn_r _ [28, 29, 30, 4] rfl (by decide +kernel)) ggX6_halt_X6_haltNow
theorem dX6_halt_0 : decode cX6_halt 0 = .ok (.aload_n 0, 1) := by decide +kernel
theorem dX6_halt_1 : decode cX6_halt 1 = .ok (.iconst 0, 1) := by decide +kernel
theorem dX6_halt_2 : decode cX6_halt 2 = .ok (.putfield 41, 3) := by decide +kernel
theorem dX6_halt_5 : decode cX6_halt 5 = .ok (.iload_n 1, 1) := by decide +kernel
theorem dX6_halt_6 : decode cX6_halt 6 = .ok (.invokestatic 112, 3) := by decide +kernel
theorem dX6_halt_9 : decode cX6_halt 9 = .ok (.ifCond .ne 9, 3) := by decide +kernel
theorem dX6_halt_12 : decode cX6_halt 12 = .ok (.aload_n 0, 1) := by decide +kernel
theorem dX6_halt_13 : decode cX6_halt 13 = .ok (.iconst 1, 1) := by decide +kernel
theorem dX6_halt_14 : decode cX6_halt 14 = .ok (.invokevirtual 116, 3) := by decide +kernel
theorem dX6_halt_17 : decode cX6_halt 17 = .ok (.ireturn, 1) := by decide +kernel
theorem dX6_halt_18 : decode cX6_halt 18 = .ok (.aload_n 0, 1) := by decide +kernel
theorem dX6_halt_19 : decode cX6_halt 19 = .ok (.iload_n 1, 1) := by decide +kernel
theorem dX6_halt_20 : decode cX6_halt 20 = .ok (.invokevirtual 128, 3) := by decide +kernel
theorem dX6_halt_23 : decode cX6_halt 23 = .ok (.ifCond .ne 9, 3) := by decide +kernel
theorem dX6_halt_26 : decode cX6_halt 26 = .ok (.aload_n 0, 1) := by decide +kernel
theorem dX6_halt_27 : decode cX6_halt 27 = .ok (.iconst 2, 1) := by decide +kernel
theorem dX6_halt_28 : decode cX6_halt 28 = .ok (.invokevirtual 116, 3) := by decide +kernel
theorem dX6_halt_31 : decode cX6_halt 31 = .ok (.ireturn, 1) := by decide +kernel
theorem dX6_halt_32 : decode cX6_halt 32 = .ok (.aload_n 0, 1) := by decide +kernel
theorem dX6_halt_33 : decode cX6_halt 33 = .ok (.invokevirtual 119, 3) := by decide +kernel
theorem dX6_halt_36 : decode cX6_halt 36 = .ok (.aload_n 0, 1) := by decide +kernel
theorem dX6_halt_37 : decode cX6_halt 37 = .ok (.iload_n 1, 1) := by decide +kernel
theorem dX6_halt_38 : decode cX6_halt 38 = .ok (.invokevirtual 131, 3) := by decide +kernel
theorem dX6_halt_41 : decode cX6_halt 41 = .ok (.ireturn, 1) := by decide +kernel
set_option maxRecDepth 100000 in
theorem ggX6_close_X6_isSet : GoodIn wsX6_close wsX6_isSet := goodIn_r _ [5, 6, 7, 4, 8] rfl (by decide +kernel)
set_option maxRecDepth 100000 in
theorem gX6_close_X6_isSet : GoodIn wsX6_close (va_wsS RX6 112 yX6_isSet wsX6_isSet) := goodIn_app (goodIn_r _ [2, 3, 4] rfl (by decide +kernel)) ggX6_close_X6_isSet
set_option maxRecDepth 100000 in
theorem ggX6_close_X6_fails : GoodIn wsX6_close wsX6_fails := goodIn_r _ [12, 1, 74, 75, 76, 77, 78, 79, 80, 81, 82, 83, 84, 85, 86, 87, 88, 89, 90] rfl (by decide +kernel)
set_option maxRecDepth 100000 in
theorem gX6_close_X6_fails : GoodIn wsX6_close (wsV RX6 116 RX6 yX6_fails wsX6_fails) := goodIn_app (goodIn_r _ [9, 10, 11, 4] rfl (by decide +kernel)) ggX6_close_X6_fails
set_option maxRecDepth 100000 in
theorem ggX6_close_X6_reason : GoodIn wsX6_close wsX6_reason := goodIn_r _ [16, 17, 18, 19, 20, 4, 21, 22, 23, 24, 25, 26, 27, 28, 29, 30, 31, 32, 33, 34, 35, 36, 37, 38, 39, 40, 41, 42, 43, 44, 45, 46, 47, 48, 49, 50, 51, 52, 53, 54, 55, 74, 75, 76, 77, 78, 79, 80, 81, 82, 83, 84, 85, 86, 87, 88, 89, 90] rfl (by decide +kernel)
set_option maxRecDepth 100000 in
theorem gX6_close_X6_reason : GoodIn wsX6_close (wsV RX6 134 RX6 yX6_reason wsX6_reason) := goodIn_app (goodIn_r _ [13, 14, 15, 4] rfl (by decide +kernel)) ggX6_close_X6_reason
set_option maxRecDepth 100000 in
theorem ggX6_close_X6_save : GoodIn wsX6_close wsX6_save := goodIn_r _ [59, 60, 61, 17, 74, 75, 76, 77, 78, 79, 80, 81, 82, 83, 84, 85, 86, 87, 88, 89, 90] rfl (by decide +kernel)
set_option maxRecDepth 100000 in
theorem gX6_close_X6_save : GoodIn wsX6_close (wsV RX6 119 RX6 yX6_save wsX6_save) := goodIn_app (goodIn_r _ [56, 57, 58, 4] rfl (by decide +kernel)) ggX6_close_X6_save
set_option maxRecDepth 100000 in
theorem ggX6_close_X6_switchNow : GoodIn wsX6_close wsX6_switchNow := goodIn_r _ [65, 66, 67, 68, 4, 69, 17, 70, 71, 72, 73, 30, 31, 32, 33, 22, 23, 24, 25, 26, 27, 28, 29, 18, 19, 20, 21, 34, 35, 36, 37, 38, 39, 40, 41, 42, 43, 44, 45, 46, 47, 48, 49, 74, 75, 76, 77, 78, 79, 80, 81, 82, 83, 84, 85, 86, 87, 88, 89, 90] rfl (by decide +kernel)
set_option maxRecDepth 100000 in
theorem gX6_close_X6_switchNow : GoodIn wsX6_close (wsV RX6 137 RX6 yX6_switchNow wsX6_switchNow) := goodIn_app (goodIn_r _ [62, 63, 64, 4] rfl (by decide +kernel)) ggX6_close_X6_switchNow
theorem dX6_close_0 : decode cX6_close 0 = .ok (.aload_n 0, 1) := by decide +kernel
theorem dX6_close_1 : decode cX6_close 1 = .ok (.iconst 0, 1) := by decide +kernel
theorem dX6_close_2 : decode cX6_close 2 = .ok (.putfield 41, 3) := by decide +kernel
theorem dX6_close_5 : decode cX6_close 5 = .ok (.iload_n 1, 1) := by decide +kernel
theorem dX6_close_6 : decode cX6_close 6 = .ok (.invokestatic 112, 3) := by decide +kernel
theorem dX6_close_9 : decode cX6_close 9 = .ok (.ifCond .ne 9, 3) := by decide +kernel
theorem dX6_close_12 : decode cX6_close 12 = .ok (.aload_n 0, 1) := by decide +kernel
theorem dX6_close_13 : decode cX6_close 13 = .ok (.iconst 1, 1) := by decide +kernel
theorem dX6_close_14 : decode cX6_close 14 = .ok (.invokevirtual 116, 3) := by decide +kernel
theorem dX6_close_17 : decode cX6_close 17 = .ok (.ireturn, 1) := by decide +kernel
theorem dX6_close_18 : decode cX6_close 18 = .ok (.aload_n 0, 1) := by decide +kernel
theorem dX6_close_19 : decode cX6_close 19 = .ok (.iload_n 1, 1) := by decide +kernel
theorem dX6_close_20 : decode cX6_close 20 = .ok (.invokevirtual 134, 3) := by decide +kernel
theorem dX6_close_23 : decode cX6_close 23 = .ok (.ifCond .le 9, 3) := by decide +kernel
theorem dX6_close_26 : decode cX6_close 26 = .ok (.aload_n 0, 1) := by decide +kernel
theorem dX6_close_27 : decode cX6_close 27 = .ok (.iconst 2, 1) := by decide +kernel
theorem dX6_close_28 : decode cX6_close 28 = .ok (.invokevirtual 116, 3) := by decide +kernel
theorem dX6_close_31 : decode cX6_close 31 = .ok (.ireturn, 1) := by decide +kernel
theorem dX6_close_32 : decode cX6_close 32 = .ok (.aload_n 0, 1) := by decide +kernel
theorem dX6_close_33 : decode cX6_close 33 = .ok (.invokevirtual 119, 3) := by decide +kernel
theorem dX6_close_36 : decode cX6_close 36 = .ok (.aload_n 0, 1) := by decide +kernel
theorem dX6_close_37 : decode cX6_close 37 = .ok (.iload_n 1, 1) := by decide +kernel
theorem dX6_close_38 : decode cX6_close 38 = .ok (.iconst 1, 1) := by decide +kernel
theorem dX6_close_39 : decode cX6_close 39 = .ok (.invokevirtual 137, 3) := by decide +kernel
theorem dX6_close_42 : decode cX6_close 42 = .ok (.ireturn, 1) := by decide +kernel
set_option maxRecDepth 100000 in
theorem ggX6_open_X6_isSet : GoodIn wsX6_open wsX6_isSet := goodIn_r _ [5, 6, 7, 4, 8] rfl (by decide +kernel)
set_option maxRecDepth 100000 in
theorem gX6_open_X6_isSet : GoodIn wsX6_open (va_wsS RX6 112 yX6_isSet wsX6_isSet) := goodIn_app (goodIn_r _ [2, 3, 4] rfl (by decide +kernel)) ggX6_open_X6_isSet
set_option maxRecDepth 100000 in
theorem ggX6_open_X6_fails : GoodIn wsX6_open wsX6_fails := goodIn_r _ [12, 1, 64, 65, 66, 67, 68, 69, 70, 71, 72, 73, 74, 75, 76, 77, 78, 79, 80] rfl (by decide +kernel)
set_option maxRecDepth 100000 in
theorem gX6_open_X6_fails : GoodIn wsX6_open (wsV RX6 116 RX6 yX6_fails wsX6_fails) := goodIn_app (goodIn_r _ [9, 10, 11, 4] rfl (by decide +kernel)) ggX6_open_X6_fails
set_option maxRecDepth 100000 in
theorem ggX6_open_X6_of : GoodIn wsX6_open wsX6_of := goodIn_r _ [16, 17, 64, 65, 66, 67, 68, 69, 70, 71, 72, 73, 74, 75, 76, 77, 78, 79, 80] rfl (by decide +kernel)
set_option maxRecDepth 100000 in
theorem gX6_open_X6_of : GoodIn wsX6_open (wsV RX6 52 RX6 yX6_of wsX6_of) := goodIn_app (goodIn_r _ [13, 14, 15, 4] rfl (by decide +kernel)) ggX6_open_X6_of
set_option maxRecDepth 100000 in
theorem ggX6_open_X6_save : GoodIn wsX6_open wsX6_save := goodIn_r _ [21, 22, 23, 17, 64, 65, 66, 67, 68, 69, 70, 71, 72, 73, 74, 75, 76, 77, 78, 79, 80] rfl (by decide +kernel)
set_option maxRecDepth 100000 in
theorem gX6_open_X6_save : GoodIn wsX6_open (wsV RX6 119 RX6 yX6_save wsX6_save) := goodIn_app (goodIn_r _ [18, 19, 20, 4] rfl (by decide +kernel)) ggX6_open_X6_save
set_option maxRecDepth 100000 in
theorem ggX6_open_X6_switchNow : GoodIn wsX6_open wsX6_switchNow := goodIn_r _ [27, 28, 29, 30, 4, 31, 17, 32, 33, 34, 35, 36, 37, 38, 39, 40, 41, 42, 43, 44, 45, 46, 47, 13, 14, 15, 16, 48, 49, 50, 51, 52, 53, 54, 55, 56, 57, 58, 59, 60, 61, 62, 63, 64, 65, 66, 67, 68, 69, 70, 71, 72, 73, 74, 75, 76, 77, 78, 79, 80] rfl (by decide +kernel)
set_option maxRecDepth 100000 in
theorem gX6_open_X6_switchNow : GoodIn wsX6_open (wsV RX6 137 RX6 yX6_switchNow wsX6_switchNow) := goodIn_app (goodIn_r _ [24, 25, 26, 4] rfl (by decide +kernel)) ggX6_open_X6_switchNow
theorem dX6_open_0 : decode cX6_open 0 = .ok (.aload_n 0, 1) := by decide +kernel
theorem dX6_open_1 : decode cX6_open 1 = .ok (.iconst 0, 1) := by decide +kernel
theorem dX6_open_2 : decode cX6_open 2 = .ok (.putfield 41, 3) := by decide +kernel
theorem dX6_open_5 : decode cX6_open 5 = .ok (.iload_n 1, 1) := by decide +kernel
theorem dX6_open_6 : decode cX6_open 6 = .ok (.invokestatic 112, 3) := by decide +kernel
theorem dX6_open_9 : decode cX6_open 9 = .ok (.ifCond .ne 9, 3) := by decide +kernel
theorem dX6_open_12 : decode cX6_open 12 = .ok (.aload_n 0, 1) := by decide +kernel
theorem dX6_open_13 : decode cX6_open 13 = .ok (.iconst 1, 1) := by decide +kernel
theorem dX6_open_14 : decode cX6_open 14 = .ok (.invokevirtual 116, 3) := by decide +kernel
theorem dX6_open_17 : decode cX6_open 17 = .ok (.ireturn, 1) := by decide +kernel
theorem dX6_open_18 : decode cX6_open 18 = .ok (.aload_n 0, 1) := by decide +kernel
theorem dX6_open_19 : decode cX6_open 19 = .ok (.iload_n 1, 1) := by decide +kernel
theorem dX6_open_20 : decode cX6_open 20 = .ok (.iconst 4, 1) := by decide +kernel
theorem dX6_open_21 : decode cX6_open 21 = .ok (.invokevirtual 52, 3) := by decide +kernel
theorem dX6_open_24 : decode cX6_open 24 = .ok (.ifCond .ne 9, 3) := by decide +kernel
theorem dX6_open_27 : decode cX6_open 27 = .ok (.aload_n 0, 1) := by decide +kernel
theorem dX6_open_28 : decode cX6_open 28 = .ok (.iconst 2, 1) := by decide +kernel
theorem dX6_open_29 : decode cX6_open 29 = .ok (.invokevirtual 116, 3) := by decide +kernel
theorem dX6_open_32 : decode cX6_open 32 = .ok (.ireturn, 1) := by decide +kernel
theorem dX6_open_33 : decode cX6_open 33 = .ok (.aload_n 0, 1) := by decide +kernel
theorem dX6_open_34 : decode cX6_open 34 = .ok (.invokevirtual 119, 3) := by decide +kernel
theorem dX6_open_37 : decode cX6_open 37 = .ok (.aload_n 0, 1) := by decide +kernel
theorem dX6_open_38 : decode cX6_open 38 = .ok (.iload_n 1, 1) := by decide +kernel
theorem dX6_open_39 : decode cX6_open 39 = .ok (.iconst 0, 1) := by decide +kernel
theorem dX6_open_40 : decode cX6_open 40 = .ok (.invokevirtual 137, 3) := by decide +kernel
theorem dX6_open_43 : decode cX6_open 43 = .ok (.ireturn, 1) := by decide +kernel
set_option maxRecDepth 100000 in
theorem ggX6_load__X6_isFeeder : GoodIn wsX6_load_ wsX6_isFeeder := goodIn_r _ [6, 7, 8, 5, 9] rfl (by decide +kernel)
set_option maxRecDepth 100000 in
theorem gX6_load__X6_isFeeder : GoodIn wsX6_load_ (va_wsS RX6 140 yX6_isFeeder wsX6_isFeeder) := goodIn_app (goodIn_r _ [3, 4, 5] rfl (by decide +kernel)) ggX6_load__X6_isFeeder
set_option maxRecDepth 100000 in
theorem ggX6_load__X6_fails : GoodIn wsX6_load_ wsX6_fails := goodIn_r _ [13, 1, 24, 25, 26, 27, 28, 29, 30, 31, 32, 33, 34, 35, 36, 37, 38, 39, 40] rfl (by decide +kernel)
set_option maxRecDepth 100000 in
theorem gX6_load__X6_fails : GoodIn wsX6_load_ (wsV RX6 116 RX6 yX6_fails wsX6_fails) := goodIn_app (goodIn_r _ [10, 11, 12, 5] rfl (by decide +kernel)) ggX6_load__X6_fails
set_option maxRecDepth 100000 in
theorem ggX6_load__X6_in : GoodIn wsX6_load_ wsX6_in := goodIn_r _ [9] rfl (by decide +kernel)
set_option maxRecDepth 100000 in
theorem gX6_load__X6_in : GoodIn wsX6_load_ (va_wsS RX6 45 yX6_in wsX6_in) := goodIn_app (goodIn_r _ [7, 8, 5] rfl (by decide +kernel)) ggX6_load__X6_in
set_option maxRecDepth 100000 in
theorem ggX6_load__X6_save : GoodIn wsX6_load_ wsX6_save := goodIn_r _ [17, 18, 19, 2, 24, 25, 26, 27, 28, 29, 30, 31, 32, 33, 34, 35, 36, 37, 38, 39, 40] rfl (by decide +kernel)
set_option maxRecDepth 100000 in
theorem gX6_load__X6_save : GoodIn wsX6_load_ (wsV RX6 119 RX6 yX6_save wsX6_save) := goodIn_app (goodIn_r _ [14, 15, 16, 5] rfl (by decide +kernel)) ggX6_load__X6_save
set_option maxRecDepth 100000 in
theorem ggX6_load__X6_ofLine : GoodIn wsX6_load_ wsX6_ofLine := goodIn_r _ [23, 2, 24, 25, 26, 27, 28, 29, 30, 31, 32, 33, 34, 35, 36, 37, 38, 39, 40] rfl (by decide +kernel)
set_option maxRecDepth 100000 in
theorem gX6_load__X6_ofLine : GoodIn wsX6_load_ (wsV RX6 64 RX6 yX6_ofLine wsX6_ofLine) := goodIn_app (goodIn_r _ [20, 21, 22, 5] rfl (by decide +kernel)) ggX6_load__X6_ofLine
theorem dX6_load__0 : decode cX6_load_ 0 = .ok (.aload_n 0, 1) := by decide +kernel
theorem dX6_load__1 : decode cX6_load_ 1 = .ok (.iconst 0, 1) := by decide +kernel
theorem dX6_load__2 : decode cX6_load_ 2 = .ok (.putfield 41, 3) := by decide +kernel
theorem dX6_load__5 : decode cX6_load_ 5 = .ok (.iload_n 1, 1) := by decide +kernel
theorem dX6_load__6 : decode cX6_load_ 6 = .ok (.invokestatic 140, 3) := by decide +kernel
theorem dX6_load__9 : decode cX6_load_ 9 = .ok (.ifCond .ne 9, 3) := by decide +kernel
theorem dX6_load__12 : decode cX6_load_ 12 = .ok (.aload_n 0, 1) := by decide +kernel
theorem dX6_load__13 : decode cX6_load_ 13 = .ok (.iconst 1, 1) := by decide +kernel
theorem dX6_load__14 : decode cX6_load_ 14 = .ok (.invokevirtual 116, 3) := by decide +kernel
theorem dX6_load__17 : decode cX6_load_ 17 = .ok (.ireturn, 1) := by decide +kernel
theorem dX6_load__18 : decode cX6_load_ 18 = .ok (.iload_n 2, 1) := by decide +kernel
theorem dX6_load__19 : decode cX6_load_ 19 = .ok (.iconst 0, 1) := by decide +kernel
theorem dX6_load__20 : decode cX6_load_ 20 = .ok (.sipush 300, 3) := by decide +kernel
theorem dX6_load__23 : decode cX6_load_ 23 = .ok (.invokestatic 45, 3) := by decide +kernel
theorem dX6_load__26 : decode cX6_load_ 26 = .ok (.ifCond .ne 9, 3) := by decide +kernel
theorem dX6_load__29 : decode cX6_load_ 29 = .ok (.aload_n 0, 1) := by decide +kernel
theorem dX6_load__30 : decode cX6_load_ 30 = .ok (.iconst 2, 1) := by decide +kernel
theorem dX6_load__31 : decode cX6_load_ 31 = .ok (.invokevirtual 116, 3) := by decide +kernel
theorem dX6_load__34 : decode cX6_load_ 34 = .ok (.ireturn, 1) := by decide +kernel
theorem dX6_load__35 : decode cX6_load_ 35 = .ok (.aload_n 0, 1) := by decide +kernel
theorem dX6_load__36 : decode cX6_load_ 36 = .ok (.invokevirtual 119, 3) := by decide +kernel
theorem dX6_load__39 : decode cX6_load_ 39 = .ok (.aload_n 0, 1) := by decide +kernel
theorem dX6_load__40 : decode cX6_load_ 40 = .ok (.iload_n 1, 1) := by decide +kernel
theorem dX6_load__41 : decode cX6_load_ 41 = .ok (.iconst 0, 1) := by decide +kernel
theorem dX6_load__42 : decode cX6_load_ 42 = .ok (.invokevirtual 64, 3) := by decide +kernel
theorem dX6_load__45 : decode cX6_load_ 45 = .ok (.istore_n 3, 1) := by decide +kernel
theorem dX6_load__46 : decode cX6_load_ 46 = .ok (.aload_n 0, 1) := by decide +kernel
theorem dX6_load__47 : decode cX6_load_ 47 = .ok (.getfield 7, 3) := by decide +kernel
theorem dX6_load__50 : decode cX6_load_ 50 = .ok (.bipush 38, 2) := by decide +kernel
theorem dX6_load__52 : decode cX6_load_ 52 = .ok (.iconst 3, 1) := by decide +kernel
theorem dX6_load__53 : decode cX6_load_ 53 = .ok (.iload_n 1, 1) := by decide +kernel
theorem dX6_load__54 : decode cX6_load_ 54 = .ok (.imul, 1) := by decide +kernel
theorem dX6_load__55 : decode cX6_load_ 55 = .ok (.iadd, 1) := by decide +kernel
theorem dX6_load__56 : decode cX6_load_ 56 = .ok (.iconst 0, 1) := by decide +kernel
theorem dX6_load__57 : decode cX6_load_ 57 = .ok (.iadd, 1) := by decide +kernel
theorem dX6_load__58 : decode cX6_load_ 58 = .ok (.iload_n 2, 1) := by decide +kernel
theorem dX6_load__59 : decode cX6_load_ 59 = .ok (.iastore, 1) := by decide +kernel
theorem dX6_load__60 : decode cX6_load_ 60 = .ok (.iload_n 3, 1) := by decide +kernel
theorem dX6_load__61 : decode cX6_load_ 61 = .ok (.ireturn, 1) := by decide +kernel
set_option maxRecDepth 100000 in
theorem ggX6_feeder_X6_isFeeder : GoodIn wsX6_feeder wsX6_isFeeder := goodIn_r _ [5, 6, 7, 4, 8] rfl (by decide +kernel)
set_option maxRecDepth 100000 in
theorem gX6_feeder_X6_isFeeder : GoodIn wsX6_feeder (va_wsS RX6 140 yX6_isFeeder wsX6_isFeeder) := goodIn_app (goodIn_r _ [2, 3, 4] rfl (by decide +kernel)) ggX6_feeder_X6_isFeeder
set_option maxRecDepth 100000 in
theorem ggX6_feeder_X6_fails : GoodIn wsX6_feeder wsX6_fails := goodIn_r _ [12, 1, 28, 29, 30, 31, 32, 33, 34, 35, 36, 37, 38, 39, 40, 41, 42, 43, 44] rfl (by decide +kernel)
set_option maxRecDepth 100000 in
theorem gX6_feeder_X6_fails : GoodIn wsX6_feeder (wsV RX6 116 RX6 yX6_fails wsX6_fails) := goodIn_app (goodIn_r _ [9, 10, 11, 4] rfl (by decide +kernel)) ggX6_feeder_X6_fails
set_option maxRecDepth 100000 in
theorem ggX6_feeder_X6_in : GoodIn wsX6_feeder wsX6_in := goodIn_r _ [8] rfl (by decide +kernel)
set_option maxRecDepth 100000 in
theorem gX6_feeder_X6_in : GoodIn wsX6_feeder (va_wsS RX6 45 yX6_in wsX6_in) := goodIn_app (goodIn_r _ [6, 7, 4] rfl (by decide +kernel)) ggX6_feeder_X6_in
set_option maxRecDepth 100000 in
theorem ggX6_feeder_X6_save : GoodIn wsX6_feeder wsX6_save := goodIn_r _ [16, 17, 18, 19, 28, 29, 30, 31, 32, 33, 34, 35, 36, 37, 38, 39, 40, 41, 42, 43, 44] rfl (by decide +kernel)
set_option maxRecDepth 100000 in
theorem gX6_feeder_X6_save : GoodIn wsX6_feeder (wsV RX6 119 RX6 yX6_save wsX6_save) := goodIn_app (goodIn_r _ [13, 14, 15, 4] rfl (by decide +kernel)) ggX6_feeder_X6_save
set_option maxRecDepth 100000 in
theorem ggX6_feeder_X6_feederNow : GoodIn wsX6_feeder wsX6_feederNow := goodIn_r _ [23, 19, 24, 25, 26, 4, 27, 28, 29, 30, 31, 32, 33, 34, 35, 36, 37, 38, 39, 40, 41, 42, 43, 44] rfl (by decide +kernel)
set_option maxRecDepth 100000 in
theorem gX6_feeder_X6_feederNow : GoodIn wsX6_feeder (wsV RX6 143 RX6 yX6_feederNow wsX6_feederNow) := goodIn_app (goodIn_r _ [20, 21, 22, 4] rfl (by decide +kernel)) ggX6_feeder_X6_feederNow
theorem dX6_feeder_0 : decode cX6_feeder 0 = .ok (.aload_n 0, 1) := by decide +kernel
theorem dX6_feeder_1 : decode cX6_feeder 1 = .ok (.iconst 0, 1) := by decide +kernel
theorem dX6_feeder_2 : decode cX6_feeder 2 = .ok (.putfield 41, 3) := by decide +kernel
theorem dX6_feeder_5 : decode cX6_feeder 5 = .ok (.iload_n 1, 1) := by decide +kernel
theorem dX6_feeder_6 : decode cX6_feeder 6 = .ok (.invokestatic 140, 3) := by decide +kernel
theorem dX6_feeder_9 : decode cX6_feeder 9 = .ok (.ifCond .ne 9, 3) := by decide +kernel
theorem dX6_feeder_12 : decode cX6_feeder 12 = .ok (.aload_n 0, 1) := by decide +kernel
theorem dX6_feeder_13 : decode cX6_feeder 13 = .ok (.iconst 1, 1) := by decide +kernel
theorem dX6_feeder_14 : decode cX6_feeder 14 = .ok (.invokevirtual 116, 3) := by decide +kernel
theorem dX6_feeder_17 : decode cX6_feeder 17 = .ok (.ireturn, 1) := by decide +kernel
theorem dX6_feeder_18 : decode cX6_feeder 18 = .ok (.iload_n 2, 1) := by decide +kernel
theorem dX6_feeder_19 : decode cX6_feeder 19 = .ok (.iconst 0, 1) := by decide +kernel
theorem dX6_feeder_20 : decode cX6_feeder 20 = .ok (.iconst 1, 1) := by decide +kernel
theorem dX6_feeder_21 : decode cX6_feeder 21 = .ok (.invokestatic 45, 3) := by decide +kernel
theorem dX6_feeder_24 : decode cX6_feeder 24 = .ok (.ifCond .ne 9, 3) := by decide +kernel
theorem dX6_feeder_27 : decode cX6_feeder 27 = .ok (.aload_n 0, 1) := by decide +kernel
theorem dX6_feeder_28 : decode cX6_feeder 28 = .ok (.iconst 2, 1) := by decide +kernel
theorem dX6_feeder_29 : decode cX6_feeder 29 = .ok (.invokevirtual 116, 3) := by decide +kernel
theorem dX6_feeder_32 : decode cX6_feeder 32 = .ok (.ireturn, 1) := by decide +kernel
theorem dX6_feeder_33 : decode cX6_feeder 33 = .ok (.aload_n 0, 1) := by decide +kernel
theorem dX6_feeder_34 : decode cX6_feeder 34 = .ok (.invokevirtual 119, 3) := by decide +kernel
theorem dX6_feeder_37 : decode cX6_feeder 37 = .ok (.aload_n 0, 1) := by decide +kernel
theorem dX6_feeder_38 : decode cX6_feeder 38 = .ok (.iload_n 1, 1) := by decide +kernel
theorem dX6_feeder_39 : decode cX6_feeder 39 = .ok (.iload_n 2, 1) := by decide +kernel
theorem dX6_feeder_40 : decode cX6_feeder 40 = .ok (.invokevirtual 143, 3) := by decide +kernel
theorem dX6_feeder_43 : decode cX6_feeder 43 = .ok (.ireturn, 1) := by decide +kernel
set_option maxRecDepth 100000 in
theorem ggX6_pass_X6_in : GoodIn wsX6_pass wsX6_in := goodIn_r _ [5] rfl (by decide +kernel)
set_option maxRecDepth 100000 in
theorem gX6_pass_X6_in : GoodIn wsX6_pass (va_wsS RX6 45 yX6_in wsX6_in) := goodIn_app (goodIn_r _ [2, 3, 4] rfl (by decide +kernel)) ggX6_pass_X6_in
set_option maxRecDepth 100000 in
theorem ggX6_pass_X6_fails : GoodIn wsX6_pass wsX6_fails := goodIn_r _ [9, 1, 87, 88, 89, 90, 91, 92, 93, 94, 95, 96, 97, 98, 99, 100, 101, 102, 103] rfl (by decide +kernel)
set_option maxRecDepth 100000 in
theorem gX6_pass_X6_fails : GoodIn wsX6_pass (wsV RX6 116 RX6 yX6_fails wsX6_fails) := goodIn_app (goodIn_r _ [6, 7, 8, 4] rfl (by decide +kernel)) ggX6_pass_X6_fails
set_option maxRecDepth 100000 in
theorem ggX6_pass_X6_save : GoodIn wsX6_pass wsX6_save := goodIn_r _ [13, 14, 15, 16, 87, 88, 89, 90, 91, 92, 93, 94, 95, 96, 97, 98, 99, 100, 101, 102, 103] rfl (by decide +kernel)
set_option maxRecDepth 100000 in
theorem gX6_pass_X6_save : GoodIn wsX6_pass (wsV RX6 119 RX6 yX6_save wsX6_save) := goodIn_app (goodIn_r _ [10, 11, 12, 4] rfl (by decide +kernel)) ggX6_pass_X6_save
set_option maxRecDepth 100000 in
theorem ggX6_pass_X6_passNow : GoodIn wsX6_pass wsX6_passNow := goodIn_r _ [20, 21, 22, 23, 4, 24, 16, 25, 26, 27, 28, 29, 30, 31, 32, 33, 34, 35, 36, 37, 38, 39, 40, 41, 42, 43, 44, 45, 46, 47, 48, 49, 50, 51, 52, 53, 54, 55, 56, 57, 58, 59, 60, 61, 62, 63, 64, 65, 66, 67, 68, 69, 70, 71, 72, 73, 74, 75, 76, 77, 78, 79, 80, 81, 82, 83, 84, 85, 86, 87, 88, 89, 90, 91, 92, 93, 94, 95, 96, 97, 98, 99, 100, 101, 102, 103] rfl (by decide +kernel)
set_option maxRecDepth 100000 in
theorem gX6_pass_X6_passNow : GoodIn wsX6_pass (wsV RX6 146 RX6 yX6_passNow wsX6_passNow) := goodIn_app (goodIn_r _ [17, 18, 19, 4] rfl (by decide +kernel)) ggX6_pass_X6_passNow
theorem dX6_pass_0 : decode cX6_pass 0 = .ok (.aload_n 0, 1) := by decide +kernel
theorem dX6_pass_1 : decode cX6_pass 1 = .ok (.iconst 0, 1) := by decide +kernel
theorem dX6_pass_2 : decode cX6_pass 2 = .ok (.putfield 41, 3) := by decide +kernel
theorem dX6_pass_5 : decode cX6_pass 5 = .ok (.iload_n 1, 1) := by decide +kernel
theorem dX6_pass_6 : decode cX6_pass 6 = .ok (.iconst 1, 1) := by decide +kernel
theorem dX6_pass_7 : decode cX6_pass 7 = .ok (.bipush 99, 2) := by decide +kernel
theorem dX6_pass_9 : decode cX6_pass 9 = .ok (.invokestatic 45, 3) := by decide +kernel
theorem dX6_pass_12 : decode cX6_pass 12 = .ok (.ifCond .ne 9, 3) := by decide +kernel
theorem dX6_pass_15 : decode cX6_pass 15 = .ok (.aload_n 0, 1) := by decide +kernel
theorem dX6_pass_16 : decode cX6_pass 16 = .ok (.iconst 1, 1) := by decide +kernel
theorem dX6_pass_17 : decode cX6_pass 17 = .ok (.invokevirtual 116, 3) := by decide +kernel
theorem dX6_pass_20 : decode cX6_pass 20 = .ok (.ireturn, 1) := by decide +kernel
theorem dX6_pass_21 : decode cX6_pass 21 = .ok (.aload_n 0, 1) := by decide +kernel
theorem dX6_pass_22 : decode cX6_pass 22 = .ok (.invokevirtual 119, 3) := by decide +kernel
theorem dX6_pass_25 : decode cX6_pass 25 = .ok (.aload_n 0, 1) := by decide +kernel
theorem dX6_pass_26 : decode cX6_pass 26 = .ok (.iload_n 1, 1) := by decide +kernel
theorem dX6_pass_27 : decode cX6_pass 27 = .ok (.invokevirtual 146, 3) := by decide +kernel
theorem dX6_pass_30 : decode cX6_pass 30 = .ok (.ireturn, 1) := by decide +kernel
set_option maxRecDepth 100000 in
theorem ggX6_maySet_X6_in : GoodIn wsX6_maySet wsX6_in := goodIn_r _ [4] rfl (by decide +kernel)
set_option maxRecDepth 100000 in
theorem gX6_maySet_X6_in : GoodIn wsX6_maySet (va_wsS RX6 45 yX6_in wsX6_in) := goodIn_app (goodIn_r _ [1, 2, 3] rfl (by decide +kernel)) ggX6_maySet_X6_in
theorem dX6_maySet_0 : decode cX6_maySet 0 = .ok (.iload_n 0, 1) := by decide +kernel
theorem dX6_maySet_1 : decode cX6_maySet 1 = .ok (.iconst 2, 1) := by decide +kernel
theorem dX6_maySet_2 : decode cX6_maySet 2 = .ok (.if_icmp .ge 13, 3) := by decide +kernel
theorem dX6_maySet_5 : decode cX6_maySet 5 = .ok (.iload_n 1, 1) := by decide +kernel
theorem dX6_maySet_6 : decode cX6_maySet 6 = .ok (.iconst 1, 1) := by decide +kernel
theorem dX6_maySet_7 : decode cX6_maySet 7 = .ok (.bipush 9, 2) := by decide +kernel
theorem dX6_maySet_9 : decode cX6_maySet 9 = .ok (.invokestatic 45, 3) := by decide +kernel
theorem dX6_maySet_12 : decode cX6_maySet 12 = .ok (.goto 21, 3) := by decide +kernel
theorem dX6_maySet_15 : decode cX6_maySet 15 = .ok (.iload_n 1, 1) := by decide +kernel
theorem dX6_maySet_16 : decode cX6_maySet 16 = .ok (.iconst 0, 1) := by decide +kernel
theorem dX6_maySet_17 : decode cX6_maySet 17 = .ok (.iload_n 0, 1) := by decide +kernel
theorem dX6_maySet_18 : decode cX6_maySet 18 = .ok (.iconst 2, 1) := by decide +kernel
theorem dX6_maySet_19 : decode cX6_maySet 19 = .ok (.if_icmp .ne 8, 3) := by decide +kernel
theorem dX6_maySet_22 : decode cX6_maySet 22 = .ok (.bipush 50, 2) := by decide +kernel
theorem dX6_maySet_24 : decode cX6_maySet 24 = .ok (.goto 6, 3) := by decide +kernel
theorem dX6_maySet_27 : decode cX6_maySet 27 = .ok (.sipush 200, 3) := by decide +kernel
theorem dX6_maySet_30 : decode cX6_maySet 30 = .ok (.invokestatic 45, 3) := by decide +kernel
theorem dX6_maySet_33 : decode cX6_maySet 33 = .ok (.ireturn, 1) := by decide +kernel
set_option maxRecDepth 100000 in
theorem ggX6_set_X6_in : GoodIn wsX6_set wsX6_in := goodIn_r _ [6] rfl (by decide +kernel)
set_option maxRecDepth 100000 in
theorem gX6_set_X6_in : GoodIn wsX6_set (va_wsS RX6 45 yX6_in wsX6_in) := goodIn_app (goodIn_r _ [3, 4, 5] rfl (by decide +kernel)) ggX6_set_X6_in
set_option maxRecDepth 100000 in
theorem ggX6_set_X6_fails : GoodIn wsX6_set wsX6_fails := goodIn_r _ [10, 1, 20, 21, 22, 23, 24, 25, 26, 27, 28, 29, 30, 31, 32, 33, 34, 35, 36] rfl (by decide +kernel)
set_option maxRecDepth 100000 in
theorem gX6_set_X6_fails : GoodIn wsX6_set (wsV RX6 116 RX6 yX6_fails wsX6_fails) := goodIn_app (goodIn_r _ [7, 8, 9, 5] rfl (by decide +kernel)) ggX6_set_X6_fails
set_option maxRecDepth 100000 in
theorem ggX6_set_X6_maySet : GoodIn wsX6_set wsX6_maySet := goodIn_r _ [13, 3, 4, 5, 6] rfl (by decide +kernel)
set_option maxRecDepth 100000 in
theorem gX6_set_X6_maySet : GoodIn wsX6_set (va_wsS RX6 149 yX6_maySet wsX6_maySet) := goodIn_app (goodIn_r _ [11, 12, 5] rfl (by decide +kernel)) ggX6_set_X6_maySet
set_option maxRecDepth 100000 in
theorem ggX6_set_X6_save : GoodIn wsX6_set wsX6_save := goodIn_r _ [17, 18, 19, 2, 20, 21, 22, 23, 24, 25, 26, 27, 28, 29, 30, 31, 32, 33, 34, 35, 36] rfl (by decide +kernel)
set_option maxRecDepth 100000 in
theorem gX6_set_X6_save : GoodIn wsX6_set (wsV RX6 119 RX6 yX6_save wsX6_save) := goodIn_app (goodIn_r _ [14, 15, 16, 5] rfl (by decide +kernel)) ggX6_set_X6_save
theorem dX6_set_0 : decode cX6_set 0 = .ok (.aload_n 0, 1) := by decide +kernel
theorem dX6_set_1 : decode cX6_set 1 = .ok (.iconst 0, 1) := by decide +kernel
theorem dX6_set_2 : decode cX6_set 2 = .ok (.putfield 41, 3) := by decide +kernel
theorem dX6_set_5 : decode cX6_set 5 = .ok (.iload_n 1, 1) := by decide +kernel
theorem dX6_set_6 : decode cX6_set 6 = .ok (.iconst 0, 1) := by decide +kernel
theorem dX6_set_7 : decode cX6_set 7 = .ok (.iconst 3, 1) := by decide +kernel
theorem dX6_set_8 : decode cX6_set 8 = .ok (.invokestatic 45, 3) := by decide +kernel
theorem dX6_set_11 : decode cX6_set 11 = .ok (.ifCond .ne 9, 3) := by decide +kernel
theorem dX6_set_14 : decode cX6_set 14 = .ok (.aload_n 0, 1) := by decide +kernel
theorem dX6_set_15 : decode cX6_set 15 = .ok (.iconst 1, 1) := by decide +kernel
theorem dX6_set_16 : decode cX6_set 16 = .ok (.invokevirtual 116, 3) := by decide +kernel
theorem dX6_set_19 : decode cX6_set 19 = .ok (.ireturn, 1) := by decide +kernel
theorem dX6_set_20 : decode cX6_set 20 = .ok (.iload_n 1, 1) := by decide +kernel
theorem dX6_set_21 : decode cX6_set 21 = .ok (.iload_n 2, 1) := by decide +kernel
theorem dX6_set_22 : decode cX6_set 22 = .ok (.invokestatic 149, 3) := by decide +kernel
theorem dX6_set_25 : decode cX6_set 25 = .ok (.ifCond .ne 9, 3) := by decide +kernel
theorem dX6_set_28 : decode cX6_set 28 = .ok (.aload_n 0, 1) := by decide +kernel
theorem dX6_set_29 : decode cX6_set 29 = .ok (.iconst 2, 1) := by decide +kernel
theorem dX6_set_30 : decode cX6_set 30 = .ok (.invokevirtual 116, 3) := by decide +kernel
theorem dX6_set_33 : decode cX6_set 33 = .ok (.ireturn, 1) := by decide +kernel
theorem dX6_set_34 : decode cX6_set 34 = .ok (.aload_n 0, 1) := by decide +kernel
theorem dX6_set_35 : decode cX6_set 35 = .ok (.invokevirtual 119, 3) := by decide +kernel
theorem dX6_set_38 : decode cX6_set 38 = .ok (.aload_n 0, 1) := by decide +kernel
theorem dX6_set_39 : decode cX6_set 39 = .ok (.getfield 7, 3) := by decide +kernel
theorem dX6_set_42 : decode cX6_set 42 = .ok (.iload_n 1, 1) := by decide +kernel
theorem dX6_set_43 : decode cX6_set 43 = .ok (.iaload, 1) := by decide +kernel
theorem dX6_set_44 : decode cX6_set 44 = .ok (.istore_n 3, 1) := by decide +kernel
theorem dX6_set_45 : decode cX6_set 45 = .ok (.aload_n 0, 1) := by decide +kernel
theorem dX6_set_46 : decode cX6_set 46 = .ok (.getfield 7, 3) := by decide +kernel
theorem dX6_set_49 : decode cX6_set 49 = .ok (.iload_n 1, 1) := by decide +kernel
theorem dX6_set_50 : decode cX6_set 50 = .ok (.iload_n 2, 1) := by decide +kernel
theorem dX6_set_51 : decode cX6_set 51 = .ok (.iastore, 1) := by decide +kernel
theorem dX6_set_52 : decode cX6_set 52 = .ok (.iload_n 3, 1) := by decide +kernel
theorem dX6_set_53 : decode cX6_set 53 = .ok (.ireturn, 1) := by decide +kernel
set_option maxRecDepth 100000 in
theorem ggX6_append_X6_in : GoodIn wsX6_append wsX6_in := goodIn_r _ [7] rfl (by decide +kernel)
set_option maxRecDepth 100000 in
theorem gX6_append_X6_in : GoodIn wsX6_append (va_wsS RX6 45 yX6_in wsX6_in) := goodIn_app (goodIn_r _ [4, 5, 6] rfl (by decide +kernel)) ggX6_append_X6_in
set_option maxRecDepth 100000 in
theorem ggX6_append_X6_fails : GoodIn wsX6_append wsX6_fails := goodIn_r _ [11, 1, 12, 13, 14, 15, 16, 17, 18, 19, 20, 21, 22, 23, 24, 25, 26, 27, 28] rfl (by decide +kernel)
set_option maxRecDepth 100000 in
theorem gX6_append_X6_fails : GoodIn wsX6_append (wsV RX6 116 RX6 yX6_fails wsX6_fails) := goodIn_app (goodIn_r _ [8, 9, 10, 6] rfl (by decide +kernel)) ggX6_append_X6_fails
theorem dX6_append_0 : decode cX6_append 0 = .ok (.aload_n 0, 1) := by decide +kernel
theorem dX6_append_1 : decode cX6_append 1 = .ok (.iconst 0, 1) := by decide +kernel
theorem dX6_append_2 : decode cX6_append 2 = .ok (.putfield 41, 3) := by decide +kernel
theorem dX6_append_5 : decode cX6_append 5 = .ok (.iload_n 1, 1) := by decide +kernel
theorem dX6_append_6 : decode cX6_append 6 = .ok (.bipush 33, 2) := by decide +kernel
theorem dX6_append_8 : decode cX6_append 8 = .ok (.bipush 126, 2) := by decide +kernel
theorem dX6_append_10 : decode cX6_append 10 = .ok (.invokestatic 45, 3) := by decide +kernel
theorem dX6_append_13 : decode cX6_append 13 = .ok (.ifCond .ne 9, 3) := by decide +kernel
theorem dX6_append_16 : decode cX6_append 16 = .ok (.aload_n 0, 1) := by decide +kernel
theorem dX6_append_17 : decode cX6_append 17 = .ok (.iconst 1, 1) := by decide +kernel
theorem dX6_append_18 : decode cX6_append 18 = .ok (.invokevirtual 116, 3) := by decide +kernel
theorem dX6_append_21 : decode cX6_append 21 = .ok (.ireturn, 1) := by decide +kernel
theorem dX6_append_22 : decode cX6_append 22 = .ok (.aload_n 0, 1) := by decide +kernel
theorem dX6_append_23 : decode cX6_append 23 = .ok (.getfield 153, 3) := by decide +kernel
theorem dX6_append_26 : decode cX6_append 26 = .ok (.bipush 60, 2) := by decide +kernel
theorem dX6_append_28 : decode cX6_append 28 = .ok (.if_icmp .ne 9, 3) := by decide +kernel
theorem dX6_append_31 : decode cX6_append 31 = .ok (.aload_n 0, 1) := by decide +kernel
theorem dX6_append_32 : decode cX6_append 32 = .ok (.iconst 2, 1) := by decide +kernel
theorem dX6_append_33 : decode cX6_append 33 = .ok (.invokevirtual 116, 3) := by decide +kernel
theorem dX6_append_36 : decode cX6_append 36 = .ok (.ireturn, 1) := by decide +kernel
theorem dX6_append_37 : decode cX6_append 37 = .ok (.aload_n 0, 1) := by decide +kernel
theorem dX6_append_38 : decode cX6_append 38 = .ok (.getfield 25, 3) := by decide +kernel
theorem dX6_append_41 : decode cX6_append 41 = .ok (.aload_n 0, 1) := by decide +kernel
theorem dX6_append_42 : decode cX6_append 42 = .ok (.getfield 153, 3) := by decide +kernel
theorem dX6_append_45 : decode cX6_append 45 = .ok (.iload_n 1, 1) := by decide +kernel
theorem dX6_append_46 : decode cX6_append 46 = .ok (.iastore, 1) := by decide +kernel
theorem dX6_append_47 : decode cX6_append 47 = .ok (.aload_n 0, 1) := by decide +kernel
theorem dX6_append_48 : decode cX6_append 48 = .ok (.dup, 1) := by decide +kernel
theorem dX6_append_49 : decode cX6_append 49 = .ok (.getfield 153, 3) := by decide +kernel
theorem dX6_append_52 : decode cX6_append 52 = .ok (.iconst 1, 1) := by decide +kernel
theorem dX6_append_53 : decode cX6_append 53 = .ok (.iadd, 1) := by decide +kernel
theorem dX6_append_54 : decode cX6_append 54 = .ok (.putfield 153, 3) := by decide +kernel
theorem dX6_append_57 : decode cX6_append 57 = .ok (.aload_n 0, 1) := by decide +kernel
theorem dX6_append_58 : decode cX6_append 58 = .ok (.getfield 153, 3) := by decide +kernel
theorem dX6_append_61 : decode cX6_append 61 = .ok (.ireturn, 1) := by decide +kernel
theorem dX6_clearBuffer_0 : decode cX6_clearBuffer 0 = .ok (.aload_n 0, 1) := by decide +kernel
theorem dX6_clearBuffer_1 : decode cX6_clearBuffer 1 = .ok (.iconst 0, 1) := by decide +kernel
theorem dX6_clearBuffer_2 : decode cX6_clearBuffer 2 = .ok (.putfield 41, 3) := by decide +kernel
theorem dX6_clearBuffer_5 : decode cX6_clearBuffer 5 = .ok (.aload_n 0, 1) := by decide +kernel
theorem dX6_clearBuffer_6 : decode cX6_clearBuffer 6 = .ok (.getfield 153, 3) := by decide +kernel
theorem dX6_clearBuffer_9 : decode cX6_clearBuffer 9 = .ok (.istore_n 1, 1) := by decide +kernel
theorem dX6_clearBuffer_10 : decode cX6_clearBuffer 10 = .ok (.aload_n 0, 1) := by decide +kernel
theorem dX6_clearBuffer_11 : decode cX6_clearBuffer 11 = .ok (.iconst 0, 1) := by decide +kernel
theorem dX6_clearBuffer_12 : decode cX6_clearBuffer 12 = .ok (.putfield 153, 3) := by decide +kernel
theorem dX6_clearBuffer_15 : decode cX6_clearBuffer 15 = .ok (.iload_n 1, 1) := by decide +kernel
theorem dX6_clearBuffer_16 : decode cX6_clearBuffer 16 = .ok (.ireturn, 1) := by decide +kernel
set_option maxRecDepth 100000 in
theorem ggX6_takes_X6_in : GoodIn wsX6_takes wsX6_in := goodIn_r _ [7] rfl (by decide +kernel)
set_option maxRecDepth 100000 in
theorem gX6_takes_X6_in : GoodIn wsX6_takes (va_wsS RX6 45 yX6_in wsX6_in) := goodIn_app (goodIn_r _ [4, 5, 6] rfl (by decide +kernel)) ggX6_takes_X6_in
theorem dX6_takes_0 : decode cX6_takes 0 = .ok (.aload_n 0, 1) := by decide +kernel
theorem dX6_takes_1 : decode cX6_takes 1 = .ok (.getfield 156, 3) := by decide +kernel
theorem dX6_takes_4 : decode cX6_takes 4 = .ok (.aload_n 0, 1) := by decide +kernel
theorem dX6_takes_5 : decode cX6_takes 5 = .ok (.getfield 153, 3) := by decide +kernel
theorem dX6_takes_8 : decode cX6_takes 8 = .ok (.if_icmp .ge 24, 3) := by decide +kernel
theorem dX6_takes_11 : decode cX6_takes 11 = .ok (.aload_n 0, 1) := by decide +kernel
theorem dX6_takes_12 : decode cX6_takes 12 = .ok (.getfield 25, 3) := by decide +kernel
theorem dX6_takes_15 : decode cX6_takes 15 = .ok (.aload_n 0, 1) := by decide +kernel
theorem dX6_takes_16 : decode cX6_takes 16 = .ok (.getfield 156, 3) := by decide +kernel
theorem dX6_takes_19 : decode cX6_takes 19 = .ok (.iaload, 1) := by decide +kernel
theorem dX6_takes_20 : decode cX6_takes 20 = .ok (.iload_n 1, 1) := by decide +kernel
theorem dX6_takes_21 : decode cX6_takes 21 = .ok (.iload_n 2, 1) := by decide +kernel
theorem dX6_takes_22 : decode cX6_takes 22 = .ok (.invokestatic 45, 3) := by decide +kernel
theorem dX6_takes_25 : decode cX6_takes 25 = .ok (.ifCond .eq 7, 3) := by decide +kernel
theorem dX6_takes_28 : decode cX6_takes 28 = .ok (.iconst 1, 1) := by decide +kernel
theorem dX6_takes_29 : decode cX6_takes 29 = .ok (.goto 4, 3) := by decide +kernel
theorem dX6_takes_32 : decode cX6_takes 32 = .ok (.iconst 0, 1) := by decide +kernel
theorem dX6_takes_33 : decode cX6_takes 33 = .ok (.istore_n 3, 1) := by decide +kernel
theorem dX6_takes_34 : decode cX6_takes 34 = .ok (.aload_n 0, 1) := by decide +kernel
theorem dX6_takes_35 : decode cX6_takes 35 = .ok (.dup, 1) := by decide +kernel
theorem dX6_takes_36 : decode cX6_takes 36 = .ok (.getfield 156, 3) := by decide +kernel
theorem dX6_takes_39 : decode cX6_takes 39 = .ok (.iload_n 3, 1) := by decide +kernel
theorem dX6_takes_40 : decode cX6_takes 40 = .ok (.ifCond .eq 7, 3) := by decide +kernel
theorem dX6_takes_43 : decode cX6_takes 43 = .ok (.iconst 1, 1) := by decide +kernel
theorem dX6_takes_44 : decode cX6_takes 44 = .ok (.goto 4, 3) := by decide +kernel
theorem dX6_takes_47 : decode cX6_takes 47 = .ok (.iconst 0, 1) := by decide +kernel
theorem dX6_takes_48 : decode cX6_takes 48 = .ok (.iadd, 1) := by decide +kernel
theorem dX6_takes_49 : decode cX6_takes 49 = .ok (.putfield 156, 3) := by decide +kernel
theorem dX6_takes_52 : decode cX6_takes 52 = .ok (.iload_n 3, 1) := by decide +kernel
theorem dX6_takes_53 : decode cX6_takes 53 = .ok (.ireturn, 1) := by decide +kernel
theorem dX6_digit_0 : decode cX6_digit 0 = .ok (.aload_n 0, 1) := by decide +kernel
theorem dX6_digit_1 : decode cX6_digit 1 = .ok (.getfield 25, 3) := by decide +kernel
theorem dX6_digit_4 : decode cX6_digit 4 = .ok (.aload_n 0, 1) := by decide +kernel
theorem dX6_digit_5 : decode cX6_digit 5 = .ok (.getfield 156, 3) := by decide +kernel
theorem dX6_digit_8 : decode cX6_digit 8 = .ok (.iload_n 1, 1) := by decide +kernel
theorem dX6_digit_9 : decode cX6_digit 9 = .ok (.isub, 1) := by decide +kernel
theorem dX6_digit_10 : decode cX6_digit 10 = .ok (.iaload, 1) := by decide +kernel
theorem dX6_digit_11 : decode cX6_digit 11 = .ok (.bipush 48, 2) := by decide +kernel
theorem dX6_digit_13 : decode cX6_digit 13 = .ok (.isub, 1) := by decide +kernel
theorem dX6_digit_14 : decode cX6_digit 14 = .ok (.ireturn, 1) := by decide +kernel
set_option maxRecDepth 100000 in
theorem ggX6_readSpeed_X6_takes : GoodIn wsX6_readSpeed wsX6_takes := goodIn_r _ [7, 8, 9, 10, 11, 12, 6, 13, 18, 19, 20, 21, 22, 23, 24, 25, 26, 27, 28, 29, 30, 31, 32, 33, 34] rfl (by decide +kernel)
set_option maxRecDepth 100000 in
theorem gX6_readSpeed_X6_takes : GoodIn wsX6_readSpeed (wsV RX6 159 RX6 yX6_takes wsX6_takes) := goodIn_app (goodIn_r _ [3, 4, 5, 6] rfl (by decide +kernel)) ggX6_readSpeed_X6_takes
set_option maxRecDepth 100000 in
theorem ggX6_readSpeed_X6_digit : GoodIn wsX6_readSpeed wsX6_digit := goodIn_r _ [17, 10, 8, 18, 19, 20, 21, 22, 23, 24, 25, 26, 27, 28, 29, 30, 31, 32, 33, 34] rfl (by decide +kernel)
set_option maxRecDepth 100000 in
theorem gX6_readSpeed_X6_digit : GoodIn wsX6_readSpeed (wsV RX6 162 RX6 yX6_digit wsX6_digit) := goodIn_app (goodIn_r _ [14, 15, 16, 6] rfl (by decide +kernel)) ggX6_readSpeed_X6_digit
theorem dX6_readSpeed_0 : decode cX6_readSpeed 0 = .ok (.aload_n 0, 1) := by decide +kernel
theorem dX6_readSpeed_1 : decode cX6_readSpeed 1 = .ok (.bipush 61, 2) := by decide +kernel
theorem dX6_readSpeed_3 : decode cX6_readSpeed 3 = .ok (.bipush 61, 2) := by decide +kernel
theorem dX6_readSpeed_5 : decode cX6_readSpeed 5 = .ok (.invokevirtual 159, 3) := by decide +kernel
theorem dX6_readSpeed_8 : decode cX6_readSpeed 8 = .ok (.ifCond .eq 14, 3) := by decide +kernel
theorem dX6_readSpeed_11 : decode cX6_readSpeed 11 = .ok (.aload_n 0, 1) := by decide +kernel
theorem dX6_readSpeed_12 : decode cX6_readSpeed 12 = .ok (.bipush 52, 2) := by decide +kernel
theorem dX6_readSpeed_14 : decode cX6_readSpeed 14 = .ok (.bipush 53, 2) := by decide +kernel
theorem dX6_readSpeed_16 : decode cX6_readSpeed 16 = .ok (.invokevirtual 159, 3) := by decide +kernel
theorem dX6_readSpeed_19 : decode cX6_readSpeed 19 = .ok (.ifCond .ne 5, 3) := by decide +kernel
theorem dX6_readSpeed_22 : decode cX6_readSpeed 22 = .ok (.iconst 0, 1) := by decide +kernel
theorem dX6_readSpeed_23 : decode cX6_readSpeed 23 = .ok (.ireturn, 1) := by decide +kernel
theorem dX6_readSpeed_24 : decode cX6_readSpeed 24 = .ok (.aload_n 0, 1) := by decide +kernel
theorem dX6_readSpeed_25 : decode cX6_readSpeed 25 = .ok (.iconst 1, 1) := by decide +kernel
theorem dX6_readSpeed_26 : decode cX6_readSpeed 26 = .ok (.invokevirtual 162, 3) := by decide +kernel
theorem dX6_readSpeed_29 : decode cX6_readSpeed 29 = .ok (.iconst 4, 1) := by decide +kernel
theorem dX6_readSpeed_30 : decode cX6_readSpeed 30 = .ok (.if_icmp .ne 7, 3) := by decide +kernel
theorem dX6_readSpeed_33 : decode cX6_readSpeed 33 = .ok (.iconst 1, 1) := by decide +kernel
theorem dX6_readSpeed_34 : decode cX6_readSpeed 34 = .ok (.goto 4, 3) := by decide +kernel
theorem dX6_readSpeed_37 : decode cX6_readSpeed 37 = .ok (.iconst 0, 1) := by decide +kernel
theorem dX6_readSpeed_38 : decode cX6_readSpeed 38 = .ok (.istore_n 1, 1) := by decide +kernel
theorem dX6_readSpeed_39 : decode cX6_readSpeed 39 = .ok (.aload_n 0, 1) := by decide +kernel
theorem dX6_readSpeed_40 : decode cX6_readSpeed 40 = .ok (.iload_n 1, 1) := by decide +kernel
theorem dX6_readSpeed_41 : decode cX6_readSpeed 41 = .ok (.ifCond .eq 8, 3) := by decide +kernel
theorem dX6_readSpeed_44 : decode cX6_readSpeed 44 = .ok (.bipush 55, 2) := by decide +kernel
theorem dX6_readSpeed_46 : decode cX6_readSpeed 46 = .ok (.goto 5, 3) := by decide +kernel
theorem dX6_readSpeed_49 : decode cX6_readSpeed 49 = .ok (.bipush 48, 2) := by decide +kernel
theorem dX6_readSpeed_51 : decode cX6_readSpeed 51 = .ok (.iload_n 1, 1) := by decide +kernel
theorem dX6_readSpeed_52 : decode cX6_readSpeed 52 = .ok (.ifCond .eq 8, 3) := by decide +kernel
theorem dX6_readSpeed_55 : decode cX6_readSpeed 55 = .ok (.bipush 57, 2) := by decide +kernel
theorem dX6_readSpeed_57 : decode cX6_readSpeed 57 = .ok (.goto 5, 3) := by decide +kernel
theorem dX6_readSpeed_60 : decode cX6_readSpeed 60 = .ok (.bipush 51, 2) := by decide +kernel
theorem dX6_readSpeed_62 : decode cX6_readSpeed 62 = .ok (.invokevirtual 159, 3) := by decide +kernel
theorem dX6_readSpeed_65 : decode cX6_readSpeed 65 = .ok (.ifCond .ne 5, 3) := by decide +kernel
theorem dX6_readSpeed_68 : decode cX6_readSpeed 68 = .ok (.iconst 0, 1) := by decide +kernel
theorem dX6_readSpeed_69 : decode cX6_readSpeed 69 = .ok (.ireturn, 1) := by decide +kernel
theorem dX6_readSpeed_70 : decode cX6_readSpeed 70 = .ok (.aload_n 0, 1) := by decide +kernel
theorem dX6_readSpeed_71 : decode cX6_readSpeed 71 = .ok (.iconst 2, 1) := by decide +kernel
theorem dX6_readSpeed_72 : decode cX6_readSpeed 72 = .ok (.invokevirtual 162, 3) := by decide +kernel
theorem dX6_readSpeed_75 : decode cX6_readSpeed 75 = .ok (.iconst 5, 1) := by decide +kernel
theorem dX6_readSpeed_76 : decode cX6_readSpeed 76 = .ok (.if_icmp .ne 17, 3) := by decide +kernel
theorem dX6_readSpeed_79 : decode cX6_readSpeed 79 = .ok (.aload_n 0, 1) := by decide +kernel
theorem dX6_readSpeed_80 : decode cX6_readSpeed 80 = .ok (.iconst 1, 1) := by decide +kernel
theorem dX6_readSpeed_81 : decode cX6_readSpeed 81 = .ok (.invokevirtual 162, 3) := by decide +kernel
theorem dX6_readSpeed_84 : decode cX6_readSpeed 84 = .ok (.iconst 3, 1) := by decide +kernel
theorem dX6_readSpeed_85 : decode cX6_readSpeed 85 = .ok (.if_icmp .ne 8, 3) := by decide +kernel
theorem dX6_readSpeed_88 : decode cX6_readSpeed 88 = .ok (.bipush 48, 2) := by decide +kernel
theorem dX6_readSpeed_90 : decode cX6_readSpeed 90 = .ok (.goto 5, 3) := by decide +kernel
theorem dX6_readSpeed_93 : decode cX6_readSpeed 93 = .ok (.bipush 57, 2) := by decide +kernel
theorem dX6_readSpeed_95 : decode cX6_readSpeed 95 = .ok (.istore_n 2, 1) := by decide +kernel
theorem dX6_readSpeed_96 : decode cX6_readSpeed 96 = .ok (.aload_n 0, 1) := by decide +kernel
theorem dX6_readSpeed_97 : decode cX6_readSpeed 97 = .ok (.bipush 48, 2) := by decide +kernel
theorem dX6_readSpeed_99 : decode cX6_readSpeed 99 = .ok (.iload_n 2, 1) := by decide +kernel
theorem dX6_readSpeed_100 : decode cX6_readSpeed 100 = .ok (.invokevirtual 159, 3) := by decide +kernel
theorem dX6_readSpeed_103 : decode cX6_readSpeed 103 = .ok (.ifCond .eq 13, 3) := by decide +kernel
theorem dX6_readSpeed_106 : decode cX6_readSpeed 106 = .ok (.aload_n 0, 1) := by decide +kernel
theorem dX6_readSpeed_107 : decode cX6_readSpeed 107 = .ok (.bipush 48, 2) := by decide +kernel
theorem dX6_readSpeed_109 : decode cX6_readSpeed 109 = .ok (.iload_n 2, 1) := by decide +kernel
theorem dX6_readSpeed_110 : decode cX6_readSpeed 110 = .ok (.invokevirtual 159, 3) := by decide +kernel
theorem dX6_readSpeed_113 : decode cX6_readSpeed 113 = .ok (.ifCond .ne 5, 3) := by decide +kernel
theorem dX6_readSpeed_116 : decode cX6_readSpeed 116 = .ok (.iconst 0, 1) := by decide +kernel
theorem dX6_readSpeed_117 : decode cX6_readSpeed 117 = .ok (.ireturn, 1) := by decide +kernel
theorem dX6_readSpeed_118 : decode cX6_readSpeed 118 = .ok (.aload_n 0, 1) := by decide +kernel
theorem dX6_readSpeed_119 : decode cX6_readSpeed 119 = .ok (.getfield 34, 3) := by decide +kernel
theorem dX6_readSpeed_122 : decode cX6_readSpeed 122 = .ok (.aload_n 0, 1) := by decide +kernel
theorem dX6_readSpeed_123 : decode cX6_readSpeed 123 = .ok (.getfield 165, 3) := by decide +kernel
theorem dX6_readSpeed_126 : decode cX6_readSpeed 126 = .ok (.sipush 1000, 3) := by decide +kernel
theorem dX6_readSpeed_129 : decode cX6_readSpeed 129 = .ok (.aload_n 0, 1) := by decide +kernel
theorem dX6_readSpeed_130 : decode cX6_readSpeed 130 = .ok (.iconst 4, 1) := by decide +kernel
theorem dX6_readSpeed_131 : decode cX6_readSpeed 131 = .ok (.invokevirtual 162, 3) := by decide +kernel
theorem dX6_readSpeed_134 : decode cX6_readSpeed 134 = .ok (.imul, 1) := by decide +kernel
theorem dX6_readSpeed_135 : decode cX6_readSpeed 135 = .ok (.bipush 100, 2) := by decide +kernel
theorem dX6_readSpeed_137 : decode cX6_readSpeed 137 = .ok (.aload_n 0, 1) := by decide +kernel
theorem dX6_readSpeed_138 : decode cX6_readSpeed 138 = .ok (.iconst 3, 1) := by decide +kernel
theorem dX6_readSpeed_139 : decode cX6_readSpeed 139 = .ok (.invokevirtual 162, 3) := by decide +kernel
theorem dX6_readSpeed_142 : decode cX6_readSpeed 142 = .ok (.imul, 1) := by decide +kernel
theorem dX6_readSpeed_143 : decode cX6_readSpeed 143 = .ok (.iadd, 1) := by decide +kernel
theorem dX6_readSpeed_144 : decode cX6_readSpeed 144 = .ok (.bipush 10, 2) := by decide +kernel
theorem dX6_readSpeed_146 : decode cX6_readSpeed 146 = .ok (.aload_n 0, 1) := by decide +kernel
theorem dX6_readSpeed_147 : decode cX6_readSpeed 147 = .ok (.iconst 2, 1) := by decide +kernel
theorem dX6_readSpeed_148 : decode cX6_readSpeed 148 = .ok (.invokevirtual 162, 3) := by decide +kernel
theorem dX6_readSpeed_151 : decode cX6_readSpeed 151 = .ok (.imul, 1) := by decide +kernel
theorem dX6_readSpeed_152 : decode cX6_readSpeed 152 = .ok (.iadd, 1) := by decide +kernel
theorem dX6_readSpeed_153 : decode cX6_readSpeed 153 = .ok (.aload_n 0, 1) := by decide +kernel
theorem dX6_readSpeed_154 : decode cX6_readSpeed 154 = .ok (.iconst 1, 1) := by decide +kernel
theorem dX6_readSpeed_155 : decode cX6_readSpeed 155 = .ok (.invokevirtual 162, 3) := by decide +kernel
theorem dX6_readSpeed_158 : decode cX6_readSpeed 158 = .ok (.iadd, 1) := by decide +kernel
theorem dX6_readSpeed_159 : decode cX6_readSpeed 159 = .ok (.iastore, 1) := by decide +kernel
theorem dX6_readSpeed_160 : decode cX6_readSpeed 160 = .ok (.iconst 1, 1) := by decide +kernel
theorem dX6_readSpeed_161 : decode cX6_readSpeed 161 = .ok (.ireturn, 1) := by decide +kernel
set_option maxRecDepth 100000 in
theorem ggX6_readTicks_X6_takes : GoodIn wsX6_readTicks wsX6_takes := goodIn_r _ [7, 8, 9, 10, 11, 12, 6, 13, 18, 19, 20, 21, 22, 23, 24, 25, 26, 27, 28, 29, 30, 31, 32, 33, 34] rfl (by decide +kernel)
set_option maxRecDepth 100000 in
theorem gX6_readTicks_X6_takes : GoodIn wsX6_readTicks (wsV RX6 159 RX6 yX6_takes wsX6_takes) := goodIn_app (goodIn_r _ [3, 4, 5, 6] rfl (by decide +kernel)) ggX6_readTicks_X6_takes
set_option maxRecDepth 100000 in
theorem ggX6_readTicks_X6_digit : GoodIn wsX6_readTicks wsX6_digit := goodIn_r _ [17, 10, 8, 18, 19, 20, 21, 22, 23, 24, 25, 26, 27, 28, 29, 30, 31, 32, 33, 34] rfl (by decide +kernel)
set_option maxRecDepth 100000 in
theorem gX6_readTicks_X6_digit : GoodIn wsX6_readTicks (wsV RX6 162 RX6 yX6_digit wsX6_digit) := goodIn_app (goodIn_r _ [14, 15, 16, 6] rfl (by decide +kernel)) ggX6_readTicks_X6_digit
theorem dX6_readTicks_0 : decode cX6_readTicks 0 = .ok (.aload_n 0, 1) := by decide +kernel
theorem dX6_readTicks_1 : decode cX6_readTicks 1 = .ok (.bipush 49, 2) := by decide +kernel
theorem dX6_readTicks_3 : decode cX6_readTicks 3 = .ok (.bipush 57, 2) := by decide +kernel
theorem dX6_readTicks_5 : decode cX6_readTicks 5 = .ok (.invokevirtual 159, 3) := by decide +kernel
theorem dX6_readTicks_8 : decode cX6_readTicks 8 = .ok (.ifCond .ne 5, 3) := by decide +kernel
theorem dX6_readTicks_11 : decode cX6_readTicks 11 = .ok (.iconst 0, 1) := by decide +kernel
theorem dX6_readTicks_12 : decode cX6_readTicks 12 = .ok (.ireturn, 1) := by decide +kernel
theorem dX6_readTicks_13 : decode cX6_readTicks 13 = .ok (.aload_n 0, 1) := by decide +kernel
theorem dX6_readTicks_14 : decode cX6_readTicks 14 = .ok (.getfield 31, 3) := by decide +kernel
theorem dX6_readTicks_17 : decode cX6_readTicks 17 = .ok (.aload_n 0, 1) := by decide +kernel
theorem dX6_readTicks_18 : decode cX6_readTicks 18 = .ok (.getfield 165, 3) := by decide +kernel
theorem dX6_readTicks_21 : decode cX6_readTicks 21 = .ok (.aload_n 0, 1) := by decide +kernel
theorem dX6_readTicks_22 : decode cX6_readTicks 22 = .ok (.iconst 1, 1) := by decide +kernel
theorem dX6_readTicks_23 : decode cX6_readTicks 23 = .ok (.invokevirtual 162, 3) := by decide +kernel
theorem dX6_readTicks_26 : decode cX6_readTicks 26 = .ok (.iastore, 1) := by decide +kernel
theorem dX6_readTicks_27 : decode cX6_readTicks 27 = .ok (.aload_n 0, 1) := by decide +kernel
theorem dX6_readTicks_28 : decode cX6_readTicks 28 = .ok (.bipush 48, 2) := by decide +kernel
theorem dX6_readTicks_30 : decode cX6_readTicks 30 = .ok (.bipush 57, 2) := by decide +kernel
theorem dX6_readTicks_32 : decode cX6_readTicks 32 = .ok (.invokevirtual 159, 3) := by decide +kernel
theorem dX6_readTicks_35 : decode cX6_readTicks 35 = .ok (.ifCond .eq 26, 3) := by decide +kernel
theorem dX6_readTicks_38 : decode cX6_readTicks 38 = .ok (.aload_n 0, 1) := by decide +kernel
theorem dX6_readTicks_39 : decode cX6_readTicks 39 = .ok (.getfield 31, 3) := by decide +kernel
theorem dX6_readTicks_42 : decode cX6_readTicks 42 = .ok (.aload_n 0, 1) := by decide +kernel
theorem dX6_readTicks_43 : decode cX6_readTicks 43 = .ok (.getfield 165, 3) := by decide +kernel
theorem dX6_readTicks_46 : decode cX6_readTicks 46 = .ok (.bipush 10, 2) := by decide +kernel
theorem dX6_readTicks_48 : decode cX6_readTicks 48 = .ok (.aload_n 0, 1) := by decide +kernel
theorem dX6_readTicks_49 : decode cX6_readTicks 49 = .ok (.iconst 2, 1) := by decide +kernel
theorem dX6_readTicks_50 : decode cX6_readTicks 50 = .ok (.invokevirtual 162, 3) := by decide +kernel
theorem dX6_readTicks_53 : decode cX6_readTicks 53 = .ok (.imul, 1) := by decide +kernel
theorem dX6_readTicks_54 : decode cX6_readTicks 54 = .ok (.aload_n 0, 1) := by decide +kernel
theorem dX6_readTicks_55 : decode cX6_readTicks 55 = .ok (.iconst 1, 1) := by decide +kernel
theorem dX6_readTicks_56 : decode cX6_readTicks 56 = .ok (.invokevirtual 162, 3) := by decide +kernel
theorem dX6_readTicks_59 : decode cX6_readTicks 59 = .ok (.iadd, 1) := by decide +kernel
theorem dX6_readTicks_60 : decode cX6_readTicks 60 = .ok (.iastore, 1) := by decide +kernel
theorem dX6_readTicks_61 : decode cX6_readTicks 61 = .ok (.iconst 1, 1) := by decide +kernel
theorem dX6_readTicks_62 : decode cX6_readTicks 62 = .ok (.ireturn, 1) := by decide +kernel
set_option maxRecDepth 100000 in
theorem ggX6_readRest_X6_readTicks : GoodIn wsX6_readRest wsX6_readTicks := goodIn_r _ [11, 1, 2, 12, 13, 14, 10, 15, 4, 5, 6, 16, 17, 18, 19, 20, 21, 22, 27, 28, 29, 30, 31, 32, 33, 34, 35, 36, 37, 38, 39, 40, 41, 42, 43] rfl (by decide +kernel)
set_option maxRecDepth 100000 in
theorem gX6_readRest_X6_readTicks : GoodIn wsX6_readRest (wsV RX6 168 RX6 yX6_readTicks wsX6_readTicks) := goodIn_app (goodIn_r _ [7, 8, 9, 10] rfl (by decide +kernel)) ggX6_readRest_X6_readTicks
set_option maxRecDepth 100000 in
theorem ggX6_readRest_X6_takes : GoodIn wsX6_readRest wsX6_takes := goodIn_r _ [15, 4, 5, 6, 16, 17, 10, 18, 27, 28, 29, 30, 31, 32, 33, 34, 35, 36, 37, 38, 39, 40, 41, 42, 43] rfl (by decide +kernel)
set_option maxRecDepth 100000 in
theorem gX6_readRest_X6_takes : GoodIn wsX6_readRest (wsV RX6 159 RX6 yX6_takes wsX6_takes) := goodIn_app (goodIn_r _ [12, 13, 14, 10] rfl (by decide +kernel)) ggX6_readRest_X6_takes
set_option maxRecDepth 100000 in
theorem ggX6_readRest_X6_digit : GoodIn wsX6_readRest wsX6_digit := goodIn_r _ [22, 6, 4, 27, 28, 29, 30, 31, 32, 33, 34, 35, 36, 37, 38, 39, 40, 41, 42, 43] rfl (by decide +kernel)
set_option maxRecDepth 100000 in
theorem gX6_readRest_X6_digit : GoodIn wsX6_readRest (wsV RX6 162 RX6 yX6_digit wsX6_digit) := goodIn_app (goodIn_r _ [19, 20, 21, 10] rfl (by decide +kernel)) ggX6_readRest_X6_digit
set_option maxRecDepth 100000 in
theorem ggX6_readRest_X6_readSpeed : GoodIn wsX6_readRest wsX6_readSpeed := goodIn_r _ [26, 3, 2, 12, 13, 14, 10, 15, 4, 5, 6, 16, 17, 18, 19, 20, 21, 22, 27, 28, 29, 30, 31, 32, 33, 34, 35, 36, 37, 38, 39, 40, 41, 42, 43] rfl (by decide +kernel)
set_option maxRecDepth 100000 in
theorem gX6_readRest_X6_readSpeed : GoodIn wsX6_readRest (wsV RX6 171 RX6 yX6_readSpeed wsX6_readSpeed) := goodIn_app (goodIn_r _ [23, 24, 25, 10] rfl (by decide +kernel)) ggX6_readRest_X6_readSpeed
theorem dX6_readRest_0 : decode cX6_readRest 0 = .ok (.iload_n 1, 1) := by decide +kernel
theorem dX6_readRest_1 : decode cX6_readRest 1 = .ok (.bipush 116, 2) := by decide +kernel
theorem dX6_readRest_3 : decode cX6_readRest 3 = .ok (.if_icmp .ne 8, 3) := by decide +kernel
theorem dX6_readRest_6 : decode cX6_readRest 6 = .ok (.aload_n 0, 1) := by decide +kernel
theorem dX6_readRest_7 : decode cX6_readRest 7 = .ok (.invokevirtual 168, 3) := by decide +kernel
theorem dX6_readRest_10 : decode cX6_readRest 10 = .ok (.ireturn, 1) := by decide +kernel
theorem dX6_readRest_11 : decode cX6_readRest 11 = .ok (.aload_n 0, 1) := by decide +kernel
theorem dX6_readRest_12 : decode cX6_readRest 12 = .ok (.bipush 48, 2) := by decide +kernel
theorem dX6_readRest_14 : decode cX6_readRest 14 = .ok (.iload_n 1, 1) := by decide +kernel
theorem dX6_readRest_15 : decode cX6_readRest 15 = .ok (.bipush 102, 2) := by decide +kernel
theorem dX6_readRest_17 : decode cX6_readRest 17 = .ok (.if_icmp .ne 8, 3) := by decide +kernel
theorem dX6_readRest_20 : decode cX6_readRest 20 = .ok (.bipush 51, 2) := by decide +kernel
theorem dX6_readRest_22 : decode cX6_readRest 22 = .ok (.goto 5, 3) := by decide +kernel
theorem dX6_readRest_25 : decode cX6_readRest 25 = .ok (.bipush 50, 2) := by decide +kernel
theorem dX6_readRest_27 : decode cX6_readRest 27 = .ok (.invokevirtual 159, 3) := by decide +kernel
theorem dX6_readRest_30 : decode cX6_readRest 30 = .ok (.ifCond .ne 5, 3) := by decide +kernel
theorem dX6_readRest_33 : decode cX6_readRest 33 = .ok (.iconst 0, 1) := by decide +kernel
theorem dX6_readRest_34 : decode cX6_readRest 34 = .ok (.ireturn, 1) := by decide +kernel
theorem dX6_readRest_35 : decode cX6_readRest 35 = .ok (.aload_n 0, 1) := by decide +kernel
theorem dX6_readRest_36 : decode cX6_readRest 36 = .ok (.getfield 31, 3) := by decide +kernel
theorem dX6_readRest_39 : decode cX6_readRest 39 = .ok (.aload_n 0, 1) := by decide +kernel
theorem dX6_readRest_40 : decode cX6_readRest 40 = .ok (.getfield 165, 3) := by decide +kernel
theorem dX6_readRest_43 : decode cX6_readRest 43 = .ok (.aload_n 0, 1) := by decide +kernel
theorem dX6_readRest_44 : decode cX6_readRest 44 = .ok (.iconst 1, 1) := by decide +kernel
theorem dX6_readRest_45 : decode cX6_readRest 45 = .ok (.invokevirtual 162, 3) := by decide +kernel
theorem dX6_readRest_48 : decode cX6_readRest 48 = .ok (.iastore, 1) := by decide +kernel
theorem dX6_readRest_49 : decode cX6_readRest 49 = .ok (.iload_n 1, 1) := by decide +kernel
theorem dX6_readRest_50 : decode cX6_readRest 50 = .ok (.bipush 102, 2) := by decide +kernel
theorem dX6_readRest_52 : decode cX6_readRest 52 = .ok (.if_icmp .ne 70, 3) := by decide +kernel
theorem dX6_readRest_55 : decode cX6_readRest 55 = .ok (.aload_n 0, 1) := by decide +kernel
theorem dX6_readRest_56 : decode cX6_readRest 56 = .ok (.getfield 34, 3) := by decide +kernel
theorem dX6_readRest_59 : decode cX6_readRest 59 = .ok (.aload_n 0, 1) := by decide +kernel
theorem dX6_readRest_60 : decode cX6_readRest 60 = .ok (.getfield 165, 3) := by decide +kernel
theorem dX6_readRest_63 : decode cX6_readRest 63 = .ok (.aload_n 0, 1) := by decide +kernel
theorem dX6_readRest_64 : decode cX6_readRest 64 = .ok (.getfield 156, 3) := by decide +kernel
theorem dX6_readRest_67 : decode cX6_readRest 67 = .ok (.aload_n 0, 1) := by decide +kernel
theorem dX6_readRest_68 : decode cX6_readRest 68 = .ok (.getfield 153, 3) := by decide +kernel
theorem dX6_readRest_71 : decode cX6_readRest 71 = .ok (.if_icmp .ge 21, 3) := by decide +kernel
theorem dX6_readRest_74 : decode cX6_readRest 74 = .ok (.aload_n 0, 1) := by decide +kernel
theorem dX6_readRest_75 : decode cX6_readRest 75 = .ok (.getfield 25, 3) := by decide +kernel
theorem dX6_readRest_78 : decode cX6_readRest 78 = .ok (.aload_n 0, 1) := by decide +kernel
theorem dX6_readRest_79 : decode cX6_readRest 79 = .ok (.getfield 156, 3) := by decide +kernel
theorem dX6_readRest_82 : decode cX6_readRest 82 = .ok (.iaload, 1) := by decide +kernel
theorem dX6_readRest_83 : decode cX6_readRest 83 = .ok (.bipush 43, 2) := by decide +kernel
theorem dX6_readRest_85 : decode cX6_readRest 85 = .ok (.if_icmp .ne 7, 3) := by decide +kernel
theorem dX6_readRest_88 : decode cX6_readRest 88 = .ok (.iconst 1, 1) := by decide +kernel
theorem dX6_readRest_89 : decode cX6_readRest 89 = .ok (.goto 4, 3) := by decide +kernel
theorem dX6_readRest_92 : decode cX6_readRest 92 = .ok (.iconst 0, 1) := by decide +kernel
theorem dX6_readRest_93 : decode cX6_readRest 93 = .ok (.iastore, 1) := by decide +kernel
theorem dX6_readRest_94 : decode cX6_readRest 94 = .ok (.aload_n 0, 1) := by decide +kernel
theorem dX6_readRest_95 : decode cX6_readRest 95 = .ok (.bipush 43, 2) := by decide +kernel
theorem dX6_readRest_97 : decode cX6_readRest 97 = .ok (.bipush 43, 2) := by decide +kernel
theorem dX6_readRest_99 : decode cX6_readRest 99 = .ok (.invokevirtual 159, 3) := by decide +kernel
theorem dX6_readRest_102 : decode cX6_readRest 102 = .ok (.ifCond .ne 14, 3) := by decide +kernel
theorem dX6_readRest_105 : decode cX6_readRest 105 = .ok (.aload_n 0, 1) := by decide +kernel
theorem dX6_readRest_106 : decode cX6_readRest 106 = .ok (.bipush 45, 2) := by decide +kernel
theorem dX6_readRest_108 : decode cX6_readRest 108 = .ok (.bipush 45, 2) := by decide +kernel
theorem dX6_readRest_110 : decode cX6_readRest 110 = .ok (.invokevirtual 159, 3) := by decide +kernel
theorem dX6_readRest_113 : decode cX6_readRest 113 = .ok (.ifCond .eq 7, 3) := by decide +kernel
theorem dX6_readRest_116 : decode cX6_readRest 116 = .ok (.iconst 1, 1) := by decide +kernel
theorem dX6_readRest_117 : decode cX6_readRest 117 = .ok (.goto 4, 3) := by decide +kernel
theorem dX6_readRest_120 : decode cX6_readRest 120 = .ok (.iconst 0, 1) := by decide +kernel
theorem dX6_readRest_121 : decode cX6_readRest 121 = .ok (.ireturn, 1) := by decide +kernel
theorem dX6_readRest_122 : decode cX6_readRest 122 = .ok (.iload_n 1, 1) := by decide +kernel
theorem dX6_readRest_123 : decode cX6_readRest 123 = .ok (.bipush 115, 2) := by decide +kernel
theorem dX6_readRest_125 : decode cX6_readRest 125 = .ok (.if_icmp .ne 10, 3) := by decide +kernel
theorem dX6_readRest_128 : decode cX6_readRest 128 = .ok (.aload_n 0, 1) := by decide +kernel
theorem dX6_readRest_129 : decode cX6_readRest 129 = .ok (.invokevirtual 171, 3) := by decide +kernel
theorem dX6_readRest_132 : decode cX6_readRest 132 = .ok (.ifCond .eq 7, 3) := by decide +kernel
theorem dX6_readRest_135 : decode cX6_readRest 135 = .ok (.iconst 1, 1) := by decide +kernel
theorem dX6_readRest_136 : decode cX6_readRest 136 = .ok (.goto 4, 3) := by decide +kernel
theorem dX6_readRest_139 : decode cX6_readRest 139 = .ok (.iconst 0, 1) := by decide +kernel
theorem dX6_readRest_140 : decode cX6_readRest 140 = .ok (.ireturn, 1) := by decide +kernel
set_option maxRecDepth 100000 in
theorem ggX6_readOrder_X6_readRest : GoodIn wsX6_readOrder wsX6_readRest := goodIn_r _ [10, 11, 5, 12, 1, 2, 3, 13, 14, 15, 9, 16, 17, 18, 19, 20, 21, 22, 23, 24, 25, 26, 27, 28, 29, 30, 31, 32, 33, 34, 35, 36, 37, 38, 39, 40, 41, 42, 43, 44, 45, 46, 47, 48] rfl (by decide +kernel)
set_option maxRecDepth 100000 in
theorem gX6_readOrder_X6_readRest : GoodIn wsX6_readOrder (wsV RX6 174 RX6 yX6_readRest wsX6_readRest) := goodIn_app (goodIn_r _ [6, 7, 8, 9] rfl (by decide +kernel)) ggX6_readOrder_X6_readRest
theorem dX6_readOrder_0 : decode cX6_readOrder 0 = .ok (.aload_n 0, 1) := by decide +kernel
theorem dX6_readOrder_1 : decode cX6_readOrder 1 = .ok (.getfield 156, 3) := by decide +kernel
theorem dX6_readOrder_4 : decode cX6_readOrder 4 = .ok (.aload_n 0, 1) := by decide +kernel
theorem dX6_readOrder_5 : decode cX6_readOrder 5 = .ok (.getfield 153, 3) := by decide +kernel
theorem dX6_readOrder_8 : decode cX6_readOrder 8 = .ok (.if_icmp .ge 15, 3) := by decide +kernel
theorem dX6_readOrder_11 : decode cX6_readOrder 11 = .ok (.aload_n 0, 1) := by decide +kernel
theorem dX6_readOrder_12 : decode cX6_readOrder 12 = .ok (.getfield 25, 3) := by decide +kernel
theorem dX6_readOrder_15 : decode cX6_readOrder 15 = .ok (.aload_n 0, 1) := by decide +kernel
theorem dX6_readOrder_16 : decode cX6_readOrder 16 = .ok (.getfield 156, 3) := by decide +kernel
theorem dX6_readOrder_19 : decode cX6_readOrder 19 = .ok (.iaload, 1) := by decide +kernel
theorem dX6_readOrder_20 : decode cX6_readOrder 20 = .ok (.goto 4, 3) := by decide +kernel
theorem dX6_readOrder_23 : decode cX6_readOrder 23 = .ok (.iconst 0, 1) := by decide +kernel
theorem dX6_readOrder_24 : decode cX6_readOrder 24 = .ok (.istore_n 1, 1) := by decide +kernel
theorem dX6_readOrder_25 : decode cX6_readOrder 25 = .ok (.iload_n 1, 1) := by decide +kernel
theorem dX6_readOrder_26 : decode cX6_readOrder 26 = .ok (.bipush 115, 2) := by decide +kernel
theorem dX6_readOrder_28 : decode cX6_readOrder 28 = .ok (.if_icmp .eq 39, 3) := by decide +kernel
theorem dX6_readOrder_31 : decode cX6_readOrder 31 = .ok (.iload_n 1, 1) := by decide +kernel
theorem dX6_readOrder_32 : decode cX6_readOrder 32 = .ok (.bipush 114, 2) := by decide +kernel
theorem dX6_readOrder_34 : decode cX6_readOrder 34 = .ok (.if_icmp .eq 33, 3) := by decide +kernel
theorem dX6_readOrder_37 : decode cX6_readOrder 37 = .ok (.iload_n 1, 1) := by decide +kernel
theorem dX6_readOrder_38 : decode cX6_readOrder 38 = .ok (.bipush 104, 2) := by decide +kernel
theorem dX6_readOrder_40 : decode cX6_readOrder 40 = .ok (.if_icmp .eq 27, 3) := by decide +kernel
theorem dX6_readOrder_43 : decode cX6_readOrder 43 = .ok (.iload_n 1, 1) := by decide +kernel
theorem dX6_readOrder_44 : decode cX6_readOrder 44 = .ok (.bipush 99, 2) := by decide +kernel
theorem dX6_readOrder_46 : decode cX6_readOrder 46 = .ok (.if_icmp .eq 21, 3) := by decide +kernel
theorem dX6_readOrder_49 : decode cX6_readOrder 49 = .ok (.iload_n 1, 1) := by decide +kernel
theorem dX6_readOrder_50 : decode cX6_readOrder 50 = .ok (.bipush 111, 2) := by decide +kernel
theorem dX6_readOrder_52 : decode cX6_readOrder 52 = .ok (.if_icmp .eq 15, 3) := by decide +kernel
theorem dX6_readOrder_55 : decode cX6_readOrder 55 = .ok (.iload_n 1, 1) := by decide +kernel
theorem dX6_readOrder_56 : decode cX6_readOrder 56 = .ok (.bipush 102, 2) := by decide +kernel
theorem dX6_readOrder_58 : decode cX6_readOrder 58 = .ok (.if_icmp .eq 9, 3) := by decide +kernel
theorem dX6_readOrder_61 : decode cX6_readOrder 61 = .ok (.iload_n 1, 1) := by decide +kernel
theorem dX6_readOrder_62 : decode cX6_readOrder 62 = .ok (.bipush 116, 2) := by decide +kernel
theorem dX6_readOrder_64 : decode cX6_readOrder 64 = .ok (.if_icmp .ne 7, 3) := by decide +kernel
theorem dX6_readOrder_67 : decode cX6_readOrder 67 = .ok (.iconst 1, 1) := by decide +kernel
theorem dX6_readOrder_68 : decode cX6_readOrder 68 = .ok (.goto 4, 3) := by decide +kernel
theorem dX6_readOrder_71 : decode cX6_readOrder 71 = .ok (.iconst 0, 1) := by decide +kernel
theorem dX6_readOrder_72 : decode cX6_readOrder 72 = .ok (.istore_n 2, 1) := by decide +kernel
theorem dX6_readOrder_73 : decode cX6_readOrder 73 = .ok (.aload_n 0, 1) := by decide +kernel
theorem dX6_readOrder_74 : decode cX6_readOrder 74 = .ok (.dup, 1) := by decide +kernel
theorem dX6_readOrder_75 : decode cX6_readOrder 75 = .ok (.getfield 156, 3) := by decide +kernel
theorem dX6_readOrder_78 : decode cX6_readOrder 78 = .ok (.iload_n 2, 1) := by decide +kernel
theorem dX6_readOrder_79 : decode cX6_readOrder 79 = .ok (.ifCond .eq 7, 3) := by decide +kernel
theorem dX6_readOrder_82 : decode cX6_readOrder 82 = .ok (.iconst 1, 1) := by decide +kernel
theorem dX6_readOrder_83 : decode cX6_readOrder 83 = .ok (.goto 4, 3) := by decide +kernel
theorem dX6_readOrder_86 : decode cX6_readOrder 86 = .ok (.iconst 0, 1) := by decide +kernel
theorem dX6_readOrder_87 : decode cX6_readOrder 87 = .ok (.iadd, 1) := by decide +kernel
theorem dX6_readOrder_88 : decode cX6_readOrder 88 = .ok (.putfield 156, 3) := by decide +kernel
theorem dX6_readOrder_91 : decode cX6_readOrder 91 = .ok (.iload_n 2, 1) := by decide +kernel
theorem dX6_readOrder_92 : decode cX6_readOrder 92 = .ok (.ifCond .eq 11, 3) := by decide +kernel
theorem dX6_readOrder_95 : decode cX6_readOrder 95 = .ok (.aload_n 0, 1) := by decide +kernel
theorem dX6_readOrder_96 : decode cX6_readOrder 96 = .ok (.iload_n 1, 1) := by decide +kernel
theorem dX6_readOrder_97 : decode cX6_readOrder 97 = .ok (.invokevirtual 174, 3) := by decide +kernel
theorem dX6_readOrder_100 : decode cX6_readOrder 100 = .ok (.ifCond .ne 5, 3) := by decide +kernel
theorem dX6_readOrder_103 : decode cX6_readOrder 103 = .ok (.iconst 0, 1) := by decide +kernel
theorem dX6_readOrder_104 : decode cX6_readOrder 104 = .ok (.ireturn, 1) := by decide +kernel
theorem dX6_readOrder_105 : decode cX6_readOrder 105 = .ok (.aload_n 0, 1) := by decide +kernel
theorem dX6_readOrder_106 : decode cX6_readOrder 106 = .ok (.getfield 28, 3) := by decide +kernel
theorem dX6_readOrder_109 : decode cX6_readOrder 109 = .ok (.aload_n 0, 1) := by decide +kernel
theorem dX6_readOrder_110 : decode cX6_readOrder 110 = .ok (.getfield 165, 3) := by decide +kernel
theorem dX6_readOrder_113 : decode cX6_readOrder 113 = .ok (.iload_n 1, 1) := by decide +kernel
theorem dX6_readOrder_114 : decode cX6_readOrder 114 = .ok (.iastore, 1) := by decide +kernel
theorem dX6_readOrder_115 : decode cX6_readOrder 115 = .ok (.aload_n 0, 1) := by decide +kernel
theorem dX6_readOrder_116 : decode cX6_readOrder 116 = .ok (.dup, 1) := by decide +kernel
theorem dX6_readOrder_117 : decode cX6_readOrder 117 = .ok (.getfield 165, 3) := by decide +kernel
theorem dX6_readOrder_120 : decode cX6_readOrder 120 = .ok (.iconst 1, 1) := by decide +kernel
theorem dX6_readOrder_121 : decode cX6_readOrder 121 = .ok (.iadd, 1) := by decide +kernel
theorem dX6_readOrder_122 : decode cX6_readOrder 122 = .ok (.putfield 165, 3) := by decide +kernel
theorem dX6_readOrder_125 : decode cX6_readOrder 125 = .ok (.iconst 1, 1) := by decide +kernel
theorem dX6_readOrder_126 : decode cX6_readOrder 126 = .ok (.ireturn, 1) := by decide +kernel
set_option maxRecDepth 100000 in
theorem ggX6_areOrders_X6_readOrder : GoodIn wsX6_areOrders wsX6_readOrder := goodIn_r _ [8, 1, 3, 9, 10, 2, 11, 12, 13, 7, 14, 15, 16, 17, 18, 19, 20, 21, 22, 23, 24, 25, 26, 27, 28, 29, 30, 31, 32, 33, 34, 35, 36, 37, 38, 39, 40, 41, 42, 43, 44, 45, 46, 47, 48, 49, 50, 51, 52] rfl (by decide +kernel)
set_option maxRecDepth 100000 in
theorem gX6_areOrders_X6_readOrder : GoodIn wsX6_areOrders (wsV RX6 177 RX6 yX6_readOrder wsX6_readOrder) := goodIn_app (goodIn_r _ [4, 5, 6, 7] rfl (by decide +kernel)) ggX6_areOrders_X6_readOrder
set_option maxRecDepth 100000 in
theorem ggX6_areOrders_X6_takes : GoodIn wsX6_areOrders wsX6_takes := goodIn_r _ [24, 1, 3, 9, 25, 26, 7, 27, 36, 37, 38, 39, 40, 41, 42, 43, 44, 45, 46, 47, 48, 49, 50, 51, 52] rfl (by decide +kernel)
set_option maxRecDepth 100000 in
theorem gX6_areOrders_X6_takes : GoodIn wsX6_areOrders (wsV RX6 159 RX6 yX6_takes wsX6_takes) := goodIn_app (goodIn_r _ [21, 22, 23, 7] rfl (by decide +kernel)) ggX6_areOrders_X6_takes
theorem dX6_areOrders_0 : decode cX6_areOrders 0 = .ok (.aload_n 0, 1) := by decide +kernel
theorem dX6_areOrders_1 : decode cX6_areOrders 1 = .ok (.iconst 0, 1) := by decide +kernel
theorem dX6_areOrders_2 : decode cX6_areOrders 2 = .ok (.putfield 156, 3) := by decide +kernel
theorem dX6_areOrders_5 : decode cX6_areOrders 5 = .ok (.aload_n 0, 1) := by decide +kernel
theorem dX6_areOrders_6 : decode cX6_areOrders 6 = .ok (.iconst 0, 1) := by decide +kernel
theorem dX6_areOrders_7 : decode cX6_areOrders 7 = .ok (.putfield 165, 3) := by decide +kernel
theorem dX6_areOrders_10 : decode cX6_areOrders 10 = .ok (.aload_n 0, 1) := by decide +kernel
theorem dX6_areOrders_11 : decode cX6_areOrders 11 = .ok (.invokevirtual 177, 3) := by decide +kernel
theorem dX6_areOrders_14 : decode cX6_areOrders 14 = .ok (.istore_n 1, 1) := by decide +kernel
theorem dX6_areOrders_15 : decode cX6_areOrders 15 = .ok (.iload_n 1, 1) := by decide +kernel
theorem dX6_areOrders_16 : decode cX6_areOrders 16 = .ok (.ifCond .eq 22, 3) := by decide +kernel
theorem dX6_areOrders_19 : decode cX6_areOrders 19 = .ok (.aload_n 0, 1) := by decide +kernel
theorem dX6_areOrders_20 : decode cX6_areOrders 20 = .ok (.bipush 59, 2) := by decide +kernel
theorem dX6_areOrders_22 : decode cX6_areOrders 22 = .ok (.bipush 59, 2) := by decide +kernel
theorem dX6_areOrders_24 : decode cX6_areOrders 24 = .ok (.invokevirtual 159, 3) := by decide +kernel
theorem dX6_areOrders_27 : decode cX6_areOrders 27 = .ok (.ifCond .eq 11, 3) := by decide +kernel
theorem dX6_areOrders_30 : decode cX6_areOrders 30 = .ok (.aload_n 0, 1) := by decide +kernel
theorem dX6_areOrders_31 : decode cX6_areOrders 31 = .ok (.invokevirtual 177, 3) := by decide +kernel
theorem dX6_areOrders_34 : decode cX6_areOrders 34 = .ok (.istore_n 1, 1) := by decide +kernel
theorem dX6_areOrders_35 : decode cX6_areOrders 35 = .ok (.goto (-20), 3) := by decide +kernel
theorem dX6_areOrders_38 : decode cX6_areOrders 38 = .ok (.iload_n 1, 1) := by decide +kernel
theorem dX6_areOrders_39 : decode cX6_areOrders 39 = .ok (.ifCond .eq 18, 3) := by decide +kernel
theorem dX6_areOrders_42 : decode cX6_areOrders 42 = .ok (.aload_n 0, 1) := by decide +kernel
theorem dX6_areOrders_43 : decode cX6_areOrders 43 = .ok (.getfield 156, 3) := by decide +kernel
theorem dX6_areOrders_46 : decode cX6_areOrders 46 = .ok (.aload_n 0, 1) := by decide +kernel
theorem dX6_areOrders_47 : decode cX6_areOrders 47 = .ok (.getfield 153, 3) := by decide +kernel
theorem dX6_areOrders_50 : decode cX6_areOrders 50 = .ok (.if_icmp .ne 7, 3) := by decide +kernel
theorem dX6_areOrders_53 : decode cX6_areOrders 53 = .ok (.iconst 1, 1) := by decide +kernel
theorem dX6_areOrders_54 : decode cX6_areOrders 54 = .ok (.goto 4, 3) := by decide +kernel
theorem dX6_areOrders_57 : decode cX6_areOrders 57 = .ok (.iconst 0, 1) := by decide +kernel
theorem dX6_areOrders_58 : decode cX6_areOrders 58 = .ok (.ireturn, 1) := by decide +kernel
set_option maxRecDepth 100000 in
theorem ggX6_firstError_X6_areOrders : GoodIn wsX6_firstError wsX6_areOrders := goodIn_r _ [8, 3, 9, 2, 10, 11, 12, 7, 13, 14, 15, 16, 17, 18, 19, 20, 21, 22, 23, 24, 25, 26, 27, 28, 29, 30, 31, 32, 33, 34, 35, 36, 37, 38, 39, 40, 41, 42, 43, 44, 45, 46, 47, 48, 49, 50, 51, 52, 53, 54, 55, 56, 57] rfl (by decide +kernel)
set_option maxRecDepth 100000 in
theorem gX6_firstError_X6_areOrders : GoodIn wsX6_firstError (wsV RX6 180 RX6 yX6_areOrders wsX6_areOrders) := goodIn_app (goodIn_r _ [4, 5, 6, 7] rfl (by decide +kernel)) ggX6_firstError_X6_areOrders
theorem dX6_firstError_0 : decode cX6_firstError 0 = .ok (.aload_n 0, 1) := by decide +kernel
theorem dX6_firstError_1 : decode cX6_firstError 1 = .ok (.iconst 0, 1) := by decide +kernel
theorem dX6_firstError_2 : decode cX6_firstError 2 = .ok (.putfield 41, 3) := by decide +kernel
theorem dX6_firstError_5 : decode cX6_firstError 5 = .ok (.aload_n 0, 1) := by decide +kernel
theorem dX6_firstError_6 : decode cX6_firstError 6 = .ok (.invokevirtual 180, 3) := by decide +kernel
theorem dX6_firstError_9 : decode cX6_firstError 9 = .ok (.ifCond .eq 10, 3) := by decide +kernel
theorem dX6_firstError_12 : decode cX6_firstError 12 = .ok (.aload_n 0, 1) := by decide +kernel
theorem dX6_firstError_13 : decode cX6_firstError 13 = .ok (.getfield 153, 3) := by decide +kernel
theorem dX6_firstError_16 : decode cX6_firstError 16 = .ok (.goto 7, 3) := by decide +kernel
theorem dX6_firstError_19 : decode cX6_firstError 19 = .ok (.aload_n 0, 1) := by decide +kernel
theorem dX6_firstError_20 : decode cX6_firstError 20 = .ok (.getfield 156, 3) := by decide +kernel
theorem dX6_firstError_23 : decode cX6_firstError 23 = .ok (.ireturn, 1) := by decide +kernel
set_option maxRecDepth 100000 in
theorem ggX6_canDo_X6_of : GoodIn wsX6_canDo wsX6_of := goodIn_r _ [7, 8, 51, 52, 53, 54, 55, 56, 57, 58, 59, 60, 61, 62, 63, 64, 65, 66, 67] rfl (by decide +kernel)
set_option maxRecDepth 100000 in
theorem gX6_canDo_X6_of : GoodIn wsX6_canDo (wsV RX6 52 RX6 yX6_of wsX6_of) := goodIn_app (goodIn_r _ [3, 4, 5, 6] rfl (by decide +kernel)) ggX6_canDo_X6_of
set_option maxRecDepth 100000 in
theorem ggX6_canDo_X6_canHalt : GoodIn wsX6_canDo wsX6_canHalt := goodIn_r _ [12, 3, 4, 5, 6, 7, 8, 51, 52, 53, 54, 55, 56, 57, 58, 59, 60, 61, 62, 63, 64, 65, 66, 67] rfl (by decide +kernel)
set_option maxRecDepth 100000 in
theorem gX6_canDo_X6_canHalt : GoodIn wsX6_canDo (wsV RX6 128 RX6 yX6_canHalt wsX6_canHalt) := goodIn_app (goodIn_r _ [9, 10, 11, 6] rfl (by decide +kernel)) ggX6_canDo_X6_canHalt
set_option maxRecDepth 100000 in
theorem ggX6_canDo_X6_reason : GoodIn wsX6_canDo wsX6_reason := goodIn_r _ [16, 8, 3, 4, 5, 6, 7, 17, 18, 19, 20, 21, 22, 23, 24, 25, 26, 27, 28, 29, 30, 31, 32, 33, 34, 35, 36, 37, 38, 39, 40, 41, 42, 43, 44, 45, 46, 47, 48, 49, 50, 51, 52, 53, 54, 55, 56, 57, 58, 59, 60, 61, 62, 63, 64, 65, 66, 67] rfl (by decide +kernel)
set_option maxRecDepth 100000 in
theorem gX6_canDo_X6_reason : GoodIn wsX6_canDo (wsV RX6 134 RX6 yX6_reason wsX6_reason) := goodIn_app (goodIn_r _ [13, 14, 15, 6] rfl (by decide +kernel)) ggX6_canDo_X6_reason
theorem dX6_canDo_0 : decode cX6_canDo 0 = .ok (.aload_n 0, 1) := by decide +kernel
theorem dX6_canDo_1 : decode cX6_canDo 1 = .ok (.getfield 31, 3) := by decide +kernel
theorem dX6_canDo_4 : decode cX6_canDo 4 = .ok (.iload_n 1, 1) := by decide +kernel
theorem dX6_canDo_5 : decode cX6_canDo 5 = .ok (.iaload, 1) := by decide +kernel
theorem dX6_canDo_6 : decode cX6_canDo 6 = .ok (.istore_n 2, 1) := by decide +kernel
theorem dX6_canDo_7 : decode cX6_canDo 7 = .ok (.aload_n 0, 1) := by decide +kernel
theorem dX6_canDo_8 : decode cX6_canDo 8 = .ok (.getfield 28, 3) := by decide +kernel
theorem dX6_canDo_11 : decode cX6_canDo 11 = .ok (.iload_n 1, 1) := by decide +kernel
theorem dX6_canDo_12 : decode cX6_canDo 12 = .ok (.iaload, 1) := by decide +kernel
theorem dX6_canDo_13 : decode cX6_canDo 13 = .ok (.lookupswitch 94 #[(99, 64), (104, 58), (111, 78), (114, 43)], 43) := by decide +kernel
theorem dX6_canDo_56 : decode cX6_canDo 56 = .ok (.aload_n 0, 1) := by decide +kernel
theorem dX6_canDo_57 : decode cX6_canDo 57 = .ok (.iload_n 2, 1) := by decide +kernel
theorem dX6_canDo_58 : decode cX6_canDo 58 = .ok (.iconst 3, 1) := by decide +kernel
theorem dX6_canDo_59 : decode cX6_canDo 59 = .ok (.invokevirtual 52, 3) := by decide +kernel
theorem dX6_canDo_62 : decode cX6_canDo 62 = .ok (.ifCond .ne 7, 3) := by decide +kernel
theorem dX6_canDo_65 : decode cX6_canDo 65 = .ok (.iconst 1, 1) := by decide +kernel
theorem dX6_canDo_66 : decode cX6_canDo 66 = .ok (.goto 4, 3) := by decide +kernel
theorem dX6_canDo_69 : decode cX6_canDo 69 = .ok (.iconst 0, 1) := by decide +kernel
theorem dX6_canDo_70 : decode cX6_canDo 70 = .ok (.ireturn, 1) := by decide +kernel
theorem dX6_canDo_71 : decode cX6_canDo 71 = .ok (.aload_n 0, 1) := by decide +kernel
theorem dX6_canDo_72 : decode cX6_canDo 72 = .ok (.iload_n 2, 1) := by decide +kernel
theorem dX6_canDo_73 : decode cX6_canDo 73 = .ok (.invokevirtual 128, 3) := by decide +kernel
theorem dX6_canDo_76 : decode cX6_canDo 76 = .ok (.ireturn, 1) := by decide +kernel
theorem dX6_canDo_77 : decode cX6_canDo 77 = .ok (.aload_n 0, 1) := by decide +kernel
theorem dX6_canDo_78 : decode cX6_canDo 78 = .ok (.iload_n 2, 1) := by decide +kernel
theorem dX6_canDo_79 : decode cX6_canDo 79 = .ok (.invokevirtual 134, 3) := by decide +kernel
theorem dX6_canDo_82 : decode cX6_canDo 82 = .ok (.ifCond .ne 7, 3) := by decide +kernel
theorem dX6_canDo_85 : decode cX6_canDo 85 = .ok (.iconst 1, 1) := by decide +kernel
theorem dX6_canDo_86 : decode cX6_canDo 86 = .ok (.goto 4, 3) := by decide +kernel
theorem dX6_canDo_89 : decode cX6_canDo 89 = .ok (.iconst 0, 1) := by decide +kernel
theorem dX6_canDo_90 : decode cX6_canDo 90 = .ok (.ireturn, 1) := by decide +kernel
theorem dX6_canDo_91 : decode cX6_canDo 91 = .ok (.aload_n 0, 1) := by decide +kernel
theorem dX6_canDo_92 : decode cX6_canDo 92 = .ok (.iload_n 2, 1) := by decide +kernel
theorem dX6_canDo_93 : decode cX6_canDo 93 = .ok (.iconst 4, 1) := by decide +kernel
theorem dX6_canDo_94 : decode cX6_canDo 94 = .ok (.invokevirtual 52, 3) := by decide +kernel
theorem dX6_canDo_97 : decode cX6_canDo 97 = .ok (.iconst 1, 1) := by decide +kernel
theorem dX6_canDo_98 : decode cX6_canDo 98 = .ok (.if_icmp .ne 7, 3) := by decide +kernel
theorem dX6_canDo_101 : decode cX6_canDo 101 = .ok (.iconst 1, 1) := by decide +kernel
theorem dX6_canDo_102 : decode cX6_canDo 102 = .ok (.goto 4, 3) := by decide +kernel
theorem dX6_canDo_105 : decode cX6_canDo 105 = .ok (.iconst 0, 1) := by decide +kernel
theorem dX6_canDo_106 : decode cX6_canDo 106 = .ok (.ireturn, 1) := by decide +kernel
theorem dX6_canDo_107 : decode cX6_canDo 107 = .ok (.iconst 1, 1) := by decide +kernel
theorem dX6_canDo_108 : decode cX6_canDo 108 = .ok (.ireturn, 1) := by decide +kernel
set_option maxRecDepth 100000 in
theorem ggX6_doOrder_X6_speedNow : GoodIn wsX6_doOrder wsX6_speedNow := goodIn_r _ [8, 9, 10, 11, 7, 12, 13, 14, 15, 16, 17, 96, 97, 98, 99, 100, 101, 102, 103, 104, 105, 106, 107, 108, 109, 110, 111, 112] rfl (by decide +kernel)
set_option maxRecDepth 100000 in
theorem gX6_doOrder_X6_speedNow : GoodIn wsX6_doOrder (wsV RX6 122 RX6 yX6_speedNow wsX6_speedNow) := goodIn_app (goodIn_r _ [4, 5, 6, 7] rfl (by decide +kernel)) ggX6_doOrder_X6_speedNow
set_option maxRecDepth 100000 in
theorem ggX6_doOrder_X6_runNow : GoodIn wsX6_doOrder wsX6_runNow := goodIn_r _ [21, 14, 15, 16, 7, 17, 13, 22, 23, 24, 25, 26, 27, 28, 29, 9, 10, 11, 12, 96, 97, 98, 99, 100, 101, 102, 103, 104, 105, 106, 107, 108, 109, 110, 111, 112] rfl (by decide +kernel)
set_option maxRecDepth 100000 in
theorem gX6_doOrder_X6_runNow : GoodIn wsX6_doOrder (wsV RX6 125 RX6 yX6_runNow wsX6_runNow) := goodIn_app (goodIn_r _ [18, 19, 20, 7] rfl (by decide +kernel)) ggX6_doOrder_X6_runNow
set_option maxRecDepth 100000 in
theorem ggX6_doOrder_X6_haltNow : GoodIn wsX6_doOrder wsX6_haltNow := goodIn_r _ [33, 14, 15, 16, 7, 17, 13, 22, 23, 24, 25, 26, 27, 28, 29, 9, 10, 11, 12, 96, 97, 98, 99, 100, 101, 102, 103, 104, 105, 106, 107, 108, 109, 110, 111, 112] rfl (by decide +kernel)
set_option maxRecDepth 100000 in
theorem gX6_doOrder_X6_haltNow : GoodIn wsX6_doOrder (wsV RX6 131 RX6 yX6_haltNow wsX6_haltNow) := goodIn_app (goodIn_r _ [30, 31, 32, 7] rfl (by decide +kernel)) ggX6_doOrder_X6_haltNow
set_option maxRecDepth 100000 in
theorem ggX6_doOrder_X6_switchNow : GoodIn wsX6_doOrder wsX6_switchNow := goodIn_r _ [37, 14, 15, 16, 7, 17, 13, 22, 23, 24, 25, 38, 39, 40, 41, 42, 43, 44, 45, 26, 27, 28, 29, 9, 10, 11, 12, 46, 47, 48, 49, 50, 51, 52, 53, 54, 55, 56, 57, 58, 59, 60, 61, 96, 97, 98, 99, 100, 101, 102, 103, 104, 105, 106, 107, 108, 109, 110, 111, 112] rfl (by decide +kernel)
set_option maxRecDepth 100000 in
theorem gX6_doOrder_X6_switchNow : GoodIn wsX6_doOrder (wsV RX6 137 RX6 yX6_switchNow wsX6_switchNow) := goodIn_app (goodIn_r _ [34, 35, 36, 7] rfl (by decide +kernel)) ggX6_doOrder_X6_switchNow
set_option maxRecDepth 100000 in
theorem ggX6_doOrder_X6_feederNow : GoodIn wsX6_doOrder wsX6_feederNow := goodIn_r _ [65, 13, 50, 51, 52, 7, 53, 96, 97, 98, 99, 100, 101, 102, 103, 104, 105, 106, 107, 108, 109, 110, 111, 112] rfl (by decide +kernel)
set_option maxRecDepth 100000 in
theorem gX6_doOrder_X6_feederNow : GoodIn wsX6_doOrder (wsV RX6 143 RX6 yX6_feederNow wsX6_feederNow) := goodIn_app (goodIn_r _ [62, 63, 64, 7] rfl (by decide +kernel)) ggX6_doOrder_X6_feederNow
set_option maxRecDepth 100000 in
theorem ggX6_doOrder_X6_passNow : GoodIn wsX6_doOrder wsX6_passNow := goodIn_r _ [69, 70, 71, 72, 7, 73, 13, 74, 75, 38, 39, 40, 41, 42, 43, 44, 45, 26, 27, 28, 29, 9, 10, 11, 12, 46, 47, 48, 49, 50, 51, 52, 53, 54, 55, 56, 57, 58, 59, 60, 61, 76, 77, 78, 79, 14, 15, 16, 17, 80, 81, 82, 83, 84, 85, 86, 87, 88, 89, 90, 91, 92, 93, 94, 95, 22, 23, 24, 25, 96, 97, 98, 99, 100, 101, 102, 103, 104, 105, 106, 107, 108, 109, 110, 111, 112] rfl (by decide +kernel)
set_option maxRecDepth 100000 in
theorem gX6_doOrder_X6_passNow : GoodIn wsX6_doOrder (wsV RX6 146 RX6 yX6_passNow wsX6_passNow) := goodIn_app (goodIn_r _ [66, 67, 68, 7] rfl (by decide +kernel)) ggX6_doOrder_X6_passNow
theorem dX6_doOrder_0 : decode cX6_doOrder 0 = .ok (.aload_n 0, 1) := by decide +kernel
theorem dX6_doOrder_1 : decode cX6_doOrder 1 = .ok (.getfield 28, 3) := by decide +kernel
theorem dX6_doOrder_4 : decode cX6_doOrder 4 = .ok (.iload_n 1, 1) := by decide +kernel
theorem dX6_doOrder_5 : decode cX6_doOrder 5 = .ok (.iaload, 1) := by decide +kernel
theorem dX6_doOrder_6 : decode cX6_doOrder 6 = .ok (.tableswitch 162 99 115 #[121, 162, 162, 145, 162, 110, 162, 162, 162, 162, 162, 162, 133, 162, 162, 99, 82], 82) := by decide +kernel
theorem dX6_doOrder_88 : decode cX6_doOrder 88 = .ok (.aload_n 0, 1) := by decide +kernel
theorem dX6_doOrder_89 : decode cX6_doOrder 89 = .ok (.aload_n 0, 1) := by decide +kernel
theorem dX6_doOrder_90 : decode cX6_doOrder 90 = .ok (.getfield 31, 3) := by decide +kernel
theorem dX6_doOrder_93 : decode cX6_doOrder 93 = .ok (.iload_n 1, 1) := by decide +kernel
theorem dX6_doOrder_94 : decode cX6_doOrder 94 = .ok (.iaload, 1) := by decide +kernel
theorem dX6_doOrder_95 : decode cX6_doOrder 95 = .ok (.aload_n 0, 1) := by decide +kernel
theorem dX6_doOrder_96 : decode cX6_doOrder 96 = .ok (.getfield 34, 3) := by decide +kernel
theorem dX6_doOrder_99 : decode cX6_doOrder 99 = .ok (.iload_n 1, 1) := by decide +kernel
theorem dX6_doOrder_100 : decode cX6_doOrder 100 = .ok (.iaload, 1) := by decide +kernel
theorem dX6_doOrder_101 : decode cX6_doOrder 101 = .ok (.invokevirtual 122, 3) := by decide +kernel
theorem dX6_doOrder_104 : decode cX6_doOrder 104 = .ok (.ireturn, 1) := by decide +kernel
theorem dX6_doOrder_105 : decode cX6_doOrder 105 = .ok (.aload_n 0, 1) := by decide +kernel
theorem dX6_doOrder_106 : decode cX6_doOrder 106 = .ok (.aload_n 0, 1) := by decide +kernel
theorem dX6_doOrder_107 : decode cX6_doOrder 107 = .ok (.getfield 31, 3) := by decide +kernel
theorem dX6_doOrder_110 : decode cX6_doOrder 110 = .ok (.iload_n 1, 1) := by decide +kernel
theorem dX6_doOrder_111 : decode cX6_doOrder 111 = .ok (.iaload, 1) := by decide +kernel
theorem dX6_doOrder_112 : decode cX6_doOrder 112 = .ok (.invokevirtual 125, 3) := by decide +kernel
theorem dX6_doOrder_115 : decode cX6_doOrder 115 = .ok (.ireturn, 1) := by decide +kernel
theorem dX6_doOrder_116 : decode cX6_doOrder 116 = .ok (.aload_n 0, 1) := by decide +kernel
theorem dX6_doOrder_117 : decode cX6_doOrder 117 = .ok (.aload_n 0, 1) := by decide +kernel
theorem dX6_doOrder_118 : decode cX6_doOrder 118 = .ok (.getfield 31, 3) := by decide +kernel
theorem dX6_doOrder_121 : decode cX6_doOrder 121 = .ok (.iload_n 1, 1) := by decide +kernel
theorem dX6_doOrder_122 : decode cX6_doOrder 122 = .ok (.iaload, 1) := by decide +kernel
theorem dX6_doOrder_123 : decode cX6_doOrder 123 = .ok (.invokevirtual 131, 3) := by decide +kernel
theorem dX6_doOrder_126 : decode cX6_doOrder 126 = .ok (.ireturn, 1) := by decide +kernel
theorem dX6_doOrder_127 : decode cX6_doOrder 127 = .ok (.aload_n 0, 1) := by decide +kernel
theorem dX6_doOrder_128 : decode cX6_doOrder 128 = .ok (.aload_n 0, 1) := by decide +kernel
theorem dX6_doOrder_129 : decode cX6_doOrder 129 = .ok (.getfield 31, 3) := by decide +kernel
theorem dX6_doOrder_132 : decode cX6_doOrder 132 = .ok (.iload_n 1, 1) := by decide +kernel
theorem dX6_doOrder_133 : decode cX6_doOrder 133 = .ok (.iaload, 1) := by decide +kernel
theorem dX6_doOrder_134 : decode cX6_doOrder 134 = .ok (.iconst 1, 1) := by decide +kernel
theorem dX6_doOrder_135 : decode cX6_doOrder 135 = .ok (.invokevirtual 137, 3) := by decide +kernel
theorem dX6_doOrder_138 : decode cX6_doOrder 138 = .ok (.ireturn, 1) := by decide +kernel
theorem dX6_doOrder_139 : decode cX6_doOrder 139 = .ok (.aload_n 0, 1) := by decide +kernel
theorem dX6_doOrder_140 : decode cX6_doOrder 140 = .ok (.aload_n 0, 1) := by decide +kernel
theorem dX6_doOrder_141 : decode cX6_doOrder 141 = .ok (.getfield 31, 3) := by decide +kernel
theorem dX6_doOrder_144 : decode cX6_doOrder 144 = .ok (.iload_n 1, 1) := by decide +kernel
theorem dX6_doOrder_145 : decode cX6_doOrder 145 = .ok (.iaload, 1) := by decide +kernel
theorem dX6_doOrder_146 : decode cX6_doOrder 146 = .ok (.iconst 0, 1) := by decide +kernel
theorem dX6_doOrder_147 : decode cX6_doOrder 147 = .ok (.invokevirtual 137, 3) := by decide +kernel
theorem dX6_doOrder_150 : decode cX6_doOrder 150 = .ok (.ireturn, 1) := by decide +kernel
theorem dX6_doOrder_151 : decode cX6_doOrder 151 = .ok (.aload_n 0, 1) := by decide +kernel
theorem dX6_doOrder_152 : decode cX6_doOrder 152 = .ok (.aload_n 0, 1) := by decide +kernel
theorem dX6_doOrder_153 : decode cX6_doOrder 153 = .ok (.getfield 31, 3) := by decide +kernel
theorem dX6_doOrder_156 : decode cX6_doOrder 156 = .ok (.iload_n 1, 1) := by decide +kernel
theorem dX6_doOrder_157 : decode cX6_doOrder 157 = .ok (.iaload, 1) := by decide +kernel
theorem dX6_doOrder_158 : decode cX6_doOrder 158 = .ok (.aload_n 0, 1) := by decide +kernel
theorem dX6_doOrder_159 : decode cX6_doOrder 159 = .ok (.getfield 34, 3) := by decide +kernel
theorem dX6_doOrder_162 : decode cX6_doOrder 162 = .ok (.iload_n 1, 1) := by decide +kernel
theorem dX6_doOrder_163 : decode cX6_doOrder 163 = .ok (.iaload, 1) := by decide +kernel
theorem dX6_doOrder_164 : decode cX6_doOrder 164 = .ok (.invokevirtual 143, 3) := by decide +kernel
theorem dX6_doOrder_167 : decode cX6_doOrder 167 = .ok (.ireturn, 1) := by decide +kernel
theorem dX6_doOrder_168 : decode cX6_doOrder 168 = .ok (.aload_n 0, 1) := by decide +kernel
theorem dX6_doOrder_169 : decode cX6_doOrder 169 = .ok (.aload_n 0, 1) := by decide +kernel
theorem dX6_doOrder_170 : decode cX6_doOrder 170 = .ok (.getfield 31, 3) := by decide +kernel
theorem dX6_doOrder_173 : decode cX6_doOrder 173 = .ok (.iload_n 1, 1) := by decide +kernel
theorem dX6_doOrder_174 : decode cX6_doOrder 174 = .ok (.iaload, 1) := by decide +kernel
theorem dX6_doOrder_175 : decode cX6_doOrder 175 = .ok (.invokevirtual 146, 3) := by decide +kernel
theorem dX6_doOrder_178 : decode cX6_doOrder 178 = .ok (.ireturn, 1) := by decide +kernel
set_option maxRecDepth 100000 in
theorem ggX6_obey_X6_areOrders : GoodIn wsX6_obey wsX6_areOrders := goodIn_r _ [8, 9, 2, 3, 10, 11, 12, 7, 13, 14, 15, 16, 17, 18, 19, 20, 21, 22, 23, 24, 25, 26, 27, 28, 29, 30, 31, 32, 33, 34, 35, 36, 37, 38, 39, 40, 164, 165, 166, 167, 168, 169, 170, 171, 172, 173, 174, 175, 176, 177, 178, 179, 180] rfl (by decide +kernel)
set_option maxRecDepth 100000 in
theorem gX6_obey_X6_areOrders : GoodIn wsX6_obey (wsV RX6 180 RX6 yX6_areOrders wsX6_areOrders) := goodIn_app (goodIn_r _ [4, 5, 6, 7] rfl (by decide +kernel)) ggX6_obey_X6_areOrders
set_option maxRecDepth 100000 in
theorem ggX6_obey_X6_fails : GoodIn wsX6_obey wsX6_fails := goodIn_r _ [44, 1, 164, 165, 166, 167, 168, 169, 170, 171, 172, 173, 174, 175, 176, 177, 178, 179, 180] rfl (by decide +kernel)
set_option maxRecDepth 100000 in
theorem gX6_obey_X6_fails : GoodIn wsX6_obey (wsV RX6 116 RX6 yX6_fails wsX6_fails) := goodIn_app (goodIn_r _ [41, 42, 43, 7] rfl (by decide +kernel)) ggX6_obey_X6_fails
set_option maxRecDepth 100000 in
theorem ggX6_obey_X6_save : GoodIn wsX6_obey wsX6_save := goodIn_r _ [48, 49, 50, 51, 164, 165, 166, 167, 168, 169, 170, 171, 172, 173, 174, 175, 176, 177, 178, 179, 180] rfl (by decide +kernel)
set_option maxRecDepth 100000 in
theorem gX6_obey_X6_save : GoodIn wsX6_obey (wsV RX6 119 RX6 yX6_save wsX6_save) := goodIn_app (goodIn_r _ [45, 46, 47, 7] rfl (by decide +kernel)) ggX6_obey_X6_save
set_option maxRecDepth 100000 in
theorem ggX6_obey_X6_canDo : GoodIn wsX6_obey wsX6_canDo := goodIn_r _ [55, 20, 15, 56, 57, 58, 7, 59, 51, 60, 61, 62, 63, 64, 65, 66, 67, 68, 69, 70, 71, 72, 73, 74, 75, 76, 77, 78, 79, 80, 81, 82, 83, 84, 85, 86, 87, 88, 89, 90, 91, 92, 93, 94, 95, 96, 97, 98, 99, 100, 101, 164, 165, 166, 167, 168, 169, 170, 171, 172, 173, 174, 175, 176, 177, 178, 179, 180] rfl (by decide +kernel)
set_option maxRecDepth 100000 in
theorem gX6_obey_X6_canDo : GoodIn wsX6_obey (wsV RX6 183 RX6 yX6_canDo wsX6_canDo) := goodIn_app (goodIn_r _ [52, 53, 54, 7] rfl (by decide +kernel)) ggX6_obey_X6_canDo
set_option maxRecDepth 100000 in
theorem ggX6_obey_X6_doOrder : GoodIn wsX6_obey wsX6_doOrder := goodIn_r _ [105, 15, 20, 21, 106, 107, 108, 7, 109, 56, 57, 58, 59, 51, 110, 111, 112, 113, 114, 115, 116, 117, 118, 119, 120, 121, 72, 73, 74, 75, 122, 123, 124, 125, 126, 127, 128, 129, 76, 77, 78, 79, 68, 69, 70, 71, 80, 81, 82, 83, 84, 85, 86, 87, 88, 89, 90, 91, 92, 93, 94, 95, 130, 131, 132, 133, 134, 135, 136, 137, 138, 139, 140, 141, 142, 143, 144, 145, 146, 147, 148, 149, 150, 151, 152, 153, 154, 155, 156, 157, 158, 159, 160, 161, 162, 163, 164, 165, 166, 167, 168, 169, 170, 171, 172, 173, 174, 175, 176, 177, 178, 179, 180] rfl (by decide +kernel)
set_option maxRecDepth 100000 in
theorem gX6_obey_X6_doOrder : GoodIn wsX6_obey (wsV RX6 186 RX6 yX6_doOrder wsX6_doOrder) := goodIn_app (goodIn_r _ [102, 103, 104, 7] rfl (by decide +kernel)) ggX6_obey_X6_doOrder
theorem dX6_obey_0 : decode cX6_obey 0 = .ok (.aload_n 0, 1) := by decide +kernel
theorem dX6_obey_1 : decode cX6_obey 1 = .ok (.iconst 0, 1) := by decide +kernel
theorem dX6_obey_2 : decode cX6_obey 2 = .ok (.putfield 41, 3) := by decide +kernel
theorem dX6_obey_5 : decode cX6_obey 5 = .ok (.aload_n 0, 1) := by decide +kernel
theorem dX6_obey_6 : decode cX6_obey 6 = .ok (.invokevirtual 180, 3) := by decide +kernel
theorem dX6_obey_9 : decode cX6_obey 9 = .ok (.ifCond .ne 9, 3) := by decide +kernel
theorem dX6_obey_12 : decode cX6_obey 12 = .ok (.aload_n 0, 1) := by decide +kernel
theorem dX6_obey_13 : decode cX6_obey 13 = .ok (.iconst 1, 1) := by decide +kernel
theorem dX6_obey_14 : decode cX6_obey 14 = .ok (.invokevirtual 116, 3) := by decide +kernel
theorem dX6_obey_17 : decode cX6_obey 17 = .ok (.ireturn, 1) := by decide +kernel
theorem dX6_obey_18 : decode cX6_obey 18 = .ok (.aload_n 0, 1) := by decide +kernel
theorem dX6_obey_19 : decode cX6_obey 19 = .ok (.invokevirtual 119, 3) := by decide +kernel
theorem dX6_obey_22 : decode cX6_obey 22 = .ok (.iconst 0, 1) := by decide +kernel
theorem dX6_obey_23 : decode cX6_obey 23 = .ok (.istore_n 1, 1) := by decide +kernel
theorem dX6_obey_24 : decode cX6_obey 24 = .ok (.iload_n 1, 1) := by decide +kernel
theorem dX6_obey_25 : decode cX6_obey 25 = .ok (.aload_n 0, 1) := by decide +kernel
theorem dX6_obey_26 : decode cX6_obey 26 = .ok (.getfield 165, 3) := by decide +kernel
theorem dX6_obey_29 : decode cX6_obey 29 = .ok (.if_icmp .ge 23, 3) := by decide +kernel
theorem dX6_obey_32 : decode cX6_obey 32 = .ok (.aload_n 0, 1) := by decide +kernel
theorem dX6_obey_33 : decode cX6_obey 33 = .ok (.iload_n 1, 1) := by decide +kernel
theorem dX6_obey_34 : decode cX6_obey 34 = .ok (.invokevirtual 183, 3) := by decide +kernel
theorem dX6_obey_37 : decode cX6_obey 37 = .ok (.ifCond .eq 15, 3) := by decide +kernel
theorem dX6_obey_40 : decode cX6_obey 40 = .ok (.aload_n 0, 1) := by decide +kernel
theorem dX6_obey_41 : decode cX6_obey 41 = .ok (.iload_n 1, 1) := by decide +kernel
theorem dX6_obey_42 : decode cX6_obey 42 = .ok (.invokevirtual 186, 3) := by decide +kernel
theorem dX6_obey_45 : decode cX6_obey 45 = .ok (.istore_n 2, 1) := by decide +kernel
theorem dX6_obey_46 : decode cX6_obey 46 = .ok (.iinc 1 1, 3) := by decide +kernel
theorem dX6_obey_49 : decode cX6_obey 49 = .ok (.goto (-25), 3) := by decide +kernel
theorem dX6_obey_52 : decode cX6_obey 52 = .ok (.aload_n 0, 1) := by decide +kernel
theorem dX6_obey_53 : decode cX6_obey 53 = .ok (.iconst 0, 1) := by decide +kernel
theorem dX6_obey_54 : decode cX6_obey 54 = .ok (.putfield 153, 3) := by decide +kernel
theorem dX6_obey_57 : decode cX6_obey 57 = .ok (.iload_n 1, 1) := by decide +kernel
theorem dX6_obey_58 : decode cX6_obey 58 = .ok (.ireturn, 1) := by decide +kernel
theorem dX6_keep_0 : decode cX6_keep 0 = .ok (.aload_n 0, 1) := by decide +kernel
theorem dX6_keep_1 : decode cX6_keep 1 = .ok (.iconst 0, 1) := by decide +kernel
theorem dX6_keep_2 : decode cX6_keep 2 = .ok (.putfield 41, 3) := by decide +kernel
theorem dX6_keep_5 : decode cX6_keep 5 = .ok (.iconst 0, 1) := by decide +kernel
theorem dX6_keep_6 : decode cX6_keep 6 = .ok (.istore_n 1, 1) := by decide +kernel
theorem dX6_keep_7 : decode cX6_keep 7 = .ok (.iload_n 1, 1) := by decide +kernel
theorem dX6_keep_8 : decode cX6_keep 8 = .ok (.bipush 50, 2) := by decide +kernel
theorem dX6_keep_10 : decode cX6_keep 10 = .ok (.if_icmp .ge 21, 3) := by decide +kernel
theorem dX6_keep_13 : decode cX6_keep 13 = .ok (.aload_n 0, 1) := by decide +kernel
theorem dX6_keep_14 : decode cX6_keep 14 = .ok (.getfield 16, 3) := by decide +kernel
theorem dX6_keep_17 : decode cX6_keep 17 = .ok (.iload_n 1, 1) := by decide +kernel
theorem dX6_keep_18 : decode cX6_keep 18 = .ok (.aload_n 0, 1) := by decide +kernel
theorem dX6_keep_19 : decode cX6_keep 19 = .ok (.getfield 7, 3) := by decide +kernel
theorem dX6_keep_22 : decode cX6_keep 22 = .ok (.iload_n 1, 1) := by decide +kernel
theorem dX6_keep_23 : decode cX6_keep 23 = .ok (.iaload, 1) := by decide +kernel
theorem dX6_keep_24 : decode cX6_keep 24 = .ok (.iastore, 1) := by decide +kernel
theorem dX6_keep_25 : decode cX6_keep 25 = .ok (.iinc 1 1, 3) := by decide +kernel
theorem dX6_keep_28 : decode cX6_keep 28 = .ok (.goto (-21), 3) := by decide +kernel
theorem dX6_keep_31 : decode cX6_keep 31 = .ok (.aload_n 0, 1) := by decide +kernel
theorem dX6_keep_32 : decode cX6_keep 32 = .ok (.iconst 1, 1) := by decide +kernel
theorem dX6_keep_33 : decode cX6_keep 33 = .ok (.putfield 189, 3) := by decide +kernel
theorem dX6_keep_36 : decode cX6_keep 36 = .ok (.aload_n 0, 1) := by decide +kernel
theorem dX6_keep_37 : decode cX6_keep 37 = .ok (.getfield 7, 3) := by decide +kernel
theorem dX6_keep_40 : decode cX6_keep 40 = .ok (.iconst 4, 1) := by decide +kernel
theorem dX6_keep_41 : decode cX6_keep 41 = .ok (.iaload, 1) := by decide +kernel
theorem dX6_keep_42 : decode cX6_keep 42 = .ok (.ireturn, 1) := by decide +kernel
set_option maxRecDepth 100000 in
theorem ggX6_goBack_X6_fails : GoodIn wsX6_goBack wsX6_fails := goodIn_r _ [9, 1, 16, 17, 18, 19, 20, 21, 22, 23, 24, 25, 26, 27, 28, 29, 30, 31, 32] rfl (by decide +kernel)
set_option maxRecDepth 100000 in
theorem gX6_goBack_X6_fails : GoodIn wsX6_goBack (wsV RX6 116 RX6 yX6_fails wsX6_fails) := goodIn_app (goodIn_r _ [5, 6, 7, 8] rfl (by decide +kernel)) ggX6_goBack_X6_fails
set_option maxRecDepth 100000 in
theorem ggX6_goBack_X6_save : GoodIn wsX6_goBack wsX6_save := goodIn_r _ [13, 14, 15, 3, 16, 17, 18, 19, 20, 21, 22, 23, 24, 25, 26, 27, 28, 29, 30, 31, 32] rfl (by decide +kernel)
set_option maxRecDepth 100000 in
theorem gX6_goBack_X6_save : GoodIn wsX6_goBack (wsV RX6 119 RX6 yX6_save wsX6_save) := goodIn_app (goodIn_r _ [10, 11, 12, 8] rfl (by decide +kernel)) ggX6_goBack_X6_save
theorem dX6_goBack_0 : decode cX6_goBack 0 = .ok (.aload_n 0, 1) := by decide +kernel
theorem dX6_goBack_1 : decode cX6_goBack 1 = .ok (.iconst 0, 1) := by decide +kernel
theorem dX6_goBack_2 : decode cX6_goBack 2 = .ok (.putfield 41, 3) := by decide +kernel
theorem dX6_goBack_5 : decode cX6_goBack 5 = .ok (.aload_n 0, 1) := by decide +kernel
theorem dX6_goBack_6 : decode cX6_goBack 6 = .ok (.getfield 189, 3) := by decide +kernel
theorem dX6_goBack_9 : decode cX6_goBack 9 = .ok (.ifCond .ne 9, 3) := by decide +kernel
theorem dX6_goBack_12 : decode cX6_goBack 12 = .ok (.aload_n 0, 1) := by decide +kernel
theorem dX6_goBack_13 : decode cX6_goBack 13 = .ok (.iconst 1, 1) := by decide +kernel
theorem dX6_goBack_14 : decode cX6_goBack 14 = .ok (.invokevirtual 116, 3) := by decide +kernel
theorem dX6_goBack_17 : decode cX6_goBack 17 = .ok (.ireturn, 1) := by decide +kernel
theorem dX6_goBack_18 : decode cX6_goBack 18 = .ok (.aload_n 0, 1) := by decide +kernel
theorem dX6_goBack_19 : decode cX6_goBack 19 = .ok (.invokevirtual 119, 3) := by decide +kernel
theorem dX6_goBack_22 : decode cX6_goBack 22 = .ok (.iconst 0, 1) := by decide +kernel
theorem dX6_goBack_23 : decode cX6_goBack 23 = .ok (.istore_n 1, 1) := by decide +kernel
theorem dX6_goBack_24 : decode cX6_goBack 24 = .ok (.iload_n 1, 1) := by decide +kernel
theorem dX6_goBack_25 : decode cX6_goBack 25 = .ok (.bipush 50, 2) := by decide +kernel
theorem dX6_goBack_27 : decode cX6_goBack 27 = .ok (.if_icmp .ge 21, 3) := by decide +kernel
theorem dX6_goBack_30 : decode cX6_goBack 30 = .ok (.aload_n 0, 1) := by decide +kernel
theorem dX6_goBack_31 : decode cX6_goBack 31 = .ok (.getfield 7, 3) := by decide +kernel
theorem dX6_goBack_34 : decode cX6_goBack 34 = .ok (.iload_n 1, 1) := by decide +kernel
theorem dX6_goBack_35 : decode cX6_goBack 35 = .ok (.aload_n 0, 1) := by decide +kernel
theorem dX6_goBack_36 : decode cX6_goBack 36 = .ok (.getfield 16, 3) := by decide +kernel
theorem dX6_goBack_39 : decode cX6_goBack 39 = .ok (.iload_n 1, 1) := by decide +kernel
theorem dX6_goBack_40 : decode cX6_goBack 40 = .ok (.iaload, 1) := by decide +kernel
theorem dX6_goBack_41 : decode cX6_goBack 41 = .ok (.iastore, 1) := by decide +kernel
theorem dX6_goBack_42 : decode cX6_goBack 42 = .ok (.iinc 1 1, 3) := by decide +kernel
theorem dX6_goBack_45 : decode cX6_goBack 45 = .ok (.goto (-21), 3) := by decide +kernel
theorem dX6_goBack_48 : decode cX6_goBack 48 = .ok (.aload_n 0, 1) := by decide +kernel
theorem dX6_goBack_49 : decode cX6_goBack 49 = .ok (.getfield 7, 3) := by decide +kernel
theorem dX6_goBack_52 : decode cX6_goBack 52 = .ok (.iconst 4, 1) := by decide +kernel
theorem dX6_goBack_53 : decode cX6_goBack 53 = .ok (.iaload, 1) := by decide +kernel
theorem dX6_goBack_54 : decode cX6_goBack 54 = .ok (.ireturn, 1) := by decide +kernel
set_option maxRecDepth 100000 in
theorem ggX6_undo_X6_fails : GoodIn wsX6_undo wsX6_fails := goodIn_r _ [9, 1, 10, 11, 12, 13, 14, 15, 16, 17, 18, 19, 20, 21, 22, 23, 24, 25, 26] rfl (by decide +kernel)
set_option maxRecDepth 100000 in
theorem gX6_undo_X6_fails : GoodIn wsX6_undo (wsV RX6 116 RX6 yX6_fails wsX6_fails) := goodIn_app (goodIn_r _ [5, 6, 7, 8] rfl (by decide +kernel)) ggX6_undo_X6_fails
theorem dX6_undo_0 : decode cX6_undo 0 = .ok (.aload_n 0, 1) := by decide +kernel
theorem dX6_undo_1 : decode cX6_undo 1 = .ok (.iconst 0, 1) := by decide +kernel
theorem dX6_undo_2 : decode cX6_undo 2 = .ok (.putfield 41, 3) := by decide +kernel
theorem dX6_undo_5 : decode cX6_undo 5 = .ok (.aload_n 0, 1) := by decide +kernel
theorem dX6_undo_6 : decode cX6_undo 6 = .ok (.getfield 49, 3) := by decide +kernel
theorem dX6_undo_9 : decode cX6_undo 9 = .ok (.ifCond .ne 9, 3) := by decide +kernel
theorem dX6_undo_12 : decode cX6_undo 12 = .ok (.aload_n 0, 1) := by decide +kernel
theorem dX6_undo_13 : decode cX6_undo 13 = .ok (.iconst 1, 1) := by decide +kernel
theorem dX6_undo_14 : decode cX6_undo 14 = .ok (.invokevirtual 116, 3) := by decide +kernel
theorem dX6_undo_17 : decode cX6_undo 17 = .ok (.ireturn, 1) := by decide +kernel
theorem dX6_undo_18 : decode cX6_undo 18 = .ok (.aload_n 0, 1) := by decide +kernel
theorem dX6_undo_19 : decode cX6_undo 19 = .ok (.dup, 1) := by decide +kernel
theorem dX6_undo_20 : decode cX6_undo 20 = .ok (.getfield 49, 3) := by decide +kernel
theorem dX6_undo_23 : decode cX6_undo 23 = .ok (.iconst 1, 1) := by decide +kernel
theorem dX6_undo_24 : decode cX6_undo 24 = .ok (.isub, 1) := by decide +kernel
theorem dX6_undo_25 : decode cX6_undo 25 = .ok (.putfield 49, 3) := by decide +kernel
theorem dX6_undo_28 : decode cX6_undo 28 = .ok (.iconst 0, 1) := by decide +kernel
theorem dX6_undo_29 : decode cX6_undo 29 = .ok (.istore_n 1, 1) := by decide +kernel
theorem dX6_undo_30 : decode cX6_undo 30 = .ok (.iload_n 1, 1) := by decide +kernel
theorem dX6_undo_31 : decode cX6_undo 31 = .ok (.bipush 50, 2) := by decide +kernel
theorem dX6_undo_33 : decode cX6_undo 33 = .ok (.if_icmp .ge 29, 3) := by decide +kernel
theorem dX6_undo_36 : decode cX6_undo 36 = .ok (.aload_n 0, 1) := by decide +kernel
theorem dX6_undo_37 : decode cX6_undo 37 = .ok (.getfield 7, 3) := by decide +kernel
theorem dX6_undo_40 : decode cX6_undo 40 = .ok (.iload_n 1, 1) := by decide +kernel
theorem dX6_undo_41 : decode cX6_undo 41 = .ok (.aload_n 0, 1) := by decide +kernel
theorem dX6_undo_42 : decode cX6_undo 42 = .ok (.getfield 13, 3) := by decide +kernel
theorem dX6_undo_45 : decode cX6_undo 45 = .ok (.bipush 50, 2) := by decide +kernel
theorem dX6_undo_47 : decode cX6_undo 47 = .ok (.aload_n 0, 1) := by decide +kernel
theorem dX6_undo_48 : decode cX6_undo 48 = .ok (.getfield 49, 3) := by decide +kernel
theorem dX6_undo_51 : decode cX6_undo 51 = .ok (.imul, 1) := by decide +kernel
theorem dX6_undo_52 : decode cX6_undo 52 = .ok (.iload_n 1, 1) := by decide +kernel
theorem dX6_undo_53 : decode cX6_undo 53 = .ok (.iadd, 1) := by decide +kernel
theorem dX6_undo_54 : decode cX6_undo 54 = .ok (.iaload, 1) := by decide +kernel
theorem dX6_undo_55 : decode cX6_undo 55 = .ok (.iastore, 1) := by decide +kernel
theorem dX6_undo_56 : decode cX6_undo 56 = .ok (.iinc 1 1, 3) := by decide +kernel
theorem dX6_undo_59 : decode cX6_undo 59 = .ok (.goto (-29), 3) := by decide +kernel
theorem dX6_undo_62 : decode cX6_undo 62 = .ok (.aload_n 0, 1) := by decide +kernel
theorem dX6_undo_63 : decode cX6_undo 63 = .ok (.getfield 49, 3) := by decide +kernel
theorem dX6_undo_66 : decode cX6_undo 66 = .ok (.ireturn, 1) := by decide +kernel
set_option maxRecDepth 100000 in
theorem ggX6_ofDiesel_X6_power : GoodIn wsX6_ofDiesel wsX6_power := goodIn_r _ [5, 6, 7, 8, 9, 4, 10, 11, 12, 13, 14, 15, 16, 17, 18, 19, 20, 21, 22, 23, 24, 25, 26, 27, 28, 29, 30, 31, 32, 33, 34, 35, 36, 37, 38, 39, 40, 41, 42, 43, 44, 55, 56, 57, 58, 59, 60, 61, 62, 63, 64, 65, 66, 67, 68, 69, 70, 71] rfl (by decide +kernel)
set_option maxRecDepth 100000 in
theorem gX6_ofDiesel_X6_power : GoodIn wsX6_ofDiesel (wsV RX6 193 RX6 yX6_power wsX6_power) := goodIn_app (goodIn_r _ [1, 2, 3, 4] rfl (by decide +kernel)) ggX6_ofDiesel_X6_power
set_option maxRecDepth 100000 in
theorem ggX6_ofDiesel_X6_of : GoodIn wsX6_ofDiesel wsX6_of := goodIn_r _ [27, 28, 55, 56, 57, 58, 59, 60, 61, 62, 63, 64, 65, 66, 67, 68, 69, 70, 71] rfl (by decide +kernel)
set_option maxRecDepth 100000 in
theorem gX6_ofDiesel_X6_of : GoodIn wsX6_ofDiesel (wsV RX6 52 RX6 yX6_of wsX6_of) := goodIn_app (goodIn_r _ [24, 25, 26, 4] rfl (by decide +kernel)) ggX6_ofDiesel_X6_of
set_option maxRecDepth 100000 in
theorem ggX6_ofDiesel_X6_lamps : GoodIn wsX6_ofDiesel wsX6_lamps := goodIn_r _ [47] rfl (by decide +kernel)
set_option maxRecDepth 100000 in
theorem gX6_ofDiesel_X6_lamps : GoodIn wsX6_ofDiesel (va_wsS RX6 89 yX6_lamps wsX6_lamps) := goodIn_app (goodIn_r _ [45, 46, 4] rfl (by decide +kernel)) ggX6_ofDiesel_X6_lamps
set_option maxRecDepth 100000 in
theorem ggX6_ofDiesel_X6_reason : GoodIn wsX6_ofDiesel wsX6_reason := goodIn_r _ [51, 28, 24, 25, 26, 4, 27, 16, 17, 18, 19, 20, 21, 22, 23, 12, 13, 14, 15, 29, 30, 31, 32, 33, 34, 35, 36, 37, 38, 39, 40, 41, 42, 43, 44, 52, 53, 54, 45, 46, 47, 55, 56, 57, 58, 59, 60, 61, 62, 63, 64, 65, 66, 67, 68, 69, 70, 71] rfl (by decide +kernel)
set_option maxRecDepth 100000 in
theorem gX6_ofDiesel_X6_reason : GoodIn wsX6_ofDiesel (wsV RX6 134 RX6 yX6_reason wsX6_reason) := goodIn_app (goodIn_r _ [48, 49, 50, 4] rfl (by decide +kernel)) ggX6_ofDiesel_X6_reason
theorem dX6_ofDiesel_0 : decode cX6_ofDiesel 0 = .ok (.iload_n 2, 1) := by decide +kernel
theorem dX6_ofDiesel_1 : decode cX6_ofDiesel 1 = .ok (.tableswitch 108 5 12 #[47, 53, 60, 70, 78, 86, 94, 102], 47) := by decide +kernel
theorem dX6_ofDiesel_48 : decode cX6_ofDiesel 48 = .ok (.aload_n 0, 1) := by decide +kernel
theorem dX6_ofDiesel_49 : decode cX6_ofDiesel 49 = .ok (.iload_n 1, 1) := by decide +kernel
theorem dX6_ofDiesel_50 : decode cX6_ofDiesel 50 = .ok (.invokevirtual 193, 3) := by decide +kernel
theorem dX6_ofDiesel_53 : decode cX6_ofDiesel 53 = .ok (.ireturn, 1) := by decide +kernel
theorem dX6_ofDiesel_54 : decode cX6_ofDiesel 54 = .ok (.aload_n 0, 1) := by decide +kernel
theorem dX6_ofDiesel_55 : decode cX6_ofDiesel 55 = .ok (.iload_n 1, 1) := by decide +kernel
theorem dX6_ofDiesel_56 : decode cX6_ofDiesel 56 = .ok (.iconst 5, 1) := by decide +kernel
theorem dX6_ofDiesel_57 : decode cX6_ofDiesel 57 = .ok (.invokevirtual 52, 3) := by decide +kernel
theorem dX6_ofDiesel_60 : decode cX6_ofDiesel 60 = .ok (.ireturn, 1) := by decide +kernel
theorem dX6_ofDiesel_61 : decode cX6_ofDiesel 61 = .ok (.aload_n 0, 1) := by decide +kernel
theorem dX6_ofDiesel_62 : decode cX6_ofDiesel 62 = .ok (.iload_n 1, 1) := by decide +kernel
theorem dX6_ofDiesel_63 : decode cX6_ofDiesel 63 = .ok (.iconst 5, 1) := by decide +kernel
theorem dX6_ofDiesel_64 : decode cX6_ofDiesel 64 = .ok (.invokevirtual 52, 3) := by decide +kernel
theorem dX6_ofDiesel_67 : decode cX6_ofDiesel 67 = .ok (.invokestatic 89, 3) := by decide +kernel
theorem dX6_ofDiesel_70 : decode cX6_ofDiesel 70 = .ok (.ireturn, 1) := by decide +kernel
theorem dX6_ofDiesel_71 : decode cX6_ofDiesel 71 = .ok (.aload_n 0, 1) := by decide +kernel
theorem dX6_ofDiesel_72 : decode cX6_ofDiesel 72 = .ok (.iload_n 1, 1) := by decide +kernel
theorem dX6_ofDiesel_73 : decode cX6_ofDiesel 73 = .ok (.bipush 6, 2) := by decide +kernel
theorem dX6_ofDiesel_75 : decode cX6_ofDiesel 75 = .ok (.invokevirtual 52, 3) := by decide +kernel
theorem dX6_ofDiesel_78 : decode cX6_ofDiesel 78 = .ok (.ireturn, 1) := by decide +kernel
theorem dX6_ofDiesel_79 : decode cX6_ofDiesel 79 = .ok (.aload_n 0, 1) := by decide +kernel
theorem dX6_ofDiesel_80 : decode cX6_ofDiesel 80 = .ok (.iload_n 1, 1) := by decide +kernel
theorem dX6_ofDiesel_81 : decode cX6_ofDiesel 81 = .ok (.bipush 7, 2) := by decide +kernel
theorem dX6_ofDiesel_83 : decode cX6_ofDiesel 83 = .ok (.invokevirtual 52, 3) := by decide +kernel
theorem dX6_ofDiesel_86 : decode cX6_ofDiesel 86 = .ok (.ireturn, 1) := by decide +kernel
theorem dX6_ofDiesel_87 : decode cX6_ofDiesel 87 = .ok (.aload_n 0, 1) := by decide +kernel
theorem dX6_ofDiesel_88 : decode cX6_ofDiesel 88 = .ok (.iload_n 1, 1) := by decide +kernel
theorem dX6_ofDiesel_89 : decode cX6_ofDiesel 89 = .ok (.bipush 8, 2) := by decide +kernel
theorem dX6_ofDiesel_91 : decode cX6_ofDiesel 91 = .ok (.invokevirtual 52, 3) := by decide +kernel
theorem dX6_ofDiesel_94 : decode cX6_ofDiesel 94 = .ok (.ireturn, 1) := by decide +kernel
theorem dX6_ofDiesel_95 : decode cX6_ofDiesel 95 = .ok (.aload_n 0, 1) := by decide +kernel
theorem dX6_ofDiesel_96 : decode cX6_ofDiesel 96 = .ok (.iload_n 1, 1) := by decide +kernel
theorem dX6_ofDiesel_97 : decode cX6_ofDiesel 97 = .ok (.bipush 9, 2) := by decide +kernel
theorem dX6_ofDiesel_99 : decode cX6_ofDiesel 99 = .ok (.invokevirtual 52, 3) := by decide +kernel
theorem dX6_ofDiesel_102 : decode cX6_ofDiesel 102 = .ok (.ireturn, 1) := by decide +kernel
theorem dX6_ofDiesel_103 : decode cX6_ofDiesel 103 = .ok (.aload_n 0, 1) := by decide +kernel
theorem dX6_ofDiesel_104 : decode cX6_ofDiesel 104 = .ok (.iload_n 1, 1) := by decide +kernel
theorem dX6_ofDiesel_105 : decode cX6_ofDiesel 105 = .ok (.invokevirtual 134, 3) := by decide +kernel
theorem dX6_ofDiesel_108 : decode cX6_ofDiesel 108 = .ok (.ireturn, 1) := by decide +kernel
theorem dX6_ofDiesel_109 : decode cX6_ofDiesel 109 = .ok (.aload_n 0, 1) := by decide +kernel
theorem dX6_ofDiesel_110 : decode cX6_ofDiesel 110 = .ok (.iload_n 1, 1) := by decide +kernel
theorem dX6_ofDiesel_111 : decode cX6_ofDiesel 111 = .ok (.iload_n 2, 1) := by decide +kernel
theorem dX6_ofDiesel_112 : decode cX6_ofDiesel 112 = .ok (.invokevirtual 52, 3) := by decide +kernel
theorem dX6_ofDiesel_115 : decode cX6_ofDiesel 115 = .ok (.ireturn, 1) := by decide +kernel
set_option maxRecDepth 100000 in
theorem ggX6_diesel_X6_isSet : GoodIn wsX6_diesel wsX6_isSet := goodIn_r _ [5, 6, 7, 4, 8] rfl (by decide +kernel)
set_option maxRecDepth 100000 in
theorem gX6_diesel_X6_isSet : GoodIn wsX6_diesel (va_wsS RX6 112 yX6_isSet wsX6_isSet) := goodIn_app (goodIn_r _ [2, 3, 4] rfl (by decide +kernel)) ggX6_diesel_X6_isSet
set_option maxRecDepth 100000 in
theorem ggX6_diesel_X6_fails : GoodIn wsX6_diesel wsX6_fails := goodIn_r _ [12, 1, 70, 71, 72, 73, 74, 75, 76, 77, 78, 79, 80, 81, 82, 83, 84, 85, 86] rfl (by decide +kernel)
set_option maxRecDepth 100000 in
theorem gX6_diesel_X6_fails : GoodIn wsX6_diesel (wsV RX6 116 RX6 yX6_fails wsX6_fails) := goodIn_app (goodIn_r _ [9, 10, 11, 4] rfl (by decide +kernel)) ggX6_diesel_X6_fails
set_option maxRecDepth 100000 in
theorem ggX6_diesel_X6_in : GoodIn wsX6_diesel wsX6_in := goodIn_r _ [8] rfl (by decide +kernel)
set_option maxRecDepth 100000 in
theorem gX6_diesel_X6_in : GoodIn wsX6_diesel (va_wsS RX6 45 yX6_in wsX6_in) := goodIn_app (goodIn_r _ [6, 7, 4] rfl (by decide +kernel)) ggX6_diesel_X6_in
set_option maxRecDepth 100000 in
theorem ggX6_diesel_X6_ofDiesel : GoodIn wsX6_diesel wsX6_ofDiesel := goodIn_r _ [16, 17, 18, 19, 4, 20, 21, 22, 23, 24, 25, 26, 27, 28, 29, 30, 31, 32, 33, 34, 35, 36, 37, 38, 39, 40, 41, 42, 43, 44, 45, 46, 47, 48, 49, 50, 51, 52, 53, 54, 55, 56, 57, 58, 59, 60, 61, 62, 63, 64, 65, 66, 67, 68, 69, 70, 71, 72, 73, 74, 75, 76, 77, 78, 79, 80, 81, 82, 83, 84, 85, 86] rfl (by decide +kernel)
set_option maxRecDepth 100000 in
theorem gX6_diesel_X6_ofDiesel : GoodIn wsX6_diesel (wsV RX6 196 RX6 yX6_ofDiesel wsX6_ofDiesel) := goodIn_app (goodIn_r _ [13, 14, 15, 4] rfl (by decide +kernel)) ggX6_diesel_X6_ofDiesel
theorem dX6_diesel_0 : decode cX6_diesel 0 = .ok (.aload_n 0, 1) := by decide +kernel
theorem dX6_diesel_1 : decode cX6_diesel 1 = .ok (.iconst 0, 1) := by decide +kernel
theorem dX6_diesel_2 : decode cX6_diesel 2 = .ok (.putfield 41, 3) := by decide +kernel
theorem dX6_diesel_5 : decode cX6_diesel 5 = .ok (.iload_n 1, 1) := by decide +kernel
theorem dX6_diesel_6 : decode cX6_diesel 6 = .ok (.invokestatic 112, 3) := by decide +kernel
theorem dX6_diesel_9 : decode cX6_diesel 9 = .ok (.ifCond .ne 9, 3) := by decide +kernel
theorem dX6_diesel_12 : decode cX6_diesel 12 = .ok (.aload_n 0, 1) := by decide +kernel
theorem dX6_diesel_13 : decode cX6_diesel 13 = .ok (.iconst 1, 1) := by decide +kernel
theorem dX6_diesel_14 : decode cX6_diesel 14 = .ok (.invokevirtual 116, 3) := by decide +kernel
theorem dX6_diesel_17 : decode cX6_diesel 17 = .ok (.ireturn, 1) := by decide +kernel
theorem dX6_diesel_18 : decode cX6_diesel 18 = .ok (.iload_n 2, 1) := by decide +kernel
theorem dX6_diesel_19 : decode cX6_diesel 19 = .ok (.iconst 0, 1) := by decide +kernel
theorem dX6_diesel_20 : decode cX6_diesel 20 = .ok (.bipush 12, 2) := by decide +kernel
theorem dX6_diesel_22 : decode cX6_diesel 22 = .ok (.invokestatic 45, 3) := by decide +kernel
theorem dX6_diesel_25 : decode cX6_diesel 25 = .ok (.ifCond .eq 12, 3) := by decide +kernel
theorem dX6_diesel_28 : decode cX6_diesel 28 = .ok (.aload_n 0, 1) := by decide +kernel
theorem dX6_diesel_29 : decode cX6_diesel 29 = .ok (.iload_n 1, 1) := by decide +kernel
theorem dX6_diesel_30 : decode cX6_diesel 30 = .ok (.iload_n 2, 1) := by decide +kernel
theorem dX6_diesel_31 : decode cX6_diesel 31 = .ok (.invokevirtual 196, 3) := by decide +kernel
theorem dX6_diesel_34 : decode cX6_diesel 34 = .ok (.goto 8, 3) := by decide +kernel
theorem dX6_diesel_37 : decode cX6_diesel 37 = .ok (.aload_n 0, 1) := by decide +kernel
theorem dX6_diesel_38 : decode cX6_diesel 38 = .ok (.iconst 2, 1) := by decide +kernel
theorem dX6_diesel_39 : decode cX6_diesel 39 = .ok (.invokevirtual 116, 3) := by decide +kernel
theorem dX6_diesel_42 : decode cX6_diesel 42 = .ok (.ireturn, 1) := by decide +kernel
set_option maxRecDepth 100000 in
theorem ggX6_line_X6_isFeeder : GoodIn wsX6_line wsX6_isFeeder := goodIn_r _ [5, 6, 7, 4, 8] rfl (by decide +kernel)
set_option maxRecDepth 100000 in
theorem gX6_line_X6_isFeeder : GoodIn wsX6_line (va_wsS RX6 140 yX6_isFeeder wsX6_isFeeder) := goodIn_app (goodIn_r _ [2, 3, 4] rfl (by decide +kernel)) ggX6_line_X6_isFeeder
set_option maxRecDepth 100000 in
theorem ggX6_line_X6_fails : GoodIn wsX6_line wsX6_fails := goodIn_r _ [12, 1, 18, 19, 20, 21, 22, 23, 24, 25, 26, 27, 28, 29, 30, 31, 32, 33, 34] rfl (by decide +kernel)
set_option maxRecDepth 100000 in
theorem gX6_line_X6_fails : GoodIn wsX6_line (wsV RX6 116 RX6 yX6_fails wsX6_fails) := goodIn_app (goodIn_r _ [9, 10, 11, 4] rfl (by decide +kernel)) ggX6_line_X6_fails
set_option maxRecDepth 100000 in
theorem ggX6_line_X6_in : GoodIn wsX6_line wsX6_in := goodIn_r _ [8] rfl (by decide +kernel)
set_option maxRecDepth 100000 in
theorem gX6_line_X6_in : GoodIn wsX6_line (va_wsS RX6 45 yX6_in wsX6_in) := goodIn_app (goodIn_r _ [6, 7, 4] rfl (by decide +kernel)) ggX6_line_X6_in
set_option maxRecDepth 100000 in
theorem ggX6_line_X6_ofLine : GoodIn wsX6_line wsX6_ofLine := goodIn_r _ [16, 17, 18, 19, 20, 21, 22, 23, 24, 25, 26, 27, 28, 29, 30, 31, 32, 33, 34] rfl (by decide +kernel)
set_option maxRecDepth 100000 in
theorem gX6_line_X6_ofLine : GoodIn wsX6_line (wsV RX6 64 RX6 yX6_ofLine wsX6_ofLine) := goodIn_app (goodIn_r _ [13, 14, 15, 4] rfl (by decide +kernel)) ggX6_line_X6_ofLine
theorem dX6_line_0 : decode cX6_line 0 = .ok (.aload_n 0, 1) := by decide +kernel
theorem dX6_line_1 : decode cX6_line 1 = .ok (.iconst 0, 1) := by decide +kernel
theorem dX6_line_2 : decode cX6_line 2 = .ok (.putfield 41, 3) := by decide +kernel
theorem dX6_line_5 : decode cX6_line 5 = .ok (.iload_n 1, 1) := by decide +kernel
theorem dX6_line_6 : decode cX6_line 6 = .ok (.invokestatic 140, 3) := by decide +kernel
theorem dX6_line_9 : decode cX6_line 9 = .ok (.ifCond .ne 9, 3) := by decide +kernel
theorem dX6_line_12 : decode cX6_line 12 = .ok (.aload_n 0, 1) := by decide +kernel
theorem dX6_line_13 : decode cX6_line 13 = .ok (.iconst 1, 1) := by decide +kernel
theorem dX6_line_14 : decode cX6_line 14 = .ok (.invokevirtual 116, 3) := by decide +kernel
theorem dX6_line_17 : decode cX6_line 17 = .ok (.ireturn, 1) := by decide +kernel
theorem dX6_line_18 : decode cX6_line 18 = .ok (.iload_n 2, 1) := by decide +kernel
theorem dX6_line_19 : decode cX6_line 19 = .ok (.iconst 0, 1) := by decide +kernel
theorem dX6_line_20 : decode cX6_line 20 = .ok (.iconst 2, 1) := by decide +kernel
theorem dX6_line_21 : decode cX6_line 21 = .ok (.invokestatic 45, 3) := by decide +kernel
theorem dX6_line_24 : decode cX6_line 24 = .ok (.ifCond .eq 12, 3) := by decide +kernel
theorem dX6_line_27 : decode cX6_line 27 = .ok (.aload_n 0, 1) := by decide +kernel
theorem dX6_line_28 : decode cX6_line 28 = .ok (.iload_n 1, 1) := by decide +kernel
theorem dX6_line_29 : decode cX6_line 29 = .ok (.iload_n 2, 1) := by decide +kernel
theorem dX6_line_30 : decode cX6_line 30 = .ok (.invokevirtual 64, 3) := by decide +kernel
theorem dX6_line_33 : decode cX6_line 33 = .ok (.goto 8, 3) := by decide +kernel
theorem dX6_line_36 : decode cX6_line 36 = .ok (.aload_n 0, 1) := by decide +kernel
theorem dX6_line_37 : decode cX6_line 37 = .ok (.iconst 2, 1) := by decide +kernel
theorem dX6_line_38 : decode cX6_line 38 = .ok (.invokevirtual 116, 3) := by decide +kernel
theorem dX6_line_41 : decode cX6_line 41 = .ok (.ireturn, 1) := by decide +kernel
set_option maxRecDepth 100000 in
theorem ggX6_allPowers_X6_find : GoodIn wsX6_allPowers wsX6_find := goodIn_r _ [6, 1, 7, 8, 9, 10, 5, 11, 12, 13, 14, 15, 16, 17, 18, 19, 20, 21, 22, 23, 24, 25, 26, 27, 28, 29, 30, 31, 32, 33, 34, 35, 36, 37, 38, 39, 40, 41, 42, 43, 44, 45, 46, 47, 48, 49, 50, 51, 52, 53, 54, 55, 56, 57] rfl (by decide +kernel)
set_option maxRecDepth 100000 in
theorem gX6_allPowers_X6_find : GoodIn wsX6_allPowers (wsV RX6 83 RX6 yX6_find wsX6_find) := goodIn_app (goodIn_r _ [2, 3, 4, 5] rfl (by decide +kernel)) ggX6_allPowers_X6_find
theorem dX6_allPowers_0 : decode cX6_allPowers 0 = .ok (.aload_n 0, 1) := by decide +kernel
theorem dX6_allPowers_1 : decode cX6_allPowers 1 = .ok (.invokevirtual 83, 3) := by decide +kernel
theorem dX6_allPowers_4 : decode cX6_allPowers 4 = .ok (.aload_n 0, 1) := by decide +kernel
theorem dX6_allPowers_5 : decode cX6_allPowers 5 = .ok (.getfield 22, 3) := by decide +kernel
theorem dX6_allPowers_8 : decode cX6_allPowers 8 = .ok (.iconst 0, 1) := by decide +kernel
theorem dX6_allPowers_9 : decode cX6_allPowers 9 = .ok (.iaload, 1) := by decide +kernel
theorem dX6_allPowers_10 : decode cX6_allPowers 10 = .ok (.aload_n 0, 1) := by decide +kernel
theorem dX6_allPowers_11 : decode cX6_allPowers 11 = .ok (.getfield 22, 3) := by decide +kernel
theorem dX6_allPowers_14 : decode cX6_allPowers 14 = .ok (.iconst 1, 1) := by decide +kernel
theorem dX6_allPowers_15 : decode cX6_allPowers 15 = .ok (.iaload, 1) := by decide +kernel
theorem dX6_allPowers_16 : decode cX6_allPowers 16 = .ok (.iadd, 1) := by decide +kernel
theorem dX6_allPowers_17 : decode cX6_allPowers 17 = .ok (.aload_n 0, 1) := by decide +kernel
theorem dX6_allPowers_18 : decode cX6_allPowers 18 = .ok (.getfield 22, 3) := by decide +kernel
theorem dX6_allPowers_21 : decode cX6_allPowers 21 = .ok (.iconst 2, 1) := by decide +kernel
theorem dX6_allPowers_22 : decode cX6_allPowers 22 = .ok (.iaload, 1) := by decide +kernel
theorem dX6_allPowers_23 : decode cX6_allPowers 23 = .ok (.iadd, 1) := by decide +kernel
theorem dX6_allPowers_24 : decode cX6_allPowers 24 = .ok (.ireturn, 1) := by decide +kernel
set_option maxRecDepth 100000 in
theorem ggX6_lacks_X6_find : GoodIn wsX6_lacks wsX6_find := goodIn_r _ [6, 7, 1, 8, 9, 10, 5, 11, 12, 13, 14, 15, 16, 17, 18, 19, 20, 21, 22, 23, 24, 25, 26, 27, 28, 29, 30, 31, 32, 33, 34, 35, 36, 37, 38, 39, 40, 41, 42, 43, 44, 45, 46, 47, 48, 49, 50, 51, 52, 53, 54, 55, 56, 57] rfl (by decide +kernel)
set_option maxRecDepth 100000 in
theorem gX6_lacks_X6_find : GoodIn wsX6_lacks (wsV RX6 83 RX6 yX6_find wsX6_find) := goodIn_app (goodIn_r _ [2, 3, 4, 5] rfl (by decide +kernel)) ggX6_lacks_X6_find
theorem dX6_lacks_0 : decode cX6_lacks 0 = .ok (.aload_n 0, 1) := by decide +kernel
theorem dX6_lacks_1 : decode cX6_lacks 1 = .ok (.invokevirtual 83, 3) := by decide +kernel
theorem dX6_lacks_4 : decode cX6_lacks 4 = .ok (.aload_n 0, 1) := by decide +kernel
theorem dX6_lacks_5 : decode cX6_lacks 5 = .ok (.getfield 80, 3) := by decide +kernel
theorem dX6_lacks_8 : decode cX6_lacks 8 = .ok (.ireturn, 1) := by decide +kernel
set_option maxRecDepth 100000 in
theorem ggX6_number_X6_frequency : GoodIn wsX6_number wsX6_frequency := goodIn_r _ [7, 8, 9, 10, 6, 11, 12, 13, 14, 15, 16, 17, 18, 19, 1, 20, 21, 22, 23, 24, 25, 26, 27, 28, 29, 30, 31, 32, 33, 34, 35, 50, 51, 52, 53, 54, 55, 56, 57, 58, 59, 60, 61, 62, 63, 64, 65, 66] rfl (by decide +kernel)
set_option maxRecDepth 100000 in
theorem gX6_number_X6_frequency : GoodIn wsX6_number (wsV RX6 77 RX6 yX6_frequency wsX6_frequency) := goodIn_app (goodIn_r _ [3, 4, 5, 6] rfl (by decide +kernel)) ggX6_number_X6_frequency
set_option maxRecDepth 100000 in
theorem ggX6_number_X6_load : GoodIn wsX6_number wsX6_load := goodIn_r _ [23, 8, 9, 10, 6, 11, 12, 13, 14, 15, 16, 17, 18, 19, 1, 24, 25, 26, 27, 50, 51, 52, 53, 54, 55, 56, 57, 58, 59, 60, 61, 62, 63, 64, 65, 66] rfl (by decide +kernel)
set_option maxRecDepth 100000 in
theorem gX6_number_X6_load : GoodIn wsX6_number (wsV RX6 70 RX6 yX6_load wsX6_load) := goodIn_app (goodIn_r _ [20, 21, 22, 6] rfl (by decide +kernel)) ggX6_number_X6_load
set_option maxRecDepth 100000 in
theorem ggX6_number_X6_allPowers : GoodIn wsX6_number wsX6_allPowers := goodIn_r _ [39, 40, 41, 42, 43, 6, 44, 45, 3, 4, 5, 7, 8, 9, 10, 11, 12, 13, 14, 15, 16, 17, 18, 19, 1, 20, 21, 22, 23, 24, 25, 26, 27, 28, 29, 30, 31, 32, 33, 34, 35, 50, 51, 52, 53, 54, 55, 56, 57, 58, 59, 60, 61, 62, 63, 64, 65, 66] rfl (by decide +kernel)
set_option maxRecDepth 100000 in
theorem gX6_number_X6_allPowers : GoodIn wsX6_number (wsV RX6 199 RX6 yX6_allPowers wsX6_allPowers) := goodIn_app (goodIn_r _ [36, 37, 38, 6] rfl (by decide +kernel)) ggX6_number_X6_allPowers
set_option maxRecDepth 100000 in
theorem ggX6_number_X6_lacks : GoodIn wsX6_number wsX6_lacks := goodIn_r _ [49, 45, 41, 42, 43, 6, 44, 40, 3, 4, 5, 7, 8, 9, 10, 11, 12, 13, 14, 15, 16, 17, 18, 19, 1, 20, 21, 22, 23, 24, 25, 26, 27, 28, 29, 30, 31, 32, 33, 34, 35, 50, 51, 52, 53, 54, 55, 56, 57, 58, 59, 60, 61, 62, 63, 64, 65, 66] rfl (by decide +kernel)
set_option maxRecDepth 100000 in
theorem gX6_number_X6_lacks : GoodIn wsX6_number (wsV RX6 202 RX6 yX6_lacks wsX6_lacks) := goodIn_app (goodIn_r _ [46, 47, 48, 6] rfl (by decide +kernel)) ggX6_number_X6_lacks
set_option maxRecDepth 100000 in
theorem ggX6_number_X6_sum : GoodIn wsX6_number wsX6_sum := goodIn_r _ [15, 16, 17, 18, 6, 19, 1, 50, 51, 52, 53, 54, 55, 56, 57, 58, 59, 60, 61, 62, 63, 64, 65, 66] rfl (by decide +kernel)
set_option maxRecDepth 100000 in
theorem gX6_number_X6_sum : GoodIn wsX6_number (wsV RX6 56 RX6 yX6_sum wsX6_sum) := goodIn_app (goodIn_r _ [12, 13, 14, 6] rfl (by decide +kernel)) ggX6_number_X6_sum
theorem dX6_number_0 : decode cX6_number 0 = .ok (.iload_n 1, 1) := by decide +kernel
theorem dX6_number_1 : decode cX6_number 1 = .ok (.tableswitch 121 0 10 #[59, 66, 66, 71, 76, 81, 86, 92, 98, 105, 113], 59) := by decide +kernel
theorem dX6_number_60 : decode cX6_number 60 = .ok (.aload_n 0, 1) := by decide +kernel
theorem dX6_number_61 : decode cX6_number 61 = .ok (.getfield 7, 3) := by decide +kernel
theorem dX6_number_64 : decode cX6_number 64 = .ok (.iconst 4, 1) := by decide +kernel
theorem dX6_number_65 : decode cX6_number 65 = .ok (.iaload, 1) := by decide +kernel
theorem dX6_number_66 : decode cX6_number 66 = .ok (.ireturn, 1) := by decide +kernel
theorem dX6_number_67 : decode cX6_number 67 = .ok (.aload_n 0, 1) := by decide +kernel
theorem dX6_number_68 : decode cX6_number 68 = .ok (.invokevirtual 77, 3) := by decide +kernel
theorem dX6_number_71 : decode cX6_number 71 = .ok (.ireturn, 1) := by decide +kernel
theorem dX6_number_72 : decode cX6_number 72 = .ok (.aload_n 0, 1) := by decide +kernel
theorem dX6_number_73 : decode cX6_number 73 = .ok (.invokevirtual 70, 3) := by decide +kernel
theorem dX6_number_76 : decode cX6_number 76 = .ok (.ireturn, 1) := by decide +kernel
theorem dX6_number_77 : decode cX6_number 77 = .ok (.aload_n 0, 1) := by decide +kernel
theorem dX6_number_78 : decode cX6_number 78 = .ok (.invokevirtual 199, 3) := by decide +kernel
theorem dX6_number_81 : decode cX6_number 81 = .ok (.ireturn, 1) := by decide +kernel
theorem dX6_number_82 : decode cX6_number 82 = .ok (.aload_n 0, 1) := by decide +kernel
theorem dX6_number_83 : decode cX6_number 83 = .ok (.invokevirtual 202, 3) := by decide +kernel
theorem dX6_number_86 : decode cX6_number 86 = .ok (.ireturn, 1) := by decide +kernel
theorem dX6_number_87 : decode cX6_number 87 = .ok (.aload_n 0, 1) := by decide +kernel
theorem dX6_number_88 : decode cX6_number 88 = .ok (.iconst 3, 1) := by decide +kernel
theorem dX6_number_89 : decode cX6_number 89 = .ok (.invokevirtual 56, 3) := by decide +kernel
theorem dX6_number_92 : decode cX6_number 92 = .ok (.ireturn, 1) := by decide +kernel
theorem dX6_number_93 : decode cX6_number 93 = .ok (.aload_n 0, 1) := by decide +kernel
theorem dX6_number_94 : decode cX6_number 94 = .ok (.iconst 4, 1) := by decide +kernel
theorem dX6_number_95 : decode cX6_number 95 = .ok (.invokevirtual 56, 3) := by decide +kernel
theorem dX6_number_98 : decode cX6_number 98 = .ok (.ireturn, 1) := by decide +kernel
theorem dX6_number_99 : decode cX6_number 99 = .ok (.aload_n 0, 1) := by decide +kernel
theorem dX6_number_100 : decode cX6_number 100 = .ok (.getfield 7, 3) := by decide +kernel
theorem dX6_number_103 : decode cX6_number 103 = .ok (.iconst 5, 1) := by decide +kernel
theorem dX6_number_104 : decode cX6_number 104 = .ok (.iaload, 1) := by decide +kernel
theorem dX6_number_105 : decode cX6_number 105 = .ok (.ireturn, 1) := by decide +kernel
theorem dX6_number_106 : decode cX6_number 106 = .ok (.aload_n 0, 1) := by decide +kernel
theorem dX6_number_107 : decode cX6_number 107 = .ok (.getfield 7, 3) := by decide +kernel
theorem dX6_number_110 : decode cX6_number 110 = .ok (.bipush 6, 2) := by decide +kernel
theorem dX6_number_112 : decode cX6_number 112 = .ok (.iaload, 1) := by decide +kernel
theorem dX6_number_113 : decode cX6_number 113 = .ok (.ireturn, 1) := by decide +kernel
theorem dX6_number_114 : decode cX6_number 114 = .ok (.aload_n 0, 1) := by decide +kernel
theorem dX6_number_115 : decode cX6_number 115 = .ok (.getfield 7, 3) := by decide +kernel
theorem dX6_number_118 : decode cX6_number 118 = .ok (.bipush 7, 2) := by decide +kernel
theorem dX6_number_120 : decode cX6_number 120 = .ok (.iaload, 1) := by decide +kernel
theorem dX6_number_121 : decode cX6_number 121 = .ok (.ireturn, 1) := by decide +kernel
theorem dX6_number_122 : decode cX6_number 122 = .ok (.aload_n 0, 1) := by decide +kernel
theorem dX6_number_123 : decode cX6_number 123 = .ok (.getfield 49, 3) := by decide +kernel
theorem dX6_number_126 : decode cX6_number 126 = .ok (.ireturn, 1) := by decide +kernel
set_option maxRecDepth 100000 in
theorem ggX6_count_X6_in : GoodIn wsX6_count wsX6_in := goodIn_r _ [5] rfl (by decide +kernel)
set_option maxRecDepth 100000 in
theorem gX6_count_X6_in : GoodIn wsX6_count (va_wsS RX6 45 yX6_in wsX6_in) := goodIn_app (goodIn_r _ [2, 3, 4] rfl (by decide +kernel)) ggX6_count_X6_in
set_option maxRecDepth 100000 in
theorem ggX6_count_X6_number : GoodIn wsX6_count wsX6_number := goodIn_r _ [9, 10, 11, 12, 13, 14, 4, 15, 16, 17, 18, 19, 20, 21, 22, 23, 24, 25, 26, 27, 28, 29, 30, 31, 32, 33, 34, 35, 36, 37, 38, 39, 40, 41, 42, 43, 44, 45, 46, 47, 48, 49, 50, 51, 52, 53, 54, 55, 56, 57, 62, 63, 64, 65, 66, 67, 68, 69, 70, 71, 72, 73, 74, 75, 76, 77, 78] rfl (by decide +kernel)
set_option maxRecDepth 100000 in
theorem gX6_count_X6_number : GoodIn wsX6_count (wsV RX6 205 RX6 yX6_number wsX6_number) := goodIn_app (goodIn_r _ [6, 7, 8, 4] rfl (by decide +kernel)) ggX6_count_X6_number
set_option maxRecDepth 100000 in
theorem ggX6_count_X6_fails : GoodIn wsX6_count wsX6_fails := goodIn_r _ [61, 1, 62, 63, 64, 65, 66, 67, 68, 69, 70, 71, 72, 73, 74, 75, 76, 77, 78] rfl (by decide +kernel)
set_option maxRecDepth 100000 in
theorem gX6_count_X6_fails : GoodIn wsX6_count (wsV RX6 116 RX6 yX6_fails wsX6_fails) := goodIn_app (goodIn_r _ [58, 59, 60, 4] rfl (by decide +kernel)) ggX6_count_X6_fails
theorem dX6_count_0 : decode cX6_count 0 = .ok (.aload_n 0, 1) := by decide +kernel
theorem dX6_count_1 : decode cX6_count 1 = .ok (.iconst 0, 1) := by decide +kernel
theorem dX6_count_2 : decode cX6_count 2 = .ok (.putfield 41, 3) := by decide +kernel
theorem dX6_count_5 : decode cX6_count 5 = .ok (.iload_n 1, 1) := by decide +kernel
theorem dX6_count_6 : decode cX6_count 6 = .ok (.iconst 0, 1) := by decide +kernel
theorem dX6_count_7 : decode cX6_count 7 = .ok (.bipush 11, 2) := by decide +kernel
theorem dX6_count_9 : decode cX6_count 9 = .ok (.invokestatic 45, 3) := by decide +kernel
theorem dX6_count_12 : decode cX6_count 12 = .ok (.ifCond .eq 11, 3) := by decide +kernel
theorem dX6_count_15 : decode cX6_count 15 = .ok (.aload_n 0, 1) := by decide +kernel
theorem dX6_count_16 : decode cX6_count 16 = .ok (.iload_n 1, 1) := by decide +kernel
theorem dX6_count_17 : decode cX6_count 17 = .ok (.invokevirtual 205, 3) := by decide +kernel
theorem dX6_count_20 : decode cX6_count 20 = .ok (.goto 8, 3) := by decide +kernel
theorem dX6_count_23 : decode cX6_count 23 = .ok (.aload_n 0, 1) := by decide +kernel
theorem dX6_count_24 : decode cX6_count 24 = .ok (.iconst 1, 1) := by decide +kernel
theorem dX6_count_25 : decode cX6_count 25 = .ok (.invokevirtual 116, 3) := by decide +kernel
theorem dX6_count_28 : decode cX6_count 28 = .ok (.ireturn, 1) := by decide +kernel
set_option maxRecDepth 100000 in
theorem ggX6_setting_X6_in : GoodIn wsX6_setting wsX6_in := goodIn_r _ [6] rfl (by decide +kernel)
set_option maxRecDepth 100000 in
theorem gX6_setting_X6_in : GoodIn wsX6_setting (va_wsS RX6 45 yX6_in wsX6_in) := goodIn_app (goodIn_r _ [3, 4, 5] rfl (by decide +kernel)) ggX6_setting_X6_in
set_option maxRecDepth 100000 in
theorem ggX6_setting_X6_fails : GoodIn wsX6_setting wsX6_fails := goodIn_r _ [10, 1, 11, 12, 13, 14, 15, 16, 17, 18, 19, 20, 21, 22, 23, 24, 25, 26, 27] rfl (by decide +kernel)
set_option maxRecDepth 100000 in
theorem gX6_setting_X6_fails : GoodIn wsX6_setting (wsV RX6 116 RX6 yX6_fails wsX6_fails) := goodIn_app (goodIn_r _ [7, 8, 9, 5] rfl (by decide +kernel)) ggX6_setting_X6_fails
theorem dX6_setting_0 : decode cX6_setting 0 = .ok (.aload_n 0, 1) := by decide +kernel
theorem dX6_setting_1 : decode cX6_setting 1 = .ok (.iconst 0, 1) := by decide +kernel
theorem dX6_setting_2 : decode cX6_setting 2 = .ok (.putfield 41, 3) := by decide +kernel
theorem dX6_setting_5 : decode cX6_setting 5 = .ok (.iload_n 1, 1) := by decide +kernel
theorem dX6_setting_6 : decode cX6_setting 6 = .ok (.iconst 0, 1) := by decide +kernel
theorem dX6_setting_7 : decode cX6_setting 7 = .ok (.iconst 3, 1) := by decide +kernel
theorem dX6_setting_8 : decode cX6_setting 8 = .ok (.invokestatic 45, 3) := by decide +kernel
theorem dX6_setting_11 : decode cX6_setting 11 = .ok (.ifCond .eq 12, 3) := by decide +kernel
theorem dX6_setting_14 : decode cX6_setting 14 = .ok (.aload_n 0, 1) := by decide +kernel
theorem dX6_setting_15 : decode cX6_setting 15 = .ok (.getfield 7, 3) := by decide +kernel
theorem dX6_setting_18 : decode cX6_setting 18 = .ok (.iload_n 1, 1) := by decide +kernel
theorem dX6_setting_19 : decode cX6_setting 19 = .ok (.iaload, 1) := by decide +kernel
theorem dX6_setting_20 : decode cX6_setting 20 = .ok (.goto 8, 3) := by decide +kernel
theorem dX6_setting_23 : decode cX6_setting 23 = .ok (.aload_n 0, 1) := by decide +kernel
theorem dX6_setting_24 : decode cX6_setting 24 = .ok (.iconst 1, 1) := by decide +kernel
theorem dX6_setting_25 : decode cX6_setting 25 = .ok (.invokevirtual 116, 3) := by decide +kernel
theorem dX6_setting_28 : decode cX6_setting 28 = .ok (.ireturn, 1) := by decide +kernel
set_option maxRecDepth 100000 in
theorem ggX6_withSpeed_X6_speedNow : GoodIn wsX6_withSpeed wsX6_speedNow := goodIn_r _ [5, 6, 7, 8, 4, 9, 10, 11, 12, 13, 14, 57, 58, 59, 60, 61, 62, 63, 64, 65, 66, 67, 68, 69, 70, 71, 72, 73] rfl (by decide +kernel)
set_option maxRecDepth 100000 in
theorem gX6_withSpeed_X6_speedNow : GoodIn wsX6_withSpeed (wsV RX6 122 RX6 yX6_speedNow wsX6_speedNow) := goodIn_app (goodIn_r _ [1, 2, 3, 4] rfl (by decide +kernel)) ggX6_withSpeed_X6_speedNow
set_option maxRecDepth 100000 in
theorem ggX6_withSpeed_X6_frequency : GoodIn wsX6_withSpeed wsX6_frequency := goodIn_r _ [18, 19, 20, 21, 4, 22, 23, 24, 25, 26, 6, 7, 8, 9, 10, 27, 28, 29, 30, 31, 32, 33, 34, 35, 36, 37, 38, 39, 40, 41, 42, 57, 58, 59, 60, 61, 62, 63, 64, 65, 66, 67, 68, 69, 70, 71, 72, 73] rfl (by decide +kernel)
set_option maxRecDepth 100000 in
theorem gX6_withSpeed_X6_frequency : GoodIn wsX6_withSpeed (wsV RX6 77 RX6 yX6_frequency wsX6_frequency) := goodIn_app (goodIn_r _ [15, 16, 17, 4] rfl (by decide +kernel)) ggX6_withSpeed_X6_frequency
set_option maxRecDepth 100000 in
theorem ggX6_withSpeed_X6_power : GoodIn wsX6_withSpeed wsX6_power := goodIn_r _ [46, 47, 48, 49, 50, 4, 51, 52, 15, 16, 17, 18, 19, 20, 21, 22, 23, 24, 25, 26, 6, 7, 8, 9, 10, 27, 28, 29, 30, 31, 32, 33, 34, 35, 36, 37, 38, 39, 40, 41, 42, 57, 58, 59, 60, 61, 62, 63, 64, 65, 66, 67, 68, 69, 70, 71, 72, 73] rfl (by decide +kernel)
set_option maxRecDepth 100000 in
theorem gX6_withSpeed_X6_power : GoodIn wsX6_withSpeed (wsV RX6 193 RX6 yX6_power wsX6_power) := goodIn_app (goodIn_r _ [43, 44, 45, 4] rfl (by decide +kernel)) ggX6_withSpeed_X6_power
set_option maxRecDepth 100000 in
theorem ggX6_withSpeed_X6_lacks : GoodIn wsX6_withSpeed wsX6_lacks := goodIn_r _ [56, 52, 48, 49, 50, 4, 51, 47, 15, 16, 17, 18, 19, 20, 21, 22, 23, 24, 25, 26, 6, 7, 8, 9, 10, 27, 28, 29, 30, 31, 32, 33, 34, 35, 36, 37, 38, 39, 40, 41, 42, 57, 58, 59, 60, 61, 62, 63, 64, 65, 66, 67, 68, 69, 70, 71, 72, 73] rfl (by decide +kernel)
set_option maxRecDepth 100000 in
theorem gX6_withSpeed_X6_lacks : GoodIn wsX6_withSpeed (wsV RX6 202 RX6 yX6_lacks wsX6_lacks) := goodIn_app (goodIn_r _ [53, 54, 55, 4] rfl (by decide +kernel)) ggX6_withSpeed_X6_lacks
set_option maxRecDepth 100000 in
theorem ggX6_withSpeed_X6_put : GoodIn wsX6_withSpeed wsX6_put := goodIn_r _ [14, 10, 57, 58, 59, 60, 61, 62, 63, 64, 65, 66, 67, 68, 69, 70, 71, 72, 73] rfl (by decide +kernel)
set_option maxRecDepth 100000 in
theorem gX6_withSpeed_X6_put : GoodIn wsX6_withSpeed (wsV RX6 37 RX6 yX6_put wsX6_put) := goodIn_app (goodIn_r _ [11, 12, 13, 4] rfl (by decide +kernel)) ggX6_withSpeed_X6_put
theorem dX6_withSpeed_0 : decode cX6_withSpeed 0 = .ok (.aload_n 0, 1) := by decide +kernel
theorem dX6_withSpeed_1 : decode cX6_withSpeed 1 = .ok (.iload_n 1, 1) := by decide +kernel
theorem dX6_withSpeed_2 : decode cX6_withSpeed 2 = .ok (.iload_n 2, 1) := by decide +kernel
theorem dX6_withSpeed_3 : decode cX6_withSpeed 3 = .ok (.invokevirtual 122, 3) := by decide +kernel
theorem dX6_withSpeed_6 : decode cX6_withSpeed 6 = .ok (.istore 4, 2) := by decide +kernel
theorem dX6_withSpeed_8 : decode cX6_withSpeed 8 = .ok (.iload_n 3, 1) := by decide +kernel
theorem dX6_withSpeed_9 : decode cX6_withSpeed 9 = .ok (.ifCond .ne 10, 3) := by decide +kernel
theorem dX6_withSpeed_12 : decode cX6_withSpeed 12 = .ok (.aload_n 0, 1) := by decide +kernel
theorem dX6_withSpeed_13 : decode cX6_withSpeed 13 = .ok (.invokevirtual 77, 3) := by decide +kernel
theorem dX6_withSpeed_16 : decode cX6_withSpeed 16 = .ok (.goto 20, 3) := by decide +kernel
theorem dX6_withSpeed_19 : decode cX6_withSpeed 19 = .ok (.iload_n 3, 1) := by decide +kernel
theorem dX6_withSpeed_20 : decode cX6_withSpeed 20 = .ok (.iconst 1, 1) := by decide +kernel
theorem dX6_withSpeed_21 : decode cX6_withSpeed 21 = .ok (.if_icmp .ne 11, 3) := by decide +kernel
theorem dX6_withSpeed_24 : decode cX6_withSpeed 24 = .ok (.aload_n 0, 1) := by decide +kernel
theorem dX6_withSpeed_25 : decode cX6_withSpeed 25 = .ok (.iload_n 1, 1) := by decide +kernel
theorem dX6_withSpeed_26 : decode cX6_withSpeed 26 = .ok (.invokevirtual 193, 3) := by decide +kernel
theorem dX6_withSpeed_29 : decode cX6_withSpeed 29 = .ok (.goto 7, 3) := by decide +kernel
theorem dX6_withSpeed_32 : decode cX6_withSpeed 32 = .ok (.aload_n 0, 1) := by decide +kernel
theorem dX6_withSpeed_33 : decode cX6_withSpeed 33 = .ok (.invokevirtual 202, 3) := by decide +kernel
theorem dX6_withSpeed_36 : decode cX6_withSpeed 36 = .ok (.istore 5, 2) := by decide +kernel
theorem dX6_withSpeed_38 : decode cX6_withSpeed 38 = .ok (.aload_n 0, 1) := by decide +kernel
theorem dX6_withSpeed_39 : decode cX6_withSpeed 39 = .ok (.iload_n 1, 1) := by decide +kernel
theorem dX6_withSpeed_40 : decode cX6_withSpeed 40 = .ok (.iconst 2, 1) := by decide +kernel
theorem dX6_withSpeed_41 : decode cX6_withSpeed 41 = .ok (.iload 4, 2) := by decide +kernel
theorem dX6_withSpeed_43 : decode cX6_withSpeed 43 = .ok (.invokevirtual 37, 3) := by decide +kernel
theorem dX6_withSpeed_46 : decode cX6_withSpeed 46 = .ok (.iload 5, 2) := by decide +kernel
theorem dX6_withSpeed_48 : decode cX6_withSpeed 48 = .ok (.ireturn, 1) := by decide +kernel
set_option maxRecDepth 100000 in
theorem ggX6_ifSpeed_X6_isSet : GoodIn wsX6_ifSpeed wsX6_isSet := goodIn_r _ [5, 6, 7, 4, 8] rfl (by decide +kernel)
set_option maxRecDepth 100000 in
theorem gX6_ifSpeed_X6_isSet : GoodIn wsX6_ifSpeed (va_wsS RX6 112 yX6_isSet wsX6_isSet) := goodIn_app (goodIn_r _ [2, 3, 4] rfl (by decide +kernel)) ggX6_ifSpeed_X6_isSet
set_option maxRecDepth 100000 in
theorem ggX6_ifSpeed_X6_fails : GoodIn wsX6_ifSpeed wsX6_fails := goodIn_r _ [12, 1, 72, 73, 74, 75, 76, 77, 78, 79, 80, 81, 82, 83, 84, 85, 86, 87, 88] rfl (by decide +kernel)
set_option maxRecDepth 100000 in
theorem gX6_ifSpeed_X6_fails : GoodIn wsX6_ifSpeed (wsV RX6 116 RX6 yX6_fails wsX6_fails) := goodIn_app (goodIn_r _ [9, 10, 11, 4] rfl (by decide +kernel)) ggX6_ifSpeed_X6_fails
set_option maxRecDepth 100000 in
theorem ggX6_ifSpeed_X6_in : GoodIn wsX6_ifSpeed wsX6_in := goodIn_r _ [8] rfl (by decide +kernel)
set_option maxRecDepth 100000 in
theorem gX6_ifSpeed_X6_in : GoodIn wsX6_ifSpeed (va_wsS RX6 45 yX6_in wsX6_in) := goodIn_app (goodIn_r _ [6, 7, 4] rfl (by decide +kernel)) ggX6_ifSpeed_X6_in
set_option maxRecDepth 100000 in
theorem ggX6_ifSpeed_X6_withSpeed : GoodIn wsX6_ifSpeed wsX6_withSpeed := goodIn_r _ [16, 17, 18, 19, 4, 20, 21, 22, 23, 24, 25, 26, 27, 28, 29, 30, 31, 32, 33, 34, 35, 36, 37, 38, 39, 40, 41, 42, 43, 44, 45, 46, 47, 48, 49, 50, 51, 52, 53, 54, 55, 56, 57, 58, 59, 60, 61, 62, 63, 64, 65, 66, 67, 68, 69, 70, 71, 72, 73, 74, 75, 76, 77, 78, 79, 80, 81, 82, 83, 84, 85, 86, 87, 88] rfl (by decide +kernel)
set_option maxRecDepth 100000 in
theorem gX6_ifSpeed_X6_withSpeed : GoodIn wsX6_ifSpeed (wsV RX6 208 RX6 yX6_withSpeed wsX6_withSpeed) := goodIn_app (goodIn_r _ [13, 14, 15, 4] rfl (by decide +kernel)) ggX6_ifSpeed_X6_withSpeed
theorem dX6_ifSpeed_0 : decode cX6_ifSpeed 0 = .ok (.aload_n 0, 1) := by decide +kernel
theorem dX6_ifSpeed_1 : decode cX6_ifSpeed 1 = .ok (.iconst 0, 1) := by decide +kernel
theorem dX6_ifSpeed_2 : decode cX6_ifSpeed 2 = .ok (.putfield 41, 3) := by decide +kernel
theorem dX6_ifSpeed_5 : decode cX6_ifSpeed 5 = .ok (.iload_n 1, 1) := by decide +kernel
theorem dX6_ifSpeed_6 : decode cX6_ifSpeed 6 = .ok (.invokestatic 112, 3) := by decide +kernel
theorem dX6_ifSpeed_9 : decode cX6_ifSpeed 9 = .ok (.ifCond .ne 9, 3) := by decide +kernel
theorem dX6_ifSpeed_12 : decode cX6_ifSpeed 12 = .ok (.aload_n 0, 1) := by decide +kernel
theorem dX6_ifSpeed_13 : decode cX6_ifSpeed 13 = .ok (.iconst 1, 1) := by decide +kernel
theorem dX6_ifSpeed_14 : decode cX6_ifSpeed 14 = .ok (.invokevirtual 116, 3) := by decide +kernel
theorem dX6_ifSpeed_17 : decode cX6_ifSpeed 17 = .ok (.ireturn, 1) := by decide +kernel
theorem dX6_ifSpeed_18 : decode cX6_ifSpeed 18 = .ok (.iload_n 2, 1) := by decide +kernel
theorem dX6_ifSpeed_19 : decode cX6_ifSpeed 19 = .ok (.sipush 4700, 3) := by decide +kernel
theorem dX6_ifSpeed_22 : decode cX6_ifSpeed 22 = .ok (.sipush 5300, 3) := by decide +kernel
theorem dX6_ifSpeed_25 : decode cX6_ifSpeed 25 = .ok (.invokestatic 45, 3) := by decide +kernel
theorem dX6_ifSpeed_28 : decode cX6_ifSpeed 28 = .ok (.ifCond .eq 22, 3) := by decide +kernel
theorem dX6_ifSpeed_31 : decode cX6_ifSpeed 31 = .ok (.iload_n 3, 1) := by decide +kernel
theorem dX6_ifSpeed_32 : decode cX6_ifSpeed 32 = .ok (.iconst 0, 1) := by decide +kernel
theorem dX6_ifSpeed_33 : decode cX6_ifSpeed 33 = .ok (.iconst 2, 1) := by decide +kernel
theorem dX6_ifSpeed_34 : decode cX6_ifSpeed 34 = .ok (.invokestatic 45, 3) := by decide +kernel
theorem dX6_ifSpeed_37 : decode cX6_ifSpeed 37 = .ok (.ifCond .eq 13, 3) := by decide +kernel
theorem dX6_ifSpeed_40 : decode cX6_ifSpeed 40 = .ok (.aload_n 0, 1) := by decide +kernel
theorem dX6_ifSpeed_41 : decode cX6_ifSpeed 41 = .ok (.iload_n 1, 1) := by decide +kernel
theorem dX6_ifSpeed_42 : decode cX6_ifSpeed 42 = .ok (.iload_n 2, 1) := by decide +kernel
theorem dX6_ifSpeed_43 : decode cX6_ifSpeed 43 = .ok (.iload_n 3, 1) := by decide +kernel
theorem dX6_ifSpeed_44 : decode cX6_ifSpeed 44 = .ok (.invokevirtual 208, 3) := by decide +kernel
theorem dX6_ifSpeed_47 : decode cX6_ifSpeed 47 = .ok (.goto 8, 3) := by decide +kernel
theorem dX6_ifSpeed_50 : decode cX6_ifSpeed 50 = .ok (.aload_n 0, 1) := by decide +kernel
theorem dX6_ifSpeed_51 : decode cX6_ifSpeed 51 = .ok (.iconst 2, 1) := by decide +kernel
theorem dX6_ifSpeed_52 : decode cX6_ifSpeed 52 = .ok (.invokevirtual 116, 3) := by decide +kernel
theorem dX6_ifSpeed_55 : decode cX6_ifSpeed 55 = .ok (.ireturn, 1) := by decide +kernel
set_option maxRecDepth 100000 in
theorem ggX6_closableIn_X6_putAside : GoodIn wsX6_closableIn wsX6_putAside := goodIn_r _ [5, 6, 7, 88, 89, 90, 91, 92, 93, 94, 95, 96, 97, 98, 99, 100, 101, 102, 103, 104] rfl (by decide +kernel)
set_option maxRecDepth 100000 in
theorem gX6_closableIn_X6_putAside : GoodIn wsX6_closableIn (wsV RX6 212 RX6 yX6_putAside wsX6_putAside) := goodIn_app (goodIn_r _ [1, 2, 3, 4] rfl (by decide +kernel)) ggX6_closableIn_X6_putAside
set_option maxRecDepth 100000 in
theorem ggX6_closableIn_X6_reason : GoodIn wsX6_closableIn wsX6_reason := goodIn_r _ [11, 7, 12, 13, 14, 4, 15, 16, 17, 18, 19, 20, 21, 22, 23, 24, 25, 26, 27, 28, 29, 30, 31, 32, 33, 34, 35, 36, 37, 38, 39, 40, 41, 42, 43, 44, 45, 46, 47, 48, 49, 88, 89, 90, 91, 92, 93, 94, 95, 96, 97, 98, 99, 100, 101, 102, 103, 104] rfl (by decide +kernel)
set_option maxRecDepth 100000 in
theorem gX6_closableIn_X6_reason : GoodIn wsX6_closableIn (wsV RX6 134 RX6 yX6_reason wsX6_reason) := goodIn_app (goodIn_r _ [8, 9, 10, 4] rfl (by decide +kernel)) ggX6_closableIn_X6_reason
set_option maxRecDepth 100000 in
theorem ggX6_closableIn_X6_tick : GoodIn wsX6_closableIn wsX6_tick := goodIn_r _ [53, 7, 54, 55, 24, 25, 26, 4, 27, 16, 17, 18, 19, 20, 21, 22, 23, 12, 13, 14, 15, 28, 29, 30, 31, 32, 33, 34, 35, 36, 37, 38, 39, 40, 41, 42, 43, 56, 57, 58, 59, 60, 61, 62, 63, 64, 65, 66, 67, 68, 69, 70, 71, 72, 73, 74, 75, 76, 77, 78, 79, 80, 81, 82, 83, 88, 89, 90, 91, 92, 93, 94, 95, 96, 97, 98, 99, 100, 101, 102, 103, 104] rfl (by decide +kernel)
set_option maxRecDepth 100000 in
theorem gX6_closableIn_X6_tick : GoodIn wsX6_closableIn (wsV RX6 109 RX6 yX6_tick wsX6_tick) := goodIn_app (goodIn_r _ [50, 51, 52, 4] rfl (by decide +kernel)) ggX6_closableIn_X6_tick
set_option maxRecDepth 100000 in
theorem ggX6_closableIn_X6_putBack : GoodIn wsX6_closableIn wsX6_putBack := goodIn_r _ [87, 7, 6, 88, 89, 90, 91, 92, 93, 94, 95, 96, 97, 98, 99, 100, 101, 102, 103, 104] rfl (by decide +kernel)
set_option maxRecDepth 100000 in
theorem gX6_closableIn_X6_putBack : GoodIn wsX6_closableIn (wsV RX6 215 RX6 yX6_putBack wsX6_putBack) := goodIn_app (goodIn_r _ [84, 85, 86, 4] rfl (by decide +kernel)) ggX6_closableIn_X6_putBack
theorem dX6_closableIn_0 : decode cX6_closableIn 0 = .ok (.aload_n 0, 1) := by decide +kernel
theorem dX6_closableIn_1 : decode cX6_closableIn 1 = .ok (.invokevirtual 212, 3) := by decide +kernel
theorem dX6_closableIn_4 : decode cX6_closableIn 4 = .ok (.iconst 0, 1) := by decide +kernel
theorem dX6_closableIn_5 : decode cX6_closableIn 5 = .ok (.istore_n 2, 1) := by decide +kernel
theorem dX6_closableIn_6 : decode cX6_closableIn 6 = .ok (.iload_n 2, 1) := by decide +kernel
theorem dX6_closableIn_7 : decode cX6_closableIn 7 = .ok (.sipush 500, 3) := by decide +kernel
theorem dX6_closableIn_10 : decode cX6_closableIn 10 = .ok (.if_icmp .ge 22, 3) := by decide +kernel
theorem dX6_closableIn_13 : decode cX6_closableIn 13 = .ok (.aload_n 0, 1) := by decide +kernel
theorem dX6_closableIn_14 : decode cX6_closableIn 14 = .ok (.iload_n 1, 1) := by decide +kernel
theorem dX6_closableIn_15 : decode cX6_closableIn 15 = .ok (.invokevirtual 134, 3) := by decide +kernel
theorem dX6_closableIn_18 : decode cX6_closableIn 18 = .ok (.ifCond .le 14, 3) := by decide +kernel
theorem dX6_closableIn_21 : decode cX6_closableIn 21 = .ok (.aload_n 0, 1) := by decide +kernel
theorem dX6_closableIn_22 : decode cX6_closableIn 22 = .ok (.invokevirtual 109, 3) := by decide +kernel
theorem dX6_closableIn_25 : decode cX6_closableIn 25 = .ok (.istore_n 3, 1) := by decide +kernel
theorem dX6_closableIn_26 : decode cX6_closableIn 26 = .ok (.iinc 2 1, 3) := by decide +kernel
theorem dX6_closableIn_29 : decode cX6_closableIn 29 = .ok (.goto (-23), 3) := by decide +kernel
theorem dX6_closableIn_32 : decode cX6_closableIn 32 = .ok (.aload_n 0, 1) := by decide +kernel
theorem dX6_closableIn_33 : decode cX6_closableIn 33 = .ok (.iload_n 1, 1) := by decide +kernel
theorem dX6_closableIn_34 : decode cX6_closableIn 34 = .ok (.invokevirtual 134, 3) := by decide +kernel
theorem dX6_closableIn_37 : decode cX6_closableIn 37 = .ok (.ifCond .ne 7, 3) := by decide +kernel
theorem dX6_closableIn_40 : decode cX6_closableIn 40 = .ok (.iload_n 2, 1) := by decide +kernel
theorem dX6_closableIn_41 : decode cX6_closableIn 41 = .ok (.goto 4, 3) := by decide +kernel
theorem dX6_closableIn_44 : decode cX6_closableIn 44 = .ok (.iconst (-1), 1) := by decide +kernel
theorem dX6_closableIn_45 : decode cX6_closableIn 45 = .ok (.istore_n 3, 1) := by decide +kernel
theorem dX6_closableIn_46 : decode cX6_closableIn 46 = .ok (.aload_n 0, 1) := by decide +kernel
theorem dX6_closableIn_47 : decode cX6_closableIn 47 = .ok (.invokevirtual 215, 3) := by decide +kernel
theorem dX6_closableIn_50 : decode cX6_closableIn 50 = .ok (.iload_n 3, 1) := by decide +kernel
theorem dX6_closableIn_51 : decode cX6_closableIn 51 = .ok (.ireturn, 1) := by decide +kernel
set_option maxRecDepth 100000 in
theorem ggX6_closeIn_X6_isSet : GoodIn wsX6_closeIn wsX6_isSet := goodIn_r _ [5, 6, 7, 4, 8] rfl (by decide +kernel)
set_option maxRecDepth 100000 in
theorem gX6_closeIn_X6_isSet : GoodIn wsX6_closeIn (va_wsS RX6 112 yX6_isSet wsX6_isSet) := goodIn_app (goodIn_r _ [2, 3, 4] rfl (by decide +kernel)) ggX6_closeIn_X6_isSet
set_option maxRecDepth 100000 in
theorem ggX6_closeIn_X6_closableIn : GoodIn wsX6_closeIn wsX6_closableIn := goodIn_r _ [12, 13, 14, 15, 4, 16, 17, 18, 19, 20, 21, 22, 23, 24, 25, 26, 27, 28, 29, 30, 31, 32, 33, 34, 35, 36, 37, 38, 39, 40, 41, 42, 43, 44, 45, 46, 47, 48, 49, 50, 51, 52, 53, 54, 55, 56, 57, 58, 59, 60, 61, 62, 63, 64, 65, 66, 67, 68, 69, 70, 71, 72, 73, 74, 75, 76, 77, 78, 79, 80, 81, 82, 83, 84, 85, 86, 87, 88, 89, 90, 91, 92, 93, 94, 95, 96, 97, 98, 103, 104, 105, 106, 107, 108, 109, 110, 111, 112, 113, 114, 115, 116, 117, 118, 119] rfl (by decide +kernel)
set_option maxRecDepth 100000 in
theorem gX6_closeIn_X6_closableIn : GoodIn wsX6_closeIn (wsV RX6 218 RX6 yX6_closableIn wsX6_closableIn) := goodIn_app (goodIn_r _ [9, 10, 11, 4] rfl (by decide +kernel)) ggX6_closeIn_X6_closableIn
set_option maxRecDepth 100000 in
theorem ggX6_closeIn_X6_fails : GoodIn wsX6_closeIn wsX6_fails := goodIn_r _ [102, 1, 103, 104, 105, 106, 107, 108, 109, 110, 111, 112, 113, 114, 115, 116, 117, 118, 119] rfl (by decide +kernel)
set_option maxRecDepth 100000 in
theorem gX6_closeIn_X6_fails : GoodIn wsX6_closeIn (wsV RX6 116 RX6 yX6_fails wsX6_fails) := goodIn_app (goodIn_r _ [99, 100, 101, 4] rfl (by decide +kernel)) ggX6_closeIn_X6_fails
theorem dX6_closeIn_0 : decode cX6_closeIn 0 = .ok (.aload_n 0, 1) := by decide +kernel
theorem dX6_closeIn_1 : decode cX6_closeIn 1 = .ok (.iconst 0, 1) := by decide +kernel
theorem dX6_closeIn_2 : decode cX6_closeIn 2 = .ok (.putfield 41, 3) := by decide +kernel
theorem dX6_closeIn_5 : decode cX6_closeIn 5 = .ok (.iload_n 1, 1) := by decide +kernel
theorem dX6_closeIn_6 : decode cX6_closeIn 6 = .ok (.invokestatic 112, 3) := by decide +kernel
theorem dX6_closeIn_9 : decode cX6_closeIn 9 = .ok (.ifCond .eq 11, 3) := by decide +kernel
theorem dX6_closeIn_12 : decode cX6_closeIn 12 = .ok (.aload_n 0, 1) := by decide +kernel
theorem dX6_closeIn_13 : decode cX6_closeIn 13 = .ok (.iload_n 1, 1) := by decide +kernel
theorem dX6_closeIn_14 : decode cX6_closeIn 14 = .ok (.invokevirtual 218, 3) := by decide +kernel
theorem dX6_closeIn_17 : decode cX6_closeIn 17 = .ok (.goto 8, 3) := by decide +kernel
theorem dX6_closeIn_20 : decode cX6_closeIn 20 = .ok (.aload_n 0, 1) := by decide +kernel
theorem dX6_closeIn_21 : decode cX6_closeIn 21 = .ok (.iconst 1, 1) := by decide +kernel
theorem dX6_closeIn_22 : decode cX6_closeIn 22 = .ok (.invokevirtual 116, 3) := by decide +kernel
theorem dX6_closeIn_25 : decode cX6_closeIn 25 = .ok (.ireturn, 1) := by decide +kernel
set_option maxRecDepth 100000 in
theorem ggX6_ratings_X6_of : GoodIn wsX6_ratings wsX6_of := goodIn_r _ [5, 6, 7, 8, 9, 10, 11, 12, 13, 14, 15, 16, 17, 18, 19, 20, 21, 22, 23] rfl (by decide +kernel)
set_option maxRecDepth 100000 in
theorem gX6_ratings_X6_of : GoodIn wsX6_ratings (wsV RX6 52 RX6 yX6_of wsX6_of) := goodIn_app (goodIn_r _ [1, 2, 3, 4] rfl (by decide +kernel)) ggX6_ratings_X6_of
theorem dX6_ratings_0 : decode cX6_ratings 0 = .ok (.iconst 0, 1) := by decide +kernel
theorem dX6_ratings_1 : decode cX6_ratings 1 = .ok (.istore_n 1, 1) := by decide +kernel
theorem dX6_ratings_2 : decode cX6_ratings 2 = .ok (.iconst 0, 1) := by decide +kernel
theorem dX6_ratings_3 : decode cX6_ratings 3 = .ok (.istore_n 2, 1) := by decide +kernel
theorem dX6_ratings_4 : decode cX6_ratings 4 = .ok (.iload_n 2, 1) := by decide +kernel
theorem dX6_ratings_5 : decode cX6_ratings 5 = .ok (.iconst 3, 1) := by decide +kernel
theorem dX6_ratings_6 : decode cX6_ratings 6 = .ok (.if_icmp .ge 25, 3) := by decide +kernel
theorem dX6_ratings_9 : decode cX6_ratings 9 = .ok (.iload_n 1, 1) := by decide +kernel
theorem dX6_ratings_10 : decode cX6_ratings 10 = .ok (.aload_n 0, 1) := by decide +kernel
theorem dX6_ratings_11 : decode cX6_ratings 11 = .ok (.iload_n 2, 1) := by decide +kernel
theorem dX6_ratings_12 : decode cX6_ratings 12 = .ok (.iconst 4, 1) := by decide +kernel
theorem dX6_ratings_13 : decode cX6_ratings 13 = .ok (.invokevirtual 52, 3) := by decide +kernel
theorem dX6_ratings_16 : decode cX6_ratings 16 = .ok (.aload_n 0, 1) := by decide +kernel
theorem dX6_ratings_17 : decode cX6_ratings 17 = .ok (.iload_n 2, 1) := by decide +kernel
theorem dX6_ratings_18 : decode cX6_ratings 18 = .ok (.iconst 0, 1) := by decide +kernel
theorem dX6_ratings_19 : decode cX6_ratings 19 = .ok (.invokevirtual 52, 3) := by decide +kernel
theorem dX6_ratings_22 : decode cX6_ratings 22 = .ok (.imul, 1) := by decide +kernel
theorem dX6_ratings_23 : decode cX6_ratings 23 = .ok (.iadd, 1) := by decide +kernel
theorem dX6_ratings_24 : decode cX6_ratings 24 = .ok (.istore_n 1, 1) := by decide +kernel
theorem dX6_ratings_25 : decode cX6_ratings 25 = .ok (.iinc 2 1, 3) := by decide +kernel
theorem dX6_ratings_28 : decode cX6_ratings 28 = .ok (.goto (-24), 3) := by decide +kernel
theorem dX6_ratings_31 : decode cX6_ratings 31 = .ok (.iload_n 1, 1) := by decide +kernel
theorem dX6_ratings_32 : decode cX6_ratings 32 = .ok (.ireturn, 1) := by decide +kernel
set_option maxRecDepth 100000 in
theorem ggX6_fairFor_X6_of : GoodIn wsX6_fairFor wsX6_of := goodIn_r _ [5, 6, 68, 69, 70, 71, 72, 73, 74, 75, 76, 77, 78, 79, 80, 81, 82, 83, 84] rfl (by decide +kernel)
set_option maxRecDepth 100000 in
theorem gX6_fairFor_X6_of : GoodIn wsX6_fairFor (wsV RX6 52 RX6 yX6_of wsX6_of) := goodIn_app (goodIn_r _ [1, 2, 3, 4] rfl (by decide +kernel)) ggX6_fairFor_X6_of
set_option maxRecDepth 100000 in
theorem ggX6_fairFor_X6_load : GoodIn wsX6_fairFor wsX6_load := goodIn_r _ [10, 11, 12, 13, 4, 14, 15, 16, 17, 18, 1, 2, 3, 5, 6, 19, 20, 21, 22, 68, 69, 70, 71, 72, 73, 74, 75, 76, 77, 78, 79, 80, 81, 82, 83, 84] rfl (by decide +kernel)
set_option maxRecDepth 100000 in
theorem gX6_fairFor_X6_load : GoodIn wsX6_fairFor (wsV RX6 70 RX6 yX6_load wsX6_load) := goodIn_app (goodIn_r _ [7, 8, 9, 4] rfl (by decide +kernel)) ggX6_fairFor_X6_load
set_option maxRecDepth 100000 in
theorem ggX6_fairFor_X6_ratings : GoodIn wsX6_fairFor wsX6_ratings := goodIn_r _ [26, 1, 2, 3, 4, 5, 6, 68, 69, 70, 71, 72, 73, 74, 75, 76, 77, 78, 79, 80, 81, 82, 83, 84] rfl (by decide +kernel)
set_option maxRecDepth 100000 in
theorem gX6_fairFor_X6_ratings : GoodIn wsX6_fairFor (wsV RX6 221 RX6 yX6_ratings wsX6_ratings) := goodIn_app (goodIn_r _ [23, 24, 25, 4] rfl (by decide +kernel)) ggX6_fairFor_X6_ratings
set_option maxRecDepth 100000 in
theorem ggX6_fairFor_X6_withSpeed : GoodIn wsX6_fairFor wsX6_withSpeed := goodIn_r _ [30, 31, 32, 33, 4, 34, 1, 2, 3, 5, 6, 35, 36, 37, 38, 39, 40, 41, 42, 11, 12, 13, 14, 15, 16, 17, 18, 7, 8, 9, 10, 19, 20, 21, 22, 43, 44, 45, 46, 47, 48, 49, 50, 51, 52, 53, 54, 55, 56, 57, 58, 59, 60, 61, 62, 63, 64, 68, 69, 70, 71, 72, 73, 74, 75, 76, 77, 78, 79, 80, 81, 82, 83, 84] rfl (by decide +kernel)
set_option maxRecDepth 100000 in
theorem gX6_fairFor_X6_withSpeed : GoodIn wsX6_fairFor (wsV RX6 208 RX6 yX6_withSpeed wsX6_withSpeed) := goodIn_app (goodIn_r _ [27, 28, 29, 4] rfl (by decide +kernel)) ggX6_fairFor_X6_withSpeed
set_option maxRecDepth 100000 in
theorem ggX6_fairFor_X6_size : GoodIn wsX6_fairFor wsX6_size := goodIn_r _ [67] rfl (by decide +kernel)
set_option maxRecDepth 100000 in
theorem gX6_fairFor_X6_size : GoodIn wsX6_fairFor (va_wsS RX6 86 yX6_size wsX6_size) := goodIn_app (goodIn_r _ [65, 66, 4] rfl (by decide +kernel)) ggX6_fairFor_X6_size
theorem dX6_fairFor_0 : decode cX6_fairFor 0 = .ok (.aload_n 0, 1) := by decide +kernel
theorem dX6_fairFor_1 : decode cX6_fairFor 1 = .ok (.iload_n 1, 1) := by decide +kernel
theorem dX6_fairFor_2 : decode cX6_fairFor 2 = .ok (.iconst 4, 1) := by decide +kernel
theorem dX6_fairFor_3 : decode cX6_fairFor 3 = .ok (.invokevirtual 52, 3) := by decide +kernel
theorem dX6_fairFor_6 : decode cX6_fairFor 6 = .ok (.ifCond .ne 5, 3) := by decide +kernel
theorem dX6_fairFor_9 : decode cX6_fairFor 9 = .ok (.iconst (-1), 1) := by decide +kernel
theorem dX6_fairFor_10 : decode cX6_fairFor 10 = .ok (.ireturn, 1) := by decide +kernel
theorem dX6_fairFor_11 : decode cX6_fairFor 11 = .ok (.aload_n 0, 1) := by decide +kernel
theorem dX6_fairFor_12 : decode cX6_fairFor 12 = .ok (.invokevirtual 70, 3) := by decide +kernel
theorem dX6_fairFor_15 : decode cX6_fairFor 15 = .ok (.aload_n 0, 1) := by decide +kernel
theorem dX6_fairFor_16 : decode cX6_fairFor 16 = .ok (.iload_n 1, 1) := by decide +kernel
theorem dX6_fairFor_17 : decode cX6_fairFor 17 = .ok (.iconst 0, 1) := by decide +kernel
theorem dX6_fairFor_18 : decode cX6_fairFor 18 = .ok (.invokevirtual 52, 3) := by decide +kernel
theorem dX6_fairFor_21 : decode cX6_fairFor 21 = .ok (.imul, 1) := by decide +kernel
theorem dX6_fairFor_22 : decode cX6_fairFor 22 = .ok (.aload_n 0, 1) := by decide +kernel
theorem dX6_fairFor_23 : decode cX6_fairFor 23 = .ok (.invokevirtual 221, 3) := by decide +kernel
theorem dX6_fairFor_26 : decode cX6_fairFor 26 = .ok (.idiv, 1) := by decide +kernel
theorem dX6_fairFor_27 : decode cX6_fairFor 27 = .ok (.istore_n 2, 1) := by decide +kernel
theorem dX6_fairFor_28 : decode cX6_fairFor 28 = .ok (.iconst (-1), 1) := by decide +kernel
theorem dX6_fairFor_29 : decode cX6_fairFor 29 = .ok (.istore_n 3, 1) := by decide +kernel
theorem dX6_fairFor_30 : decode cX6_fairFor 30 = .ok (.iconst 0, 1) := by decide +kernel
theorem dX6_fairFor_31 : decode cX6_fairFor 31 = .ok (.istore 4, 2) := by decide +kernel
theorem dX6_fairFor_33 : decode cX6_fairFor 33 = .ok (.sipush 4700, 3) := by decide +kernel
theorem dX6_fairFor_36 : decode cX6_fairFor 36 = .ok (.istore 5, 2) := by decide +kernel
theorem dX6_fairFor_38 : decode cX6_fairFor 38 = .ok (.iload 5, 2) := by decide +kernel
theorem dX6_fairFor_40 : decode cX6_fairFor 40 = .ok (.sipush 5300, 3) := by decide +kernel
theorem dX6_fairFor_43 : decode cX6_fairFor 43 = .ok (.if_icmp .gt 69, 3) := by decide +kernel
theorem dX6_fairFor_46 : decode cX6_fairFor 46 = .ok (.aload_n 0, 1) := by decide +kernel
theorem dX6_fairFor_47 : decode cX6_fairFor 47 = .ok (.iload_n 1, 1) := by decide +kernel
theorem dX6_fairFor_48 : decode cX6_fairFor 48 = .ok (.iload 5, 2) := by decide +kernel
theorem dX6_fairFor_50 : decode cX6_fairFor 50 = .ok (.iconst 1, 1) := by decide +kernel
theorem dX6_fairFor_51 : decode cX6_fairFor 51 = .ok (.invokevirtual 208, 3) := by decide +kernel
theorem dX6_fairFor_54 : decode cX6_fairFor 54 = .ok (.iload_n 2, 1) := by decide +kernel
theorem dX6_fairFor_55 : decode cX6_fairFor 55 = .ok (.isub, 1) := by decide +kernel
theorem dX6_fairFor_56 : decode cX6_fairFor 56 = .ok (.invokestatic 86, 3) := by decide +kernel
theorem dX6_fairFor_59 : decode cX6_fairFor 59 = .ok (.istore 6, 2) := by decide +kernel
theorem dX6_fairFor_61 : decode cX6_fairFor 61 = .ok (.iload_n 3, 1) := by decide +kernel
theorem dX6_fairFor_62 : decode cX6_fairFor 62 = .ok (.iconst (-1), 1) := by decide +kernel
theorem dX6_fairFor_63 : decode cX6_fairFor 63 = .ok (.if_icmp .eq 10, 3) := by decide +kernel
theorem dX6_fairFor_66 : decode cX6_fairFor 66 = .ok (.iload 6, 2) := by decide +kernel
theorem dX6_fairFor_68 : decode cX6_fairFor 68 = .ok (.iload 4, 2) := by decide +kernel
theorem dX6_fairFor_70 : decode cX6_fairFor 70 = .ok (.if_icmp .ge 7, 3) := by decide +kernel
theorem dX6_fairFor_73 : decode cX6_fairFor 73 = .ok (.iconst 1, 1) := by decide +kernel
theorem dX6_fairFor_74 : decode cX6_fairFor 74 = .ok (.goto 4, 3) := by decide +kernel
theorem dX6_fairFor_77 : decode cX6_fairFor 77 = .ok (.iconst 0, 1) := by decide +kernel
theorem dX6_fairFor_78 : decode cX6_fairFor 78 = .ok (.istore 7, 2) := by decide +kernel
theorem dX6_fairFor_80 : decode cX6_fairFor 80 = .ok (.iload 7, 2) := by decide +kernel
theorem dX6_fairFor_82 : decode cX6_fairFor 82 = .ok (.ifCond .eq 8, 3) := by decide +kernel
theorem dX6_fairFor_85 : decode cX6_fairFor 85 = .ok (.iload 5, 2) := by decide +kernel
theorem dX6_fairFor_87 : decode cX6_fairFor 87 = .ok (.goto 4, 3) := by decide +kernel
theorem dX6_fairFor_90 : decode cX6_fairFor 90 = .ok (.iload_n 3, 1) := by decide +kernel
theorem dX6_fairFor_91 : decode cX6_fairFor 91 = .ok (.istore_n 3, 1) := by decide +kernel
theorem dX6_fairFor_92 : decode cX6_fairFor 92 = .ok (.iload 7, 2) := by decide +kernel
theorem dX6_fairFor_94 : decode cX6_fairFor 94 = .ok (.ifCond .eq 8, 3) := by decide +kernel
theorem dX6_fairFor_97 : decode cX6_fairFor 97 = .ok (.iload 6, 2) := by decide +kernel
theorem dX6_fairFor_99 : decode cX6_fairFor 99 = .ok (.goto 5, 3) := by decide +kernel
theorem dX6_fairFor_102 : decode cX6_fairFor 102 = .ok (.iload 4, 2) := by decide +kernel
theorem dX6_fairFor_104 : decode cX6_fairFor 104 = .ok (.istore 4, 2) := by decide +kernel
theorem dX6_fairFor_106 : decode cX6_fairFor 106 = .ok (.iinc 5 1, 3) := by decide +kernel
theorem dX6_fairFor_109 : decode cX6_fairFor 109 = .ok (.goto (-71), 3) := by decide +kernel
theorem dX6_fairFor_112 : decode cX6_fairFor 112 = .ok (.iload_n 3, 1) := by decide +kernel
theorem dX6_fairFor_113 : decode cX6_fairFor 113 = .ok (.ireturn, 1) := by decide +kernel
set_option maxRecDepth 100000 in
theorem ggX6_fairSpeed_X6_isSet : GoodIn wsX6_fairSpeed wsX6_isSet := goodIn_r _ [5, 6, 7, 4, 8] rfl (by decide +kernel)
set_option maxRecDepth 100000 in
theorem gX6_fairSpeed_X6_isSet : GoodIn wsX6_fairSpeed (va_wsS RX6 112 yX6_isSet wsX6_isSet) := goodIn_app (goodIn_r _ [2, 3, 4] rfl (by decide +kernel)) ggX6_fairSpeed_X6_isSet
set_option maxRecDepth 100000 in
theorem ggX6_fairSpeed_X6_fairFor : GoodIn wsX6_fairSpeed wsX6_fairFor := goodIn_r _ [12, 13, 14, 15, 4, 16, 17, 18, 19, 20, 21, 22, 23, 24, 25, 26, 27, 28, 29, 30, 31, 32, 33, 34, 35, 36, 37, 38, 39, 40, 41, 42, 43, 44, 45, 46, 47, 48, 49, 50, 51, 52, 53, 54, 55, 56, 57, 58, 59, 60, 61, 62, 63, 64, 65, 66, 67, 68, 69, 70, 71, 72, 73, 74, 75, 76, 77, 78, 83, 84, 85, 86, 87, 88, 89, 90, 91, 92, 93, 94, 95, 96, 97, 98, 99] rfl (by decide +kernel)
set_option maxRecDepth 100000 in
theorem gX6_fairSpeed_X6_fairFor : GoodIn wsX6_fairSpeed (wsV RX6 224 RX6 yX6_fairFor wsX6_fairFor) := goodIn_app (goodIn_r _ [9, 10, 11, 4] rfl (by decide +kernel)) ggX6_fairSpeed_X6_fairFor
set_option maxRecDepth 100000 in
theorem ggX6_fairSpeed_X6_fails : GoodIn wsX6_fairSpeed wsX6_fails := goodIn_r _ [82, 1, 83, 84, 85, 86, 87, 88, 89, 90, 91, 92, 93, 94, 95, 96, 97, 98, 99] rfl (by decide +kernel)
set_option maxRecDepth 100000 in
theorem gX6_fairSpeed_X6_fails : GoodIn wsX6_fairSpeed (wsV RX6 116 RX6 yX6_fails wsX6_fails) := goodIn_app (goodIn_r _ [79, 80, 81, 4] rfl (by decide +kernel)) ggX6_fairSpeed_X6_fails
theorem dX6_fairSpeed_0 : decode cX6_fairSpeed 0 = .ok (.aload_n 0, 1) := by decide +kernel
theorem dX6_fairSpeed_1 : decode cX6_fairSpeed 1 = .ok (.iconst 0, 1) := by decide +kernel
theorem dX6_fairSpeed_2 : decode cX6_fairSpeed 2 = .ok (.putfield 41, 3) := by decide +kernel
theorem dX6_fairSpeed_5 : decode cX6_fairSpeed 5 = .ok (.iload_n 1, 1) := by decide +kernel
theorem dX6_fairSpeed_6 : decode cX6_fairSpeed 6 = .ok (.invokestatic 112, 3) := by decide +kernel
theorem dX6_fairSpeed_9 : decode cX6_fairSpeed 9 = .ok (.ifCond .eq 11, 3) := by decide +kernel
theorem dX6_fairSpeed_12 : decode cX6_fairSpeed 12 = .ok (.aload_n 0, 1) := by decide +kernel
theorem dX6_fairSpeed_13 : decode cX6_fairSpeed 13 = .ok (.iload_n 1, 1) := by decide +kernel
theorem dX6_fairSpeed_14 : decode cX6_fairSpeed 14 = .ok (.invokevirtual 224, 3) := by decide +kernel
theorem dX6_fairSpeed_17 : decode cX6_fairSpeed 17 = .ok (.goto 8, 3) := by decide +kernel
theorem dX6_fairSpeed_20 : decode cX6_fairSpeed 20 = .ok (.aload_n 0, 1) := by decide +kernel
theorem dX6_fairSpeed_21 : decode cX6_fairSpeed 21 = .ok (.iconst 1, 1) := by decide +kernel
theorem dX6_fairSpeed_22 : decode cX6_fairSpeed 22 = .ok (.invokevirtual 116, 3) := by decide +kernel
theorem dX6_fairSpeed_25 : decode cX6_fairSpeed 25 = .ok (.ireturn, 1) := by decide +kernel
set_option maxRecDepth 100000 in
theorem ggX6_tripIn_X6_putAside : GoodIn wsX6_tripIn wsX6_putAside := goodIn_r _ [5, 6, 7, 78, 79, 80, 81, 82, 83, 84, 85, 86, 87, 88, 89, 90, 91, 92, 93, 94] rfl (by decide +kernel)
set_option maxRecDepth 100000 in
theorem gX6_tripIn_X6_putAside : GoodIn wsX6_tripIn (wsV RX6 212 RX6 yX6_putAside wsX6_putAside) := goodIn_app (goodIn_r _ [1, 2, 3, 4] rfl (by decide +kernel)) ggX6_tripIn_X6_putAside
set_option maxRecDepth 100000 in
theorem ggX6_tripIn_X6_tick : GoodIn wsX6_tripIn wsX6_tick := goodIn_r _ [11, 7, 12, 13, 14, 15, 16, 4, 17, 18, 19, 20, 21, 22, 23, 24, 25, 26, 27, 28, 29, 30, 31, 32, 33, 34, 35, 36, 37, 38, 39, 40, 41, 42, 43, 44, 45, 46, 47, 48, 49, 50, 51, 52, 53, 54, 55, 56, 57, 58, 59, 60, 61, 62, 63, 64, 65, 66, 67, 68, 69, 70, 71, 72, 73, 78, 79, 80, 81, 82, 83, 84, 85, 86, 87, 88, 89, 90, 91, 92, 93, 94] rfl (by decide +kernel)
set_option maxRecDepth 100000 in
theorem gX6_tripIn_X6_tick : GoodIn wsX6_tripIn (wsV RX6 109 RX6 yX6_tick wsX6_tick) := goodIn_app (goodIn_r _ [8, 9, 10, 4] rfl (by decide +kernel)) ggX6_tripIn_X6_tick
set_option maxRecDepth 100000 in
theorem ggX6_tripIn_X6_putBack : GoodIn wsX6_tripIn wsX6_putBack := goodIn_r _ [77, 7, 6, 78, 79, 80, 81, 82, 83, 84, 85, 86, 87, 88, 89, 90, 91, 92, 93, 94] rfl (by decide +kernel)
set_option maxRecDepth 100000 in
theorem gX6_tripIn_X6_putBack : GoodIn wsX6_tripIn (wsV RX6 215 RX6 yX6_putBack wsX6_putBack) := goodIn_app (goodIn_r _ [74, 75, 76, 4] rfl (by decide +kernel)) ggX6_tripIn_X6_putBack
theorem dX6_tripIn_0 : decode cX6_tripIn 0 = .ok (.aload_n 0, 1) := by decide +kernel
theorem dX6_tripIn_1 : decode cX6_tripIn 1 = .ok (.invokevirtual 212, 3) := by decide +kernel
theorem dX6_tripIn_4 : decode cX6_tripIn 4 = .ok (.iconst 0, 1) := by decide +kernel
theorem dX6_tripIn_5 : decode cX6_tripIn 5 = .ok (.istore_n 1, 1) := by decide +kernel
theorem dX6_tripIn_6 : decode cX6_tripIn 6 = .ok (.iconst 0, 1) := by decide +kernel
theorem dX6_tripIn_7 : decode cX6_tripIn 7 = .ok (.istore_n 2, 1) := by decide +kernel
theorem dX6_tripIn_8 : decode cX6_tripIn 8 = .ok (.iload_n 1, 1) := by decide +kernel
theorem dX6_tripIn_9 : decode cX6_tripIn 9 = .ok (.bipush 100, 2) := by decide +kernel
theorem dX6_tripIn_11 : decode cX6_tripIn 11 = .ok (.if_icmp .ge 18, 3) := by decide +kernel
theorem dX6_tripIn_14 : decode cX6_tripIn 14 = .ok (.iload_n 2, 1) := by decide +kernel
theorem dX6_tripIn_15 : decode cX6_tripIn 15 = .ok (.ifCond .ne 14, 3) := by decide +kernel
theorem dX6_tripIn_18 : decode cX6_tripIn 18 = .ok (.aload_n 0, 1) := by decide +kernel
theorem dX6_tripIn_19 : decode cX6_tripIn 19 = .ok (.invokevirtual 109, 3) := by decide +kernel
theorem dX6_tripIn_22 : decode cX6_tripIn 22 = .ok (.istore_n 2, 1) := by decide +kernel
theorem dX6_tripIn_23 : decode cX6_tripIn 23 = .ok (.iinc 1 1, 3) := by decide +kernel
theorem dX6_tripIn_26 : decode cX6_tripIn 26 = .ok (.goto (-18), 3) := by decide +kernel
theorem dX6_tripIn_29 : decode cX6_tripIn 29 = .ok (.aload_n 0, 1) := by decide +kernel
theorem dX6_tripIn_30 : decode cX6_tripIn 30 = .ok (.invokevirtual 215, 3) := by decide +kernel
theorem dX6_tripIn_33 : decode cX6_tripIn 33 = .ok (.iload_n 2, 1) := by decide +kernel
theorem dX6_tripIn_34 : decode cX6_tripIn 34 = .ok (.ifCond .le 7, 3) := by decide +kernel
theorem dX6_tripIn_37 : decode cX6_tripIn 37 = .ok (.iload_n 1, 1) := by decide +kernel
theorem dX6_tripIn_38 : decode cX6_tripIn 38 = .ok (.goto 4, 3) := by decide +kernel
theorem dX6_tripIn_41 : decode cX6_tripIn 41 = .ok (.iconst (-1), 1) := by decide +kernel
theorem dX6_tripIn_42 : decode cX6_tripIn 42 = .ok (.ireturn, 1) := by decide +kernel
set_option maxRecDepth 100000 in
theorem ggX6_nextTrip_X6_tripIn : GoodIn wsX6_nextTrip wsX6_tripIn := goodIn_r _ [6, 7, 8, 9, 5, 10, 11, 12, 13, 14, 15, 16, 17, 18, 19, 20, 21, 22, 23, 24, 25, 26, 27, 28, 29, 30, 31, 32, 33, 34, 35, 36, 37, 38, 39, 40, 41, 42, 43, 44, 45, 46, 47, 48, 49, 50, 51, 52, 53, 54, 55, 56, 57, 58, 59, 60, 61, 62, 63, 64, 65, 66, 67, 68, 69, 70, 71, 72, 73, 74, 75, 76, 77, 78, 79, 80, 81, 82, 83, 84, 85, 86, 87, 88, 89, 90, 91, 92, 93, 94, 95, 96, 97, 98, 99] rfl (by decide +kernel)
set_option maxRecDepth 100000 in
theorem gX6_nextTrip_X6_tripIn : GoodIn wsX6_nextTrip (wsV RX6 227 RX6 yX6_tripIn wsX6_tripIn) := goodIn_app (goodIn_r _ [2, 3, 4, 5] rfl (by decide +kernel)) ggX6_nextTrip_X6_tripIn
theorem dX6_nextTrip_0 : decode cX6_nextTrip 0 = .ok (.aload_n 0, 1) := by decide +kernel
theorem dX6_nextTrip_1 : decode cX6_nextTrip 1 = .ok (.iconst 0, 1) := by decide +kernel
theorem dX6_nextTrip_2 : decode cX6_nextTrip 2 = .ok (.putfield 41, 3) := by decide +kernel
theorem dX6_nextTrip_5 : decode cX6_nextTrip 5 = .ok (.aload_n 0, 1) := by decide +kernel
theorem dX6_nextTrip_6 : decode cX6_nextTrip 6 = .ok (.invokevirtual 227, 3) := by decide +kernel
theorem dX6_nextTrip_9 : decode cX6_nextTrip 9 = .ok (.ireturn, 1) := by decide +kernel
set_option maxRecDepth 100000 in
theorem ggX6_share_X6_isAlive : GoodIn wsX6_share wsX6_isAlive := goodIn_r _ [5, 6, 7, 8, 4, 9, 10, 11, 12, 13, 14, 27, 28, 29, 30, 31, 32, 33, 34, 35, 36, 37, 38, 39, 40, 41, 42, 43] rfl (by decide +kernel)
set_option maxRecDepth 100000 in
theorem gX6_share_X6_isAlive : GoodIn wsX6_share (wsV RX6 60 RX6 yX6_isAlive wsX6_isAlive) := goodIn_app (goodIn_r _ [1, 2, 3, 4] rfl (by decide +kernel)) ggX6_share_X6_isAlive
set_option maxRecDepth 100000 in
theorem ggX6_share_X6_load : GoodIn wsX6_share wsX6_load := goodIn_r _ [18, 1, 2, 3, 4, 5, 6, 7, 8, 9, 10, 11, 12, 13, 14, 19, 20, 21, 22, 27, 28, 29, 30, 31, 32, 33, 34, 35, 36, 37, 38, 39, 40, 41, 42, 43] rfl (by decide +kernel)
set_option maxRecDepth 100000 in
theorem gX6_share_X6_load : GoodIn wsX6_share (wsV RX6 70 RX6 yX6_load wsX6_load) := goodIn_app (goodIn_r _ [15, 16, 17, 4] rfl (by decide +kernel)) ggX6_share_X6_load
set_option maxRecDepth 100000 in
theorem ggX6_share_X6_ratings : GoodIn wsX6_share wsX6_ratings := goodIn_r _ [26, 10, 11, 12, 4, 13, 14, 27, 28, 29, 30, 31, 32, 33, 34, 35, 36, 37, 38, 39, 40, 41, 42, 43] rfl (by decide +kernel)
set_option maxRecDepth 100000 in
theorem gX6_share_X6_ratings : GoodIn wsX6_share (wsV RX6 221 RX6 yX6_ratings wsX6_ratings) := goodIn_app (goodIn_r _ [23, 24, 25, 4] rfl (by decide +kernel)) ggX6_share_X6_ratings
theorem dX6_share_0 : decode cX6_share 0 = .ok (.aload_n 0, 1) := by decide +kernel
theorem dX6_share_1 : decode cX6_share 1 = .ok (.invokevirtual 60, 3) := by decide +kernel
theorem dX6_share_4 : decode cX6_share 4 = .ok (.ifCond .eq 17, 3) := by decide +kernel
theorem dX6_share_7 : decode cX6_share 7 = .ok (.aload_n 0, 1) := by decide +kernel
theorem dX6_share_8 : decode cX6_share 8 = .ok (.invokevirtual 70, 3) := by decide +kernel
theorem dX6_share_11 : decode cX6_share 11 = .ok (.i2d, 1) := by decide +kernel
theorem dX6_share_12 : decode cX6_share 12 = .ok (.aload_n 0, 1) := by decide +kernel
theorem dX6_share_13 : decode cX6_share 13 = .ok (.invokevirtual 221, 3) := by decide +kernel
theorem dX6_share_16 : decode cX6_share 16 = .ok (.i2d, 1) := by decide +kernel
theorem dX6_share_17 : decode cX6_share 17 = .ok (.ddiv, 1) := by decide +kernel
theorem dX6_share_18 : decode cX6_share 18 = .ok (.goto 4, 3) := by decide +kernel
theorem dX6_share_21 : decode cX6_share 21 = .ok (.dconst 0, 1) := by decide +kernel
theorem dX6_share_22 : decode cX6_share 22 = .ok (.dreturn, 1) := by decide +kernel
set_option maxRecDepth 100000 in
theorem ggX6_loadShare_X6_share : GoodIn wsX6_loadShare wsX6_share := goodIn_r _ [6, 7, 8, 9, 5, 10, 11, 12, 13, 14, 15, 16, 17, 18, 19, 20, 21, 22, 23, 24, 25, 26, 27, 28, 29, 30, 31, 32, 33, 34, 35, 36, 37, 38, 39, 40, 41, 42, 43, 44, 45, 46, 47, 48] rfl (by decide +kernel)
set_option maxRecDepth 100000 in
theorem gX6_loadShare_X6_share : GoodIn wsX6_loadShare (wsV RX6 230 RX6 yX6_share wsX6_share) := goodIn_app (goodIn_r _ [2, 3, 4, 5] rfl (by decide +kernel)) ggX6_loadShare_X6_share
theorem dX6_loadShare_0 : decode cX6_loadShare 0 = .ok (.aload_n 0, 1) := by decide +kernel
theorem dX6_loadShare_1 : decode cX6_loadShare 1 = .ok (.iconst 0, 1) := by decide +kernel
theorem dX6_loadShare_2 : decode cX6_loadShare 2 = .ok (.putfield 41, 3) := by decide +kernel
theorem dX6_loadShare_5 : decode cX6_loadShare 5 = .ok (.aload_n 0, 1) := by decide +kernel
theorem dX6_loadShare_6 : decode cX6_loadShare 6 = .ok (.invokevirtual 230, 3) := by decide +kernel
theorem dX6_loadShare_9 : decode cX6_loadShare 9 = .ok (.dreturn, 1) := by decide +kernel
theorem dX6_mean_0 : decode cX6_mean 0 = .ok (.aload_n 0, 1) := by decide +kernel
theorem dX6_mean_1 : decode cX6_mean 1 = .ok (.getfield 7, 3) := by decide +kernel
theorem dX6_mean_4 : decode cX6_mean 4 = .ok (.iconst 4, 1) := by decide +kernel
theorem dX6_mean_5 : decode cX6_mean 5 = .ok (.iaload, 1) := by decide +kernel
theorem dX6_mean_6 : decode cX6_mean 6 = .ok (.ifCond .ne 7, 3) := by decide +kernel
theorem dX6_mean_9 : decode cX6_mean 9 = .ok (.fconst 0, 1) := by decide +kernel
theorem dX6_mean_10 : decode cX6_mean 10 = .ok (.goto 19, 3) := by decide +kernel
theorem dX6_mean_13 : decode cX6_mean 13 = .ok (.aload_n 0, 1) := by decide +kernel
theorem dX6_mean_14 : decode cX6_mean 14 = .ok (.getfield 7, 3) := by decide +kernel
theorem dX6_mean_17 : decode cX6_mean 17 = .ok (.bipush 7, 2) := by decide +kernel
theorem dX6_mean_19 : decode cX6_mean 19 = .ok (.iaload, 1) := by decide +kernel
theorem dX6_mean_20 : decode cX6_mean 20 = .ok (.i2f, 1) := by decide +kernel
theorem dX6_mean_21 : decode cX6_mean 21 = .ok (.aload_n 0, 1) := by decide +kernel
theorem dX6_mean_22 : decode cX6_mean 22 = .ok (.getfield 7, 3) := by decide +kernel
theorem dX6_mean_25 : decode cX6_mean 25 = .ok (.iconst 4, 1) := by decide +kernel
theorem dX6_mean_26 : decode cX6_mean 26 = .ok (.iaload, 1) := by decide +kernel
theorem dX6_mean_27 : decode cX6_mean 27 = .ok (.i2f, 1) := by decide +kernel
theorem dX6_mean_28 : decode cX6_mean 28 = .ok (.fdiv, 1) := by decide +kernel
theorem dX6_mean_29 : decode cX6_mean 29 = .ok (.freturn, 1) := by decide +kernel
set_option maxRecDepth 100000 in
theorem ggX6_meanPower_X6_mean : GoodIn wsX6_meanPower wsX6_mean := goodIn_r _ [6, 7, 8, 9, 10, 11, 12, 13, 14, 15, 16, 17, 18, 19, 20, 21, 22, 23, 24] rfl (by decide +kernel)
set_option maxRecDepth 100000 in
theorem gX6_meanPower_X6_mean : GoodIn wsX6_meanPower (wsV RX6 234 RX6 yX6_mean wsX6_mean) := goodIn_app (goodIn_r _ [2, 3, 4, 5] rfl (by decide +kernel)) ggX6_meanPower_X6_mean
theorem dX6_meanPower_0 : decode cX6_meanPower 0 = .ok (.aload_n 0, 1) := by decide +kernel
theorem dX6_meanPower_1 : decode cX6_meanPower 1 = .ok (.iconst 0, 1) := by decide +kernel
theorem dX6_meanPower_2 : decode cX6_meanPower 2 = .ok (.putfield 41, 3) := by decide +kernel
theorem dX6_meanPower_5 : decode cX6_meanPower 5 = .ok (.aload_n 0, 1) := by decide +kernel
theorem dX6_meanPower_6 : decode cX6_meanPower 6 = .ok (.invokevirtual 234, 3) := by decide +kernel
theorem dX6_meanPower_9 : decode cX6_meanPower 9 = .ok (.freturn, 1) := by decide +kernel
theorem dX6_mix_0 : decode cX6_mix 0 = .ok (.aload_n 0, 1) := by decide +kernel
theorem dX6_mix_1 : decode cX6_mix 1 = .ok (.ldc2_w 238, 3) := by decide +kernel
theorem dX6_mix_4 : decode cX6_mix 4 = .ok (.aload_n 0, 1) := by decide +kernel
theorem dX6_mix_5 : decode cX6_mix 5 = .ok (.getfield 240, 3) := by decide +kernel
theorem dX6_mix_8 : decode cX6_mix 8 = .ok (.lmul, 1) := by decide +kernel
theorem dX6_mix_9 : decode cX6_mix 9 = .ok (.lload_n 1, 1) := by decide +kernel
theorem dX6_mix_10 : decode cX6_mix 10 = .ok (.ladd, 1) := by decide +kernel
theorem dX6_mix_11 : decode cX6_mix 11 = .ok (.putfield 240, 3) := by decide +kernel
theorem dX6_mix_14 : decode cX6_mix 14 = .ok (.return_, 1) := by decide +kernel
set_option maxRecDepth 100000 in
theorem ggX6_mixSet_X6_ofDiesel : GoodIn wsX6_mixSet wsX6_ofDiesel := goodIn_r _ [5, 6, 7, 8, 4, 9, 10, 11, 12, 13, 14, 15, 16, 17, 18, 19, 20, 21, 22, 23, 24, 25, 26, 27, 28, 29, 30, 31, 32, 33, 34, 35, 36, 37, 38, 39, 40, 41, 42, 43, 44, 45, 46, 47, 48, 49, 50, 51, 52, 53, 54, 55, 56, 57, 58, 126, 127, 128, 129, 130, 131, 132, 133, 134, 135, 136, 137, 138, 139, 140, 141, 142] rfl (by decide +kernel)
set_option maxRecDepth 100000 in
theorem gX6_mixSet_X6_ofDiesel : GoodIn wsX6_mixSet (wsV RX6 196 RX6 yX6_ofDiesel wsX6_ofDiesel) := goodIn_app (goodIn_r _ [1, 2, 3, 4] rfl (by decide +kernel)) ggX6_mixSet_X6_ofDiesel
set_option maxRecDepth 100000 in
theorem ggX6_mixSet_X6_mix : GoodIn wsX6_mixSet wsX6_mix := goodIn_r _ [62, 63, 64, 126, 127, 128, 129, 130, 131, 132, 133, 134, 135, 136, 137, 138, 139, 140, 141, 142] rfl (by decide +kernel)
set_option maxRecDepth 100000 in
theorem gX6_mixSet_X6_mix : GoodIn wsX6_mixSet (wsV RX6 244 RX6 yX6_mix wsX6_mix) := goodIn_app (goodIn_r _ [59, 60, 61, 4] rfl (by decide +kernel)) ggX6_mixSet_X6_mix
set_option maxRecDepth 100000 in
theorem ggX6_mixSet_X6_withSpeed : GoodIn wsX6_mixSet wsX6_withSpeed := goodIn_r _ [68, 69, 70, 71, 4, 72, 28, 29, 30, 31, 32, 73, 74, 75, 76, 16, 17, 18, 19, 20, 21, 22, 23, 24, 25, 26, 27, 33, 34, 35, 36, 37, 38, 39, 40, 41, 42, 43, 44, 45, 46, 47, 48, 6, 7, 8, 9, 10, 11, 12, 13, 14, 15, 77, 78, 79, 80, 126, 127, 128, 129, 130, 131, 132, 133, 134, 135, 136, 137, 138, 139, 140, 141, 142] rfl (by decide +kernel)
set_option maxRecDepth 100000 in
theorem gX6_mixSet_X6_withSpeed : GoodIn wsX6_mixSet (wsV RX6 208 RX6 yX6_withSpeed wsX6_withSpeed) := goodIn_app (goodIn_r _ [65, 66, 67, 4] rfl (by decide +kernel)) ggX6_mixSet_X6_withSpeed
set_option maxRecDepth 100000 in
theorem ggX6_mixSet_X6_closableIn : GoodIn wsX6_mixSet wsX6_closableIn := goodIn_r _ [84, 85, 86, 87, 4, 88, 89, 32, 52, 53, 54, 55, 28, 29, 30, 31, 20, 21, 22, 23, 24, 25, 26, 27, 16, 17, 18, 19, 33, 34, 35, 36, 37, 38, 39, 40, 41, 42, 43, 44, 45, 46, 47, 48, 56, 57, 58, 49, 50, 51, 90, 91, 92, 93, 15, 10, 11, 12, 13, 14, 73, 74, 75, 76, 94, 95, 96, 97, 98, 99, 100, 101, 102, 103, 104, 105, 106, 107, 108, 109, 110, 111, 112, 113, 114, 115, 116, 117, 126, 127, 128, 129, 130, 131, 132, 133, 134, 135, 136, 137, 138, 139, 140, 141, 142] rfl (by decide +kernel)
set_option maxRecDepth 100000 in
theorem gX6_mixSet_X6_closableIn : GoodIn wsX6_mixSet (wsV RX6 218 RX6 yX6_closableIn wsX6_closableIn) := goodIn_app (goodIn_r _ [81, 82, 83, 4] rfl (by decide +kernel)) ggX6_mixSet_X6_closableIn
set_option maxRecDepth 100000 in
theorem ggX6_mixSet_X6_fairFor : GoodIn wsX6_mixSet wsX6_fairFor := goodIn_r _ [121, 28, 29, 30, 4, 31, 32, 33, 34, 35, 36, 20, 21, 22, 23, 24, 25, 26, 27, 37, 38, 39, 40, 122, 123, 124, 125, 65, 66, 67, 68, 69, 70, 71, 72, 73, 74, 75, 76, 16, 17, 18, 19, 41, 42, 43, 44, 45, 46, 47, 48, 6, 7, 8, 9, 10, 11, 12, 13, 14, 15, 77, 78, 79, 80, 56, 57, 58, 126, 127, 128, 129, 130, 131, 132, 133, 134, 135, 136, 137, 138, 139, 140, 141, 142] rfl (by decide +kernel)
set_option maxRecDepth 100000 in
theorem gX6_mixSet_X6_fairFor : GoodIn wsX6_mixSet (wsV RX6 224 RX6 yX6_fairFor wsX6_fairFor) := goodIn_app (goodIn_r _ [118, 119, 120, 4] rfl (by decide +kernel)) ggX6_mixSet_X6_fairFor
theorem dX6_mixSet_0 : decode cX6_mixSet 0 = .ok (.iconst 0, 1) := by decide +kernel
theorem dX6_mixSet_1 : decode cX6_mixSet 1 = .ok (.istore_n 2, 1) := by decide +kernel
theorem dX6_mixSet_2 : decode cX6_mixSet 2 = .ok (.iload_n 2, 1) := by decide +kernel
theorem dX6_mixSet_3 : decode cX6_mixSet 3 = .ok (.bipush 13, 2) := by decide +kernel
theorem dX6_mixSet_5 : decode cX6_mixSet 5 = .ok (.if_icmp .ge 20, 3) := by decide +kernel
theorem dX6_mixSet_8 : decode cX6_mixSet 8 = .ok (.aload_n 0, 1) := by decide +kernel
theorem dX6_mixSet_9 : decode cX6_mixSet 9 = .ok (.aload_n 0, 1) := by decide +kernel
theorem dX6_mixSet_10 : decode cX6_mixSet 10 = .ok (.iload_n 1, 1) := by decide +kernel
theorem dX6_mixSet_11 : decode cX6_mixSet 11 = .ok (.iload_n 2, 1) := by decide +kernel
theorem dX6_mixSet_12 : decode cX6_mixSet 12 = .ok (.invokevirtual 196, 3) := by decide +kernel
theorem dX6_mixSet_15 : decode cX6_mixSet 15 = .ok (.i2l, 1) := by decide +kernel
theorem dX6_mixSet_16 : decode cX6_mixSet 16 = .ok (.invokevirtual 244, 3) := by decide +kernel
theorem dX6_mixSet_19 : decode cX6_mixSet 19 = .ok (.iinc 2 1, 3) := by decide +kernel
theorem dX6_mixSet_22 : decode cX6_mixSet 22 = .ok (.goto (-20), 3) := by decide +kernel
theorem dX6_mixSet_25 : decode cX6_mixSet 25 = .ok (.iconst 0, 1) := by decide +kernel
theorem dX6_mixSet_26 : decode cX6_mixSet 26 = .ok (.istore_n 2, 1) := by decide +kernel
theorem dX6_mixSet_27 : decode cX6_mixSet 27 = .ok (.iload_n 2, 1) := by decide +kernel
theorem dX6_mixSet_28 : decode cX6_mixSet 28 = .ok (.iconst 3, 1) := by decide +kernel
theorem dX6_mixSet_29 : decode cX6_mixSet 29 = .ok (.if_icmp .ge 23, 3) := by decide +kernel
theorem dX6_mixSet_32 : decode cX6_mixSet 32 = .ok (.aload_n 0, 1) := by decide +kernel
theorem dX6_mixSet_33 : decode cX6_mixSet 33 = .ok (.aload_n 0, 1) := by decide +kernel
theorem dX6_mixSet_34 : decode cX6_mixSet 34 = .ok (.iload_n 1, 1) := by decide +kernel
theorem dX6_mixSet_35 : decode cX6_mixSet 35 = .ok (.sipush 5050, 3) := by decide +kernel
theorem dX6_mixSet_38 : decode cX6_mixSet 38 = .ok (.iload_n 2, 1) := by decide +kernel
theorem dX6_mixSet_39 : decode cX6_mixSet 39 = .ok (.invokevirtual 208, 3) := by decide +kernel
theorem dX6_mixSet_42 : decode cX6_mixSet 42 = .ok (.i2l, 1) := by decide +kernel
theorem dX6_mixSet_43 : decode cX6_mixSet 43 = .ok (.invokevirtual 244, 3) := by decide +kernel
theorem dX6_mixSet_46 : decode cX6_mixSet 46 = .ok (.iinc 2 1, 3) := by decide +kernel
theorem dX6_mixSet_49 : decode cX6_mixSet 49 = .ok (.goto (-22), 3) := by decide +kernel
theorem dX6_mixSet_52 : decode cX6_mixSet 52 = .ok (.aload_n 0, 1) := by decide +kernel
theorem dX6_mixSet_53 : decode cX6_mixSet 53 = .ok (.aload_n 0, 1) := by decide +kernel
theorem dX6_mixSet_54 : decode cX6_mixSet 54 = .ok (.iload_n 1, 1) := by decide +kernel
theorem dX6_mixSet_55 : decode cX6_mixSet 55 = .ok (.invokevirtual 218, 3) := by decide +kernel
theorem dX6_mixSet_58 : decode cX6_mixSet 58 = .ok (.i2l, 1) := by decide +kernel
theorem dX6_mixSet_59 : decode cX6_mixSet 59 = .ok (.invokevirtual 244, 3) := by decide +kernel
theorem dX6_mixSet_62 : decode cX6_mixSet 62 = .ok (.aload_n 0, 1) := by decide +kernel
theorem dX6_mixSet_63 : decode cX6_mixSet 63 = .ok (.aload_n 0, 1) := by decide +kernel
theorem dX6_mixSet_64 : decode cX6_mixSet 64 = .ok (.iload_n 1, 1) := by decide +kernel
theorem dX6_mixSet_65 : decode cX6_mixSet 65 = .ok (.invokevirtual 224, 3) := by decide +kernel
theorem dX6_mixSet_68 : decode cX6_mixSet 68 = .ok (.i2l, 1) := by decide +kernel
theorem dX6_mixSet_69 : decode cX6_mixSet 69 = .ok (.invokevirtual 244, 3) := by decide +kernel
theorem dX6_mixSet_72 : decode cX6_mixSet 72 = .ok (.return_, 1) := by decide +kernel
set_option maxRecDepth 100000 in
theorem ggX6_digest_X6_number : GoodIn wsX6_digest wsX6_number := goodIn_r _ [12, 4, 13, 14, 15, 16, 11, 17, 18, 19, 20, 21, 22, 23, 24, 25, 26, 27, 28, 29, 30, 31, 32, 33, 34, 35, 36, 37, 38, 39, 40, 41, 42, 43, 44, 45, 46, 47, 48, 49, 50, 51, 52, 53, 54, 55, 56, 57, 58, 59, 180, 181, 182, 183, 184, 185, 186, 187, 188, 189, 190, 191, 192, 193, 194, 195, 196] rfl (by decide +kernel)
set_option maxRecDepth 100000 in
theorem gX6_digest_X6_number : GoodIn wsX6_digest (wsV RX6 205 RX6 yX6_number wsX6_number) := goodIn_app (goodIn_r _ [8, 9, 10, 11] rfl (by decide +kernel)) ggX6_digest_X6_number
set_option maxRecDepth 100000 in
theorem ggX6_digest_X6_mix : GoodIn wsX6_digest wsX6_mix := goodIn_r _ [63, 64, 3, 180, 181, 182, 183, 184, 185, 186, 187, 188, 189, 190, 191, 192, 193, 194, 195, 196] rfl (by decide +kernel)
set_option maxRecDepth 100000 in
theorem gX6_digest_X6_mix : GoodIn wsX6_digest (wsV RX6 244 RX6 yX6_mix wsX6_mix) := goodIn_app (goodIn_r _ [60, 61, 62, 11] rfl (by decide +kernel)) ggX6_digest_X6_mix
set_option maxRecDepth 100000 in
theorem ggX6_digest_X6_mixSet : GoodIn wsX6_digest wsX6_mixSet := goodIn_r _ [68, 69, 70, 71, 11, 72, 73, 74, 75, 76, 50, 51, 52, 53, 54, 55, 14, 15, 16, 17, 18, 19, 20, 21, 22, 23, 24, 25, 26, 27, 28, 29, 4, 30, 31, 32, 33, 34, 35, 36, 37, 38, 39, 40, 41, 42, 43, 44, 45, 77, 78, 79, 80, 81, 82, 83, 84, 85, 86, 60, 61, 62, 63, 64, 3, 87, 88, 89, 90, 91, 92, 93, 94, 95, 96, 97, 98, 56, 57, 58, 59, 99, 100, 101, 102, 103, 104, 105, 106, 107, 108, 109, 110, 111, 112, 113, 114, 115, 116, 117, 118, 119, 120, 121, 122, 123, 124, 125, 126, 127, 128, 129, 130, 131, 132, 133, 134, 135, 136, 137, 138, 139, 140, 141, 142, 143, 180, 181, 182, 183, 184, 185, 186, 187, 188, 189, 190, 191, 192, 193, 194, 195, 196] rfl (by decide +kernel)
set_option maxRecDepth 100000 in
theorem gX6_digest_X6_mixSet : GoodIn wsX6_digest (wsV RX6 250 RX6 yX6_mixSet wsX6_mixSet) := goodIn_app (goodIn_r _ [65, 66, 67, 11] rfl (by decide +kernel)) ggX6_digest_X6_mixSet
set_option maxRecDepth 100000 in
theorem ggX6_digest_X6_tripIn : GoodIn wsX6_digest wsX6_tripIn := goodIn_r _ [147, 103, 104, 105, 11, 106, 107, 4, 108, 109, 110, 111, 55, 50, 14, 15, 16, 17, 18, 19, 20, 21, 22, 23, 24, 25, 26, 27, 28, 29, 30, 31, 32, 33, 34, 35, 36, 37, 38, 39, 40, 41, 42, 43, 44, 45, 51, 52, 53, 54, 95, 96, 97, 98, 112, 113, 114, 115, 116, 117, 118, 119, 120, 121, 122, 123, 124, 125, 126, 127, 128, 129, 130, 131, 132, 133, 134, 135, 180, 181, 182, 183, 184, 185, 186, 187, 188, 189, 190, 191, 192, 193, 194, 195, 196] rfl (by decide +kernel)
set_option maxRecDepth 100000 in
theorem gX6_digest_X6_tripIn : GoodIn wsX6_digest (wsV RX6 227 RX6 yX6_tripIn wsX6_tripIn) := goodIn_app (goodIn_r _ [144, 145, 146, 11] rfl (by decide +kernel)) ggX6_digest_X6_tripIn
set_option maxRecDepth 100000 in
theorem ggX6_digest_X6_share : GoodIn wsX6_digest wsX6_share := goodIn_r _ [151, 18, 19, 20, 11, 21, 22, 23, 24, 25, 26, 27, 28, 29, 4, 30, 31, 32, 33, 34, 35, 36, 37, 140, 141, 142, 143, 180, 181, 182, 183, 184, 185, 186, 187, 188, 189, 190, 191, 192, 193, 194, 195, 196] rfl (by decide +kernel)
set_option maxRecDepth 100000 in
theorem gX6_digest_X6_share : GoodIn wsX6_digest (wsV RX6 230 RX6 yX6_share wsX6_share) := goodIn_app (goodIn_r _ [148, 149, 150, 11] rfl (by decide +kernel)) ggX6_digest_X6_share
set_option maxRecDepth 100000 in
theorem ggX6_digest_Jxe99ae_doubleToLongBits_ccdee : GoodIn wsX6_digest wsJxe99ae_doubleToLongBits_ccdee := goodIn_r _ [155, 156, 157, 158, 159, 160, 161, 162, 154, 163] rfl (by decide +kernel)
set_option maxRecDepth 100000 in
theorem gX6_digest_Jxe99ae_doubleToLongBits_ccdee : GoodIn wsX6_digest (va_wsS RX6 253 yJxe99ae_doubleToLongBits_ccdee wsJxe99ae_doubleToLongBits_ccdee) := goodIn_app (goodIn_r _ [152, 153, 154] rfl (by decide +kernel)) ggX6_digest_Jxe99ae_doubleToLongBits_ccdee
set_option maxRecDepth 100000 in
theorem ggX6_digest_X6_mean : GoodIn wsX6_digest wsX6_mean := goodIn_r _ [167, 4, 180, 181, 182, 183, 184, 185, 186, 187, 188, 189, 190, 191, 192, 193, 194, 195, 196] rfl (by decide +kernel)
set_option maxRecDepth 100000 in
theorem gX6_digest_X6_mean : GoodIn wsX6_digest (wsV RX6 234 RX6 yX6_mean wsX6_mean) := goodIn_app (goodIn_r _ [164, 165, 166, 11] rfl (by decide +kernel)) ggX6_digest_X6_mean
set_option maxRecDepth 100000 in
theorem ggX6_digest_Jxf58ca_floatToIntBits_5c35a : GoodIn wsX6_digest wsJxf58ca_floatToIntBits_5c35a := goodIn_r _ [171, 172, 173, 174, 175, 176, 177, 178, 170, 179] rfl (by decide +kernel)
set_option maxRecDepth 100000 in
theorem gX6_digest_Jxf58ca_floatToIntBits_5c35a : GoodIn wsX6_digest (va_wsS RX6 259 yJxf58ca_floatToIntBits_5c35a wsJxf58ca_floatToIntBits_5c35a) := goodIn_app (goodIn_r _ [168, 169, 170] rfl (by decide +kernel)) ggX6_digest_Jxf58ca_floatToIntBits_5c35a
theorem dX6_digest_0 : decode cX6_digest 0 = .ok (.aload_n 0, 1) := by decide +kernel
theorem dX6_digest_1 : decode cX6_digest 1 = .ok (.iconst 0, 1) := by decide +kernel
theorem dX6_digest_2 : decode cX6_digest 2 = .ok (.putfield 41, 3) := by decide +kernel
theorem dX6_digest_5 : decode cX6_digest 5 = .ok (.aload_n 0, 1) := by decide +kernel
theorem dX6_digest_6 : decode cX6_digest 6 = .ok (.ldc2_w 248, 3) := by decide +kernel
theorem dX6_digest_9 : decode cX6_digest 9 = .ok (.putfield 240, 3) := by decide +kernel
theorem dX6_digest_12 : decode cX6_digest 12 = .ok (.iconst 0, 1) := by decide +kernel
theorem dX6_digest_13 : decode cX6_digest 13 = .ok (.istore_n 1, 1) := by decide +kernel
theorem dX6_digest_14 : decode cX6_digest 14 = .ok (.iload_n 1, 1) := by decide +kernel
theorem dX6_digest_15 : decode cX6_digest 15 = .ok (.bipush 12, 2) := by decide +kernel
theorem dX6_digest_17 : decode cX6_digest 17 = .ok (.if_icmp .ge 19, 3) := by decide +kernel
theorem dX6_digest_20 : decode cX6_digest 20 = .ok (.aload_n 0, 1) := by decide +kernel
theorem dX6_digest_21 : decode cX6_digest 21 = .ok (.aload_n 0, 1) := by decide +kernel
theorem dX6_digest_22 : decode cX6_digest 22 = .ok (.iload_n 1, 1) := by decide +kernel
theorem dX6_digest_23 : decode cX6_digest 23 = .ok (.invokevirtual 205, 3) := by decide +kernel
theorem dX6_digest_26 : decode cX6_digest 26 = .ok (.i2l, 1) := by decide +kernel
theorem dX6_digest_27 : decode cX6_digest 27 = .ok (.invokevirtual 244, 3) := by decide +kernel
theorem dX6_digest_30 : decode cX6_digest 30 = .ok (.iinc 1 1, 3) := by decide +kernel
theorem dX6_digest_33 : decode cX6_digest 33 = .ok (.goto (-19), 3) := by decide +kernel
theorem dX6_digest_36 : decode cX6_digest 36 = .ok (.iconst 0, 1) := by decide +kernel
theorem dX6_digest_37 : decode cX6_digest 37 = .ok (.istore_n 1, 1) := by decide +kernel
theorem dX6_digest_38 : decode cX6_digest 38 = .ok (.iload_n 1, 1) := by decide +kernel
theorem dX6_digest_39 : decode cX6_digest 39 = .ok (.iconst 4, 1) := by decide +kernel
theorem dX6_digest_40 : decode cX6_digest 40 = .ok (.if_icmp .ge 20, 3) := by decide +kernel
theorem dX6_digest_43 : decode cX6_digest 43 = .ok (.aload_n 0, 1) := by decide +kernel
theorem dX6_digest_44 : decode cX6_digest 44 = .ok (.aload_n 0, 1) := by decide +kernel
theorem dX6_digest_45 : decode cX6_digest 45 = .ok (.getfield 7, 3) := by decide +kernel
theorem dX6_digest_48 : decode cX6_digest 48 = .ok (.iload_n 1, 1) := by decide +kernel
theorem dX6_digest_49 : decode cX6_digest 49 = .ok (.iaload, 1) := by decide +kernel
theorem dX6_digest_50 : decode cX6_digest 50 = .ok (.i2l, 1) := by decide +kernel
theorem dX6_digest_51 : decode cX6_digest 51 = .ok (.invokevirtual 244, 3) := by decide +kernel
theorem dX6_digest_54 : decode cX6_digest 54 = .ok (.iinc 1 1, 3) := by decide +kernel
theorem dX6_digest_57 : decode cX6_digest 57 = .ok (.goto (-19), 3) := by decide +kernel
theorem dX6_digest_60 : decode cX6_digest 60 = .ok (.iconst 0, 1) := by decide +kernel
theorem dX6_digest_61 : decode cX6_digest 61 = .ok (.istore_n 1, 1) := by decide +kernel
theorem dX6_digest_62 : decode cX6_digest 62 = .ok (.iload_n 1, 1) := by decide +kernel
theorem dX6_digest_63 : decode cX6_digest 63 = .ok (.iconst 3, 1) := by decide +kernel
theorem dX6_digest_64 : decode cX6_digest 64 = .ok (.if_icmp .ge 14, 3) := by decide +kernel
theorem dX6_digest_67 : decode cX6_digest 67 = .ok (.aload_n 0, 1) := by decide +kernel
theorem dX6_digest_68 : decode cX6_digest 68 = .ok (.iload_n 1, 1) := by decide +kernel
theorem dX6_digest_69 : decode cX6_digest 69 = .ok (.invokevirtual 250, 3) := by decide +kernel
theorem dX6_digest_72 : decode cX6_digest 72 = .ok (.iinc 1 1, 3) := by decide +kernel
theorem dX6_digest_75 : decode cX6_digest 75 = .ok (.goto (-13), 3) := by decide +kernel
theorem dX6_digest_78 : decode cX6_digest 78 = .ok (.iconst 0, 1) := by decide +kernel
theorem dX6_digest_79 : decode cX6_digest 79 = .ok (.istore_n 1, 1) := by decide +kernel
theorem dX6_digest_80 : decode cX6_digest 80 = .ok (.iload_n 1, 1) := by decide +kernel
theorem dX6_digest_81 : decode cX6_digest 81 = .ok (.bipush 12, 2) := by decide +kernel
theorem dX6_digest_83 : decode cX6_digest 83 = .ok (.if_icmp .ge 23, 3) := by decide +kernel
theorem dX6_digest_86 : decode cX6_digest 86 = .ok (.aload_n 0, 1) := by decide +kernel
theorem dX6_digest_87 : decode cX6_digest 87 = .ok (.aload_n 0, 1) := by decide +kernel
theorem dX6_digest_88 : decode cX6_digest 88 = .ok (.getfield 7, 3) := by decide +kernel
theorem dX6_digest_91 : decode cX6_digest 91 = .ok (.bipush 38, 2) := by decide +kernel
theorem dX6_digest_93 : decode cX6_digest 93 = .ok (.iload_n 1, 1) := by decide +kernel
theorem dX6_digest_94 : decode cX6_digest 94 = .ok (.iadd, 1) := by decide +kernel
theorem dX6_digest_95 : decode cX6_digest 95 = .ok (.iaload, 1) := by decide +kernel
theorem dX6_digest_96 : decode cX6_digest 96 = .ok (.i2l, 1) := by decide +kernel
theorem dX6_digest_97 : decode cX6_digest 97 = .ok (.invokevirtual 244, 3) := by decide +kernel
theorem dX6_digest_100 : decode cX6_digest 100 = .ok (.iinc 1 1, 3) := by decide +kernel
theorem dX6_digest_103 : decode cX6_digest 103 = .ok (.goto (-23), 3) := by decide +kernel
theorem dX6_digest_106 : decode cX6_digest 106 = .ok (.aload_n 0, 1) := by decide +kernel
theorem dX6_digest_107 : decode cX6_digest 107 = .ok (.aload_n 0, 1) := by decide +kernel
theorem dX6_digest_108 : decode cX6_digest 108 = .ok (.invokevirtual 227, 3) := by decide +kernel
theorem dX6_digest_111 : decode cX6_digest 111 = .ok (.i2l, 1) := by decide +kernel
theorem dX6_digest_112 : decode cX6_digest 112 = .ok (.invokevirtual 244, 3) := by decide +kernel
theorem dX6_digest_115 : decode cX6_digest 115 = .ok (.aload_n 0, 1) := by decide +kernel
theorem dX6_digest_116 : decode cX6_digest 116 = .ok (.aload_n 0, 1) := by decide +kernel
theorem dX6_digest_117 : decode cX6_digest 117 = .ok (.invokevirtual 230, 3) := by decide +kernel
theorem dX6_digest_120 : decode cX6_digest 120 = .ok (.invokestatic 253, 3) := by decide +kernel
theorem dX6_digest_123 : decode cX6_digest 123 = .ok (.invokevirtual 244, 3) := by decide +kernel
theorem dX6_digest_126 : decode cX6_digest 126 = .ok (.aload_n 0, 1) := by decide +kernel
theorem dX6_digest_127 : decode cX6_digest 127 = .ok (.aload_n 0, 1) := by decide +kernel
theorem dX6_digest_128 : decode cX6_digest 128 = .ok (.invokevirtual 234, 3) := by decide +kernel
theorem dX6_digest_131 : decode cX6_digest 131 = .ok (.invokestatic 259, 3) := by decide +kernel
theorem dX6_digest_134 : decode cX6_digest 134 = .ok (.i2l, 1) := by decide +kernel
theorem dX6_digest_135 : decode cX6_digest 135 = .ok (.invokevirtual 244, 3) := by decide +kernel
theorem dX6_digest_138 : decode cX6_digest 138 = .ok (.aload_n 0, 1) := by decide +kernel
theorem dX6_digest_139 : decode cX6_digest 139 = .ok (.aload_n 0, 1) := by decide +kernel
theorem dX6_digest_140 : decode cX6_digest 140 = .ok (.getfield 189, 3) := by decide +kernel
theorem dX6_digest_143 : decode cX6_digest 143 = .ok (.ifCond .eq 7, 3) := by decide +kernel
theorem dX6_digest_146 : decode cX6_digest 146 = .ok (.lconst 1, 1) := by decide +kernel
theorem dX6_digest_147 : decode cX6_digest 147 = .ok (.goto 4, 3) := by decide +kernel
theorem dX6_digest_150 : decode cX6_digest 150 = .ok (.lconst 0, 1) := by decide +kernel
theorem dX6_digest_151 : decode cX6_digest 151 = .ok (.invokevirtual 244, 3) := by decide +kernel
theorem dX6_digest_154 : decode cX6_digest 154 = .ok (.aload_n 0, 1) := by decide +kernel
theorem dX6_digest_155 : decode cX6_digest 155 = .ok (.aload_n 0, 1) := by decide +kernel
theorem dX6_digest_156 : decode cX6_digest 156 = .ok (.getfield 153, 3) := by decide +kernel
theorem dX6_digest_159 : decode cX6_digest 159 = .ok (.i2l, 1) := by decide +kernel
theorem dX6_digest_160 : decode cX6_digest 160 = .ok (.invokevirtual 244, 3) := by decide +kernel
theorem dX6_digest_163 : decode cX6_digest 163 = .ok (.iconst 0, 1) := by decide +kernel
theorem dX6_digest_164 : decode cX6_digest 164 = .ok (.istore_n 1, 1) := by decide +kernel
theorem dX6_digest_165 : decode cX6_digest 165 = .ok (.iload_n 1, 1) := by decide +kernel
theorem dX6_digest_166 : decode cX6_digest 166 = .ok (.aload_n 0, 1) := by decide +kernel
theorem dX6_digest_167 : decode cX6_digest 167 = .ok (.getfield 153, 3) := by decide +kernel
theorem dX6_digest_170 : decode cX6_digest 170 = .ok (.if_icmp .ge 20, 3) := by decide +kernel
theorem dX6_digest_173 : decode cX6_digest 173 = .ok (.aload_n 0, 1) := by decide +kernel
theorem dX6_digest_174 : decode cX6_digest 174 = .ok (.aload_n 0, 1) := by decide +kernel
theorem dX6_digest_175 : decode cX6_digest 175 = .ok (.getfield 25, 3) := by decide +kernel
theorem dX6_digest_178 : decode cX6_digest 178 = .ok (.iload_n 1, 1) := by decide +kernel
theorem dX6_digest_179 : decode cX6_digest 179 = .ok (.iaload, 1) := by decide +kernel
theorem dX6_digest_180 : decode cX6_digest 180 = .ok (.i2l, 1) := by decide +kernel
theorem dX6_digest_181 : decode cX6_digest 181 = .ok (.invokevirtual 244, 3) := by decide +kernel
theorem dX6_digest_184 : decode cX6_digest 184 = .ok (.iinc 1 1, 3) := by decide +kernel
theorem dX6_digest_187 : decode cX6_digest 187 = .ok (.goto (-22), 3) := by decide +kernel
theorem dX6_digest_190 : decode cX6_digest 190 = .ok (.aload_n 0, 1) := by decide +kernel
theorem dX6_digest_191 : decode cX6_digest 191 = .ok (.getfield 240, 3) := by decide +kernel
theorem dX6_digest_194 : decode cX6_digest 194 = .ok (.lreturn, 1) := by decide +kernel
