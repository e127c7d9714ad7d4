theorem dX6_readPart_40 : decode cX6_readPart 40 = .ok (.putfield 128, 3) := by decide +kernel
theorem dX6_readPart_43 : decode cX6_readPart 43 = .ok (.aload_n 0, 1) := by decide +kernel
theorem dX6_readPart_44 : decode cX6_readPart 44 = .ok (.aload_n 0, 1) := by decide +kernel
theorem dX6_readPart_45 : decode cX6_readPart 45 = .ok (.getfield 109, 3) := by decide +kernel
theorem dX6_readPart_48 : decode cX6_readPart 48 = .ok (.ifCond .ne 39, 3) := by decide +kernel
theorem dX6_readPart_51 : decode cX6_readPart 51 = .ok (.aload_n 0, 1) := by decide +kernel
theorem dX6_readPart_52 : decode cX6_readPart 52 = .ok (.getfield 128, 3) := by decide +kernel
theorem dX6_readPart_55 : decode cX6_readPart 55 = .ok (.bipush 117, 2) := by decide +kernel
theorem dX6_readPart_57 : decode cX6_readPart 57 = .ok (.if_icmp .eq 34, 3) := by decide +kernel
theorem dX6_readPart_60 : decode cX6_readPart 60 = .ok (.aload_n 0, 1) := by decide +kernel
theorem dX6_readPart_61 : decode cX6_readPart 61 = .ok (.getfield 128, 3) := by decide +kernel
theorem dX6_readPart_64 : decode cX6_readPart 64 = .ok (.bipush 111, 2) := by decide +kernel
theorem dX6_readPart_66 : decode cX6_readPart 66 = .ok (.if_icmp .eq 25, 3) := by decide +kernel
theorem dX6_readPart_69 : decode cX6_readPart 69 = .ok (.aload_n 0, 1) := by decide +kernel
theorem dX6_readPart_70 : decode cX6_readPart 70 = .ok (.getfield 128, 3) := by decide +kernel
theorem dX6_readPart_73 : decode cX6_readPart 73 = .ok (.bipush 114, 2) := by decide +kernel
theorem dX6_readPart_75 : decode cX6_readPart 75 = .ok (.if_icmp .eq 16, 3) := by decide +kernel
theorem dX6_readPart_78 : decode cX6_readPart 78 = .ok (.aload_n 0, 1) := by decide +kernel
theorem dX6_readPart_79 : decode cX6_readPart 79 = .ok (.getfield 128, 3) := by decide +kernel
theorem dX6_readPart_82 : decode cX6_readPart 82 = .ok (.bipush 120, 2) := by decide +kernel
theorem dX6_readPart_84 : decode cX6_readPart 84 = .ok (.if_icmp .eq 7, 3) := by decide +kernel
theorem dX6_readPart_87 : decode cX6_readPart 87 = .ok (.iconst 1, 1) := by decide +kernel
theorem dX6_readPart_88 : decode cX6_readPart 88 = .ok (.goto 4, 3) := by decide +kernel
theorem dX6_readPart_91 : decode cX6_readPart 91 = .ok (.iconst 0, 1) := by decide +kernel
theorem dX6_readPart_92 : decode cX6_readPart 92 = .ok (.putfield 109, 3) := by decide +kernel
theorem dX6_readPart_95 : decode cX6_readPart 95 = .ok (.aload_n 0, 1) := by decide +kernel
theorem dX6_readPart_96 : decode cX6_readPart 96 = .ok (.dup, 1) := by decide +kernel
theorem dX6_readPart_97 : decode cX6_readPart 97 = .ok (.getfield 106, 3) := by decide +kernel
theorem dX6_readPart_100 : decode cX6_readPart 100 = .ok (.aload_n 0, 1) := by decide +kernel
theorem dX6_readPart_101 : decode cX6_readPart 101 = .ok (.getfield 109, 3) := by decide +kernel
theorem dX6_readPart_104 : decode cX6_readPart 104 = .ok (.ifCond .eq 7, 3) := by decide +kernel
theorem dX6_readPart_107 : decode cX6_readPart 107 = .ok (.iconst 0, 1) := by decide +kernel
theorem dX6_readPart_108 : decode cX6_readPart 108 = .ok (.goto 4, 3) := by decide +kernel
theorem dX6_readPart_111 : decode cX6_readPart 111 = .ok (.iconst 1, 1) := by decide +kernel
theorem dX6_readPart_112 : decode cX6_readPart 112 = .ok (.iadd, 1) := by decide +kernel
theorem dX6_readPart_113 : decode cX6_readPart 113 = .ok (.putfield 106, 3) := by decide +kernel
theorem dX6_readPart_116 : decode cX6_readPart 116 = .ok (.aload_n 0, 1) := by decide +kernel
theorem dX6_readPart_117 : decode cX6_readPart 117 = .ok (.getfield 128, 3) := by decide +kernel
theorem dX6_readPart_120 : decode cX6_readPart 120 = .ok (.bipush 120, 2) := by decide +kernel
theorem dX6_readPart_122 : decode cX6_readPart 122 = .ok (.if_icmp .eq 61, 3) := by decide +kernel
theorem dX6_readPart_125 : decode cX6_readPart 125 = .ok (.aload_n 0, 1) := by decide +kernel
theorem dX6_readPart_126 : decode cX6_readPart 126 = .ok (.getfield 109, 3) := by decide +kernel
theorem dX6_readPart_129 : decode cX6_readPart 129 = .ok (.ifCond .ne 54, 3) := by decide +kernel
theorem dX6_readPart_132 : decode cX6_readPart 132 = .ok (.aload_n 0, 1) := by decide +kernel
theorem dX6_readPart_133 : decode cX6_readPart 133 = .ok (.aload_n 0, 1) := by decide +kernel
theorem dX6_readPart_134 : decode cX6_readPart 134 = .ok (.getfield 128, 3) := by decide +kernel
theorem dX6_readPart_137 : decode cX6_readPart 137 = .ok (.bipush 111, 2) := by decide +kernel
theorem dX6_readPart_139 : decode cX6_readPart 139 = .ok (.if_icmp .ne 8, 3) := by decide +kernel
theorem dX6_readPart_142 : decode cX6_readPart 142 = .ok (.bipush 20, 2) := by decide +kernel
theorem dX6_readPart_144 : decode cX6_readPart 144 = .ok (.goto 4, 3) := by decide +kernel
theorem dX6_readPart_147 : decode cX6_readPart 147 = .ok (.iconst 0, 1) := by decide +kernel
theorem dX6_readPart_148 : decode cX6_readPart 148 = .ok (.aload_n 0, 1) := by decide +kernel
theorem dX6_readPart_149 : decode cX6_readPart 149 = .ok (.getfield 128, 3) := by decide +kernel
theorem dX6_readPart_152 : decode cX6_readPart 152 = .ok (.bipush 117, 2) := by decide +kernel
theorem dX6_readPart_154 : decode cX6_readPart 154 = .ok (.if_icmp .ne 8, 3) := by decide +kernel
theorem dX6_readPart_157 : decode cX6_readPart 157 = .ok (.bipush 10, 2) := by decide +kernel
theorem dX6_readPart_159 : decode cX6_readPart 159 = .ok (.goto 21, 3) := by decide +kernel
theorem dX6_readPart_162 : decode cX6_readPart 162 = .ok (.aload_n 0, 1) := by decide +kernel
theorem dX6_readPart_163 : decode cX6_readPart 163 = .ok (.getfield 128, 3) := by decide +kernel
theorem dX6_readPart_166 : decode cX6_readPart 166 = .ok (.bipush 111, 2) := by decide +kernel
theorem dX6_readPart_168 : decode cX6_readPart 168 = .ok (.if_icmp .ne 9, 3) := by decide +kernel
theorem dX6_readPart_171 : decode cX6_readPart 171 = .ok (.sipush 150, 3) := by decide +kernel
theorem dX6_readPart_174 : decode cX6_readPart 174 = .ok (.goto 6, 3) := by decide +kernel
theorem dX6_readPart_177 : decode cX6_readPart 177 = .ok (.sipush 200, 3) := by decide +kernel
theorem dX6_readPart_180 : decode cX6_readPart 180 = .ok (.invokevirtual 131, 3) := by decide +kernel
theorem dX6_readPart_183 : decode cX6_readPart 183 = .ok (.return_, 1) := by decide +kernel
set_option maxRecDepth 20000 in
theorem ggX6_doesPart_X6_of : GoodIn wsX6_doesPart wsX6_of := goodIn_r _ [8] (by decide +kernel) (by decide +kernel)
set_option maxRecDepth 20000 in
theorem gX6_doesPart_X6_of : GoodIn wsX6_doesPart (va_wsS RX6 19 yX6_of wsX6_of) := goodIn_app (goodIn_of _ (by decide +kernel)) ggX6_doesPart_X6_of
set_option maxRecDepth 20000 in
theorem ggX6_doesPart_X6_climbs : GoodIn wsX6_doesPart wsX6_climbs := goodIn_r _ [12, 1, 13, 14, 7, 15, 16, 17, 18, 19, 5, 6, 8, 20, 21, 22, 23, 24, 25, 26, 27, 28, 29, 30, 31, 32, 33, 34, 35, 36, 37, 38, 39, 40, 41, 42, 43, 44, 45, 46, 47, 48, 49, 62, 63, 64, 65, 66, 67, 68, 69, 70, 71, 72, 73, 74, 75, 76, 77] (by decide +kernel) (by decide +kernel)
set_option maxRecDepth 20000 in
theorem gX6_doesPart_X6_climbs : GoodIn wsX6_doesPart (wsV RX6 100 RX6 yX6_climbs wsX6_climbs) := goodIn_app (goodIn_of _ (by decide +kernel)) ggX6_doesPart_X6_climbs
set_option maxRecDepth 20000 in
theorem ggX6_doesPart_X6_comes : GoodIn wsX6_doesPart wsX6_comes := goodIn_r _ [53, 1, 5, 6, 7, 8, 13, 14, 15, 16, 17, 18, 19, 20, 21, 22, 23, 24, 25, 26, 27, 28, 29, 30, 31, 32, 33, 34, 35, 36, 37, 38, 39, 40, 41, 42, 43, 44, 45, 46, 47, 48, 49, 62, 63, 64, 65, 66, 67, 68, 69, 70, 71, 72, 73, 74, 75, 76, 77] (by decide +kernel) (by decide +kernel)
set_option maxRecDepth 20000 in
theorem gX6_doesPart_X6_comes : GoodIn wsX6_doesPart (wsV RX6 86 RX6 yX6_comes wsX6_comes) := goodIn_app (goodIn_of _ (by decide +kernel)) ggX6_doesPart_X6_comes
set_option maxRecDepth 20000 in
theorem ggX6_doesPart_X6_goes : GoodIn wsX6_doesPart wsX6_goes := goodIn_r _ [57, 1, 58, 59, 60, 7, 61, 13, 14, 15, 5, 6, 8, 16, 17, 18, 19, 20, 21, 22, 23, 24, 25, 26, 27, 28, 29, 30, 31, 32, 33, 34, 35, 36, 37, 38, 39, 40, 41, 42, 43, 44, 45, 46, 47, 48, 49, 62, 63, 64, 65, 66, 67, 68, 69, 70, 71, 72, 73, 74, 75, 76, 77] (by decide +kernel) (by decide +kernel)
set_option maxRecDepth 20000 in
theorem gX6_doesPart_X6_goes : GoodIn wsX6_doesPart (wsV RX6 97 RX6 yX6_goes wsX6_goes) := goodIn_app (goodIn_of _ (by decide +kernel)) ggX6_doesPart_X6_goes
set_option maxRecDepth 20000 in
theorem ggX6_doesPart_X6_falls : GoodIn wsX6_doesPart wsX6_falls := goodIn_r _ [19, 1, 5, 6, 7, 8, 20, 21, 22, 23, 24, 25, 26, 27, 28, 29, 30, 31, 32, 33, 34, 35, 13, 14, 15, 36, 37, 38, 39, 40, 41, 42, 43, 44, 45, 46, 47, 48, 49, 62, 63, 64, 65, 66, 67, 68, 69, 70, 71, 72, 73, 74, 75, 76, 77] (by decide +kernel) (by decide +kernel)
set_option maxRecDepth 20000 in
theorem gX6_doesPart_X6_falls : GoodIn wsX6_doesPart (wsV RX6 83 RX6 yX6_falls wsX6_falls) := goodIn_app (goodIn_of _ (by decide +kernel)) ggX6_doesPart_X6_falls
theorem dX6_doesPart_0 : decode cX6_doesPart 0 = .ok (.aload_n 0, 1) := by decide +kernel
theorem dX6_doesPart_1 : decode cX6_doesPart 1 = .ok (.getfield 7, 3) := by decide +kernel
theorem dX6_doesPart_4 : decode cX6_doesPart 4 = .ok (.aload_n 0, 1) := by decide +kernel
theorem dX6_doesPart_5 : decode cX6_doesPart 5 = .ok (.getfield 125, 3) := by decide +kernel
theorem dX6_doesPart_8 : decode cX6_doesPart 8 = .ok (.bipush 6, 2) := by decide +kernel
theorem dX6_doesPart_10 : decode cX6_doesPart 10 = .ok (.invokestatic 19, 3) := by decide +kernel
theorem dX6_doesPart_13 : decode cX6_doesPart 13 = .ok (.iaload, 1) := by decide +kernel
theorem dX6_doesPart_14 : decode cX6_doesPart 14 = .ok (.istore_n 1, 1) := by decide +kernel
theorem dX6_doesPart_15 : decode cX6_doesPart 15 = .ok (.aload_n 0, 1) := by decide +kernel
theorem dX6_doesPart_16 : decode cX6_doesPart 16 = .ok (.getfield 128, 3) := by decide +kernel
theorem dX6_doesPart_19 : decode cX6_doesPart 19 = .ok (.bipush 114, 2) := by decide +kernel
theorem dX6_doesPart_21 : decode cX6_doesPart 21 = .ok (.if_icmp .eq 24, 3) := by decide +kernel
theorem dX6_doesPart_24 : decode cX6_doesPart 24 = .ok (.aload_n 0, 1) := by decide +kernel
theorem dX6_doesPart_25 : decode cX6_doesPart 25 = .ok (.getfield 128, 3) := by decide +kernel
theorem dX6_doesPart_28 : decode cX6_doesPart 28 = .ok (.bipush 111, 2) := by decide +kernel
theorem dX6_doesPart_30 : decode cX6_doesPart 30 = .ok (.if_icmp .ne 11, 3) := by decide +kernel
theorem dX6_doesPart_33 : decode cX6_doesPart 33 = .ok (.iload_n 1, 1) := by decide +kernel
theorem dX6_doesPart_34 : decode cX6_doesPart 34 = .ok (.iconst 3, 1) := by decide +kernel
theorem dX6_doesPart_35 : decode cX6_doesPart 35 = .ok (.if_icmp .ge 14, 3) := by decide +kernel
theorem dX6_doesPart_38 : decode cX6_doesPart 38 = .ok (.goto 7, 3) := by decide +kernel
theorem dX6_doesPart_41 : decode cX6_doesPart 41 = .ok (.iload_n 1, 1) := by decide +kernel
theorem dX6_doesPart_42 : decode cX6_doesPart 42 = .ok (.ifCond .le 7, 3) := by decide +kernel
theorem dX6_doesPart_45 : decode cX6_doesPart 45 = .ok (.iconst 1, 1) := by decide +kernel
theorem dX6_doesPart_46 : decode cX6_doesPart 46 = .ok (.goto 4, 3) := by decide +kernel
theorem dX6_doesPart_49 : decode cX6_doesPart 49 = .ok (.iconst 0, 1) := by decide +kernel
theorem dX6_doesPart_50 : decode cX6_doesPart 50 = .ok (.istore_n 2, 1) := by decide +kernel
theorem dX6_doesPart_51 : decode cX6_doesPart 51 = .ok (.iconst 0, 1) := by decide +kernel
theorem dX6_doesPart_52 : decode cX6_doesPart 52 = .ok (.istore_n 3, 1) := by decide +kernel
theorem dX6_doesPart_53 : decode cX6_doesPart 53 = .ok (.iload_n 2, 1) := by decide +kernel
theorem dX6_doesPart_54 : decode cX6_doesPart 54 = .ok (.ifCond .eq 29, 3) := by decide +kernel
theorem dX6_doesPart_57 : decode cX6_doesPart 57 = .ok (.aload_n 0, 1) := by decide +kernel
theorem dX6_doesPart_58 : decode cX6_doesPart 58 = .ok (.getfield 128, 3) := by decide +kernel
theorem dX6_doesPart_61 : decode cX6_doesPart 61 = .ok (.bipush 117, 2) := by decide +kernel
theorem dX6_doesPart_63 : decode cX6_doesPart 63 = .ok (.if_icmp .ne 20, 3) := by decide +kernel
theorem dX6_doesPart_66 : decode cX6_doesPart 66 = .ok (.aload_n 0, 1) := by decide +kernel
theorem dX6_doesPart_67 : decode cX6_doesPart 67 = .ok (.aload_n 0, 1) := by decide +kernel
theorem dX6_doesPart_68 : decode cX6_doesPart 68 = .ok (.getfield 125, 3) := by decide +kernel
theorem dX6_doesPart_71 : decode cX6_doesPart 71 = .ok (.iconst 0, 1) := by decide +kernel
theorem dX6_doesPart_72 : decode cX6_doesPart 72 = .ok (.aload_n 0, 1) := by decide +kernel
theorem dX6_doesPart_73 : decode cX6_doesPart 73 = .ok (.getfield 113, 3) := by decide +kernel
theorem dX6_doesPart_76 : decode cX6_doesPart 76 = .ok (.invokevirtual 100, 3) := by decide +kernel
theorem dX6_doesPart_79 : decode cX6_doesPart 79 = .ok (.istore_n 3, 1) := by decide +kernel
theorem dX6_doesPart_80 : decode cX6_doesPart 80 = .ok (.goto 98, 3) := by decide +kernel
theorem dX6_doesPart_83 : decode cX6_doesPart 83 = .ok (.iload_n 2, 1) := by decide +kernel
theorem dX6_doesPart_84 : decode cX6_doesPart 84 = .ok (.ifCond .eq 28, 3) := by decide +kernel
theorem dX6_doesPart_87 : decode cX6_doesPart 87 = .ok (.aload_n 0, 1) := by decide +kernel
theorem dX6_doesPart_88 : decode cX6_doesPart 88 = .ok (.getfield 128, 3) := by decide +kernel
theorem dX6_doesPart_91 : decode cX6_doesPart 91 = .ok (.bipush 111, 2) := by decide +kernel
theorem dX6_doesPart_93 : decode cX6_doesPart 93 = .ok (.if_icmp .ne 19, 3) := by decide +kernel
theorem dX6_doesPart_96 : decode cX6_doesPart 96 = .ok (.aload_n 0, 1) := by decide +kernel
theorem dX6_doesPart_97 : decode cX6_doesPart 97 = .ok (.aload_n 0, 1) := by decide +kernel
theorem dX6_doesPart_98 : decode cX6_doesPart 98 = .ok (.getfield 125, 3) := by decide +kernel
theorem dX6_doesPart_101 : decode cX6_doesPart 101 = .ok (.aload_n 0, 1) := by decide +kernel
theorem dX6_doesPart_102 : decode cX6_doesPart 102 = .ok (.getfield 113, 3) := by decide +kernel
theorem dX6_doesPart_105 : decode cX6_doesPart 105 = .ok (.invokevirtual 86, 3) := by decide +kernel
theorem dX6_doesPart_108 : decode cX6_doesPart 108 = .ok (.istore_n 3, 1) := by decide +kernel
theorem dX6_doesPart_109 : decode cX6_doesPart 109 = .ok (.goto 69, 3) := by decide +kernel
theorem dX6_doesPart_112 : decode cX6_doesPart 112 = .ok (.iload_n 2, 1) := by decide +kernel
theorem dX6_doesPart_113 : decode cX6_doesPart 113 = .ok (.ifCond .eq 27, 3) := by decide +kernel
theorem dX6_doesPart_116 : decode cX6_doesPart 116 = .ok (.aload_n 0, 1) := by decide +kernel
theorem dX6_doesPart_117 : decode cX6_doesPart 117 = .ok (.getfield 128, 3) := by decide +kernel
theorem dX6_doesPart_120 : decode cX6_doesPart 120 = .ok (.bipush 120, 2) := by decide +kernel
theorem dX6_doesPart_122 : decode cX6_doesPart 122 = .ok (.if_icmp .ne 18, 3) := by decide +kernel
theorem dX6_doesPart_125 : decode cX6_doesPart 125 = .ok (.aload_n 0, 1) := by decide +kernel
theorem dX6_doesPart_126 : decode cX6_doesPart 126 = .ok (.aload_n 0, 1) := by decide +kernel
theorem dX6_doesPart_127 : decode cX6_doesPart 127 = .ok (.getfield 125, 3) := by decide +kernel
theorem dX6_doesPart_130 : decode cX6_doesPart 130 = .ok (.iload_n 1, 1) := by decide +kernel
theorem dX6_doesPart_131 : decode cX6_doesPart 131 = .ok (.iconst 1, 1) := by decide +kernel
theorem dX6_doesPart_132 : decode cX6_doesPart 132 = .ok (.isub, 1) := by decide +kernel
theorem dX6_doesPart_133 : decode cX6_doesPart 133 = .ok (.invokevirtual 97, 3) := by decide +kernel
theorem dX6_doesPart_136 : decode cX6_doesPart 136 = .ok (.istore_n 3, 1) := by decide +kernel
theorem dX6_doesPart_137 : decode cX6_doesPart 137 = .ok (.goto 41, 3) := by decide +kernel
theorem dX6_doesPart_140 : decode cX6_doesPart 140 = .ok (.iload_n 2, 1) := by decide +kernel
theorem dX6_doesPart_141 : decode cX6_doesPart 141 = .ok (.ifCond .eq 37, 3) := by decide +kernel
theorem dX6_doesPart_144 : decode cX6_doesPart 144 = .ok (.aload_n 0, 1) := by decide +kernel
theorem dX6_doesPart_145 : decode cX6_doesPart 145 = .ok (.getfield 7, 3) := by decide +kernel
theorem dX6_doesPart_148 : decode cX6_doesPart 148 = .ok (.aload_n 0, 1) := by decide +kernel
theorem dX6_doesPart_149 : decode cX6_doesPart 149 = .ok (.getfield 125, 3) := by decide +kernel
theorem dX6_doesPart_152 : decode cX6_doesPart 152 = .ok (.iconst 5, 1) := by decide +kernel
theorem dX6_doesPart_153 : decode cX6_doesPart 153 = .ok (.invokestatic 19, 3) := by decide +kernel
theorem dX6_doesPart_156 : decode cX6_doesPart 156 = .ok (.aload_n 0, 1) := by decide +kernel
theorem dX6_doesPart_157 : decode cX6_doesPart 157 = .ok (.getfield 113, 3) := by decide +kernel
theorem dX6_doesPart_160 : decode cX6_doesPart 160 = .ok (.iastore, 1) := by decide +kernel
theorem dX6_doesPart_161 : decode cX6_doesPart 161 = .ok (.aload_n 0, 1) := by decide +kernel
theorem dX6_doesPart_162 : decode cX6_doesPart 162 = .ok (.aload_n 0, 1) := by decide +kernel
theorem dX6_doesPart_163 : decode cX6_doesPart 163 = .ok (.getfield 125, 3) := by decide +kernel
theorem dX6_doesPart_166 : decode cX6_doesPart 166 = .ok (.invokevirtual 83, 3) := by decide +kernel
theorem dX6_doesPart_169 : decode cX6_doesPart 169 = .ok (.ifCond .eq 7, 3) := by decide +kernel
theorem dX6_doesPart_172 : decode cX6_doesPart 172 = .ok (.iconst 1, 1) := by decide +kernel
theorem dX6_doesPart_173 : decode cX6_doesPart 173 = .ok (.goto 4, 3) := by decide +kernel
theorem dX6_doesPart_176 : decode cX6_doesPart 176 = .ok (.iconst 0, 1) := by decide +kernel
theorem dX6_doesPart_177 : decode cX6_doesPart 177 = .ok (.istore_n 3, 1) := by decide +kernel
theorem dX6_doesPart_178 : decode cX6_doesPart 178 = .ok (.iload_n 2, 1) := by decide +kernel
theorem dX6_doesPart_179 : decode cX6_doesPart 179 = .ok (.ireturn, 1) := by decide +kernel
set_option maxRecDepth 20000 in
theorem ggX6_goesThrough_X6_readPart : GoodIn wsX6_goesThrough wsX6_readPart := goodIn_r _ [8, 9, 1, 3, 10, 11, 2, 12, 13, 14, 7, 15, 16, 17, 18, 19, 20, 21, 22, 23, 24, 25, 26, 27, 28, 29, 30, 92, 93, 94, 95, 96, 97, 98, 99, 100, 101, 102, 103, 104, 105, 106, 107] (by decide +kernel) (by decide +kernel)
set_option maxRecDepth 20000 in
theorem gX6_goesThrough_X6_readPart : GoodIn wsX6_goesThrough (wsV RX6 134 RX6 yX6_readPart wsX6_readPart) := goodIn_app (goodIn_of _ (by decide +kernel)) ggX6_goesThrough_X6_readPart
set_option maxRecDepth 20000 in
theorem ggX6_goesThrough_X6_doesPart : GoodIn wsX6_goesThrough wsX6_doesPart := goodIn_r _ [34, 35, 9, 11, 23, 36, 37, 7, 38, 39, 40, 41, 42, 43, 44, 45, 46, 47, 48, 49, 50, 51, 52, 53, 54, 55, 56, 57, 58, 59, 60, 61, 62, 63, 64, 65, 66, 67, 68, 69, 70, 71, 72, 73, 74, 75, 76, 77, 78, 79, 80, 81, 82, 83, 84, 85, 86, 87, 88, 89, 90, 91, 92, 93, 94, 95, 96, 97, 98, 99, 100, 101, 102, 103, 104, 105, 106, 107] (by decide +kernel) (by decide +kernel)
set_option maxRecDepth 20000 in
theorem gX6_goesThrough_X6_doesPart : GoodIn wsX6_goesThrough (wsV RX6 137 RX6 yX6_doesPart wsX6_doesPart) := goodIn_app (goodIn_of _ (by decide +kernel)) ggX6_goesThrough_X6_doesPart
set_option maxRecDepth 20000 in
theorem ggX6_goesThrough_X6_sign : GoodIn wsX6_goesThrough wsX6_sign := goodIn_r _ [15, 1, 3, 10, 2, 16, 17, 7, 18, 92, 93, 94, 95, 96, 97, 98, 99, 100, 101, 102, 103, 104, 105, 106, 107] (by decide +kernel) (by decide +kernel)
set_option maxRecDepth 20000 in
theorem gX6_goesThrough_X6_sign : GoodIn wsX6_goesThrough (wsV RX6 119 RX6 yX6_sign wsX6_sign) := goodIn_app (goodIn_of _ (by decide +kernel)) ggX6_goesThrough_X6_sign
theorem dX6_goesThrough_0 : decode cX6_goesThrough 0 = .ok (.aload_n 0, 1) := by decide +kernel
theorem dX6_goesThrough_1 : decode cX6_goesThrough 1 = .ok (.iconst 0, 1) := by decide +kernel
theorem dX6_goesThrough_2 : decode cX6_goesThrough 2 = .ok (.putfield 106, 3) := by decide +kernel
theorem dX6_goesThrough_5 : decode cX6_goesThrough 5 = .ok (.aload_n 0, 1) := by decide +kernel
theorem dX6_goesThrough_6 : decode cX6_goesThrough 6 = .ok (.iconst 0, 1) := by decide +kernel
theorem dX6_goesThrough_7 : decode cX6_goesThrough 7 = .ok (.putfield 109, 3) := by decide +kernel
theorem dX6_goesThrough_10 : decode cX6_goesThrough 10 = .ok (.iconst 0, 1) := by decide +kernel
theorem dX6_goesThrough_11 : decode cX6_goesThrough 11 = .ok (.istore_n 2, 1) := by decide +kernel
theorem dX6_goesThrough_12 : decode cX6_goesThrough 12 = .ok (.iconst 1, 1) := by decide +kernel
theorem dX6_goesThrough_13 : decode cX6_goesThrough 13 = .ok (.istore_n 3, 1) := by decide +kernel
theorem dX6_goesThrough_14 : decode cX6_goesThrough 14 = .ok (.iload_n 3, 1) := by decide +kernel
theorem dX6_goesThrough_15 : decode cX6_goesThrough 15 = .ok (.ifCond .eq 94, 3) := by decide +kernel
theorem dX6_goesThrough_18 : decode cX6_goesThrough 18 = .ok (.aload_n 0, 1) := by decide +kernel
theorem dX6_goesThrough_19 : decode cX6_goesThrough 19 = .ok (.invokevirtual 134, 3) := by decide +kernel
theorem dX6_goesThrough_22 : decode cX6_goesThrough 22 = .ok (.aload_n 0, 1) := by decide +kernel
theorem dX6_goesThrough_23 : decode cX6_goesThrough 23 = .ok (.getfield 109, 3) := by decide +kernel
theorem dX6_goesThrough_26 : decode cX6_goesThrough 26 = .ok (.ifCond .ne 18, 3) := by decide +kernel
theorem dX6_goesThrough_29 : decode cX6_goesThrough 29 = .ok (.iload_n 1, 1) := by decide +kernel
theorem dX6_goesThrough_30 : decode cX6_goesThrough 30 = .ok (.ifCond .eq 10, 3) := by decide +kernel
theorem dX6_goesThrough_33 : decode cX6_goesThrough 33 = .ok (.aload_n 0, 1) := by decide +kernel
theorem dX6_goesThrough_34 : decode cX6_goesThrough 34 = .ok (.invokevirtual 137, 3) := by decide +kernel
theorem dX6_goesThrough_37 : decode cX6_goesThrough 37 = .ok (.ifCond .eq 7, 3) := by decide +kernel
theorem dX6_goesThrough_40 : decode cX6_goesThrough 40 = .ok (.iconst 1, 1) := by decide +kernel
theorem dX6_goesThrough_41 : decode cX6_goesThrough 41 = .ok (.goto 4, 3) := by decide +kernel
theorem dX6_goesThrough_44 : decode cX6_goesThrough 44 = .ok (.iconst 0, 1) := by decide +kernel
theorem dX6_goesThrough_45 : decode cX6_goesThrough 45 = .ok (.istore_n 3, 1) := by decide +kernel
theorem dX6_goesThrough_46 : decode cX6_goesThrough 46 = .ok (.iload_n 2, 1) := by decide +kernel
theorem dX6_goesThrough_47 : decode cX6_goesThrough 47 = .ok (.iload_n 3, 1) := by decide +kernel
theorem dX6_goesThrough_48 : decode cX6_goesThrough 48 = .ok (.ifCond .eq 7, 3) := by decide +kernel
theorem dX6_goesThrough_51 : decode cX6_goesThrough 51 = .ok (.iconst 1, 1) := by decide +kernel
theorem dX6_goesThrough_52 : decode cX6_goesThrough 52 = .ok (.goto 4, 3) := by decide +kernel
theorem dX6_goesThrough_55 : decode cX6_goesThrough 55 = .ok (.iconst 0, 1) := by decide +kernel
theorem dX6_goesThrough_56 : decode cX6_goesThrough 56 = .ok (.iadd, 1) := by decide +kernel
theorem dX6_goesThrough_57 : decode cX6_goesThrough 57 = .ok (.istore_n 2, 1) := by decide +kernel
theorem dX6_goesThrough_58 : decode cX6_goesThrough 58 = .ok (.iload_n 3, 1) := by decide +kernel
theorem dX6_goesThrough_59 : decode cX6_goesThrough 59 = .ok (.ifCond .eq 18, 3) := by decide +kernel
theorem dX6_goesThrough_62 : decode cX6_goesThrough 62 = .ok (.aload_n 0, 1) := by decide +kernel
theorem dX6_goesThrough_63 : decode cX6_goesThrough 63 = .ok (.getfield 106, 3) := by decide +kernel
theorem dX6_goesThrough_66 : decode cX6_goesThrough 66 = .ok (.aload_n 0, 1) := by decide +kernel
theorem dX6_goesThrough_67 : decode cX6_goesThrough 67 = .ok (.getfield 103, 3) := by decide +kernel
theorem dX6_goesThrough_70 : decode cX6_goesThrough 70 = .ok (.if_icmp .ge 7, 3) := by decide +kernel
theorem dX6_goesThrough_73 : decode cX6_goesThrough 73 = .ok (.iconst 1, 1) := by decide +kernel
theorem dX6_goesThrough_74 : decode cX6_goesThrough 74 = .ok (.goto 4, 3) := by decide +kernel
theorem dX6_goesThrough_77 : decode cX6_goesThrough 77 = .ok (.iconst 0, 1) := by decide +kernel
theorem dX6_goesThrough_78 : decode cX6_goesThrough 78 = .ok (.istore_n 3, 1) := by decide +kernel
theorem dX6_goesThrough_79 : decode cX6_goesThrough 79 = .ok (.iload_n 3, 1) := by decide +kernel
theorem dX6_goesThrough_80 : decode cX6_goesThrough 80 = .ok (.ifCond .eq (-66), 3) := by decide +kernel
theorem dX6_goesThrough_83 : decode cX6_goesThrough 83 = .ok (.aload_n 0, 1) := by decide +kernel
theorem dX6_goesThrough_84 : decode cX6_goesThrough 84 = .ok (.bipush 59, 2) := by decide +kernel
theorem dX6_goesThrough_86 : decode cX6_goesThrough 86 = .ok (.bipush 59, 2) := by decide +kernel
theorem dX6_goesThrough_88 : decode cX6_goesThrough 88 = .ok (.invokevirtual 119, 3) := by decide +kernel
theorem dX6_goesThrough_91 : decode cX6_goesThrough 91 = .ok (.istore 4, 2) := by decide +kernel
theorem dX6_goesThrough_93 : decode cX6_goesThrough 93 = .ok (.aload_n 0, 1) := by decide +kernel
theorem dX6_goesThrough_94 : decode cX6_goesThrough 94 = .ok (.getfield 109, 3) := by decide +kernel
theorem dX6_goesThrough_97 : decode cX6_goesThrough 97 = .ok (.ifCond .ne 7, 3) := by decide +kernel
theorem dX6_goesThrough_100 : decode cX6_goesThrough 100 = .ok (.iconst 1, 1) := by decide +kernel
theorem dX6_goesThrough_101 : decode cX6_goesThrough 101 = .ok (.goto 4, 3) := by decide +kernel
theorem dX6_goesThrough_104 : decode cX6_goesThrough 104 = .ok (.iconst 0, 1) := by decide +kernel
theorem dX6_goesThrough_105 : decode cX6_goesThrough 105 = .ok (.istore_n 3, 1) := by decide +kernel
theorem dX6_goesThrough_106 : decode cX6_goesThrough 106 = .ok (.goto (-92), 3) := by decide +kernel
theorem dX6_goesThrough_109 : decode cX6_goesThrough 109 = .ok (.iload_n 2, 1) := by decide +kernel
theorem dX6_goesThrough_110 : decode cX6_goesThrough 110 = .ok (.ireturn, 1) := by decide +kernel
set_option maxRecDepth 20000 in
theorem ggX6_firstError_X6_goesThrough : GoodIn wsX6_firstError wsX6_goesThrough := goodIn_r _ [9, 3, 2, 4, 10, 11, 12, 8, 13, 14, 15, 16, 17, 18, 19, 20, 21, 22, 23, 24, 25, 26, 27, 28, 29, 30, 31, 32, 33, 34, 35, 36, 37, 38, 39, 40, 41, 42, 43, 44, 45, 46, 47, 48, 49, 50, 51, 52, 53, 54, 55, 56, 57, 58, 59, 60, 61, 62, 63, 64, 65, 66, 67, 68, 69, 70, 71, 72, 73, 74, 75, 76, 77, 78, 79, 80, 81, 82, 83, 84, 85, 86, 87, 88, 89, 90, 91, 92, 93, 94, 95, 96, 97, 98, 99, 100, 101, 102, 103, 104, 105, 106, 107, 108, 109, 110, 111, 112] (by decide +kernel) (by decide +kernel)
set_option maxRecDepth 20000 in
theorem gX6_firstError_X6_goesThrough : GoodIn wsX6_firstError (wsV RX6 141 RX6 yX6_goesThrough wsX6_goesThrough) := goodIn_app (goodIn_of _ (by decide +kernel)) ggX6_firstError_X6_goesThrough
theorem dX6_firstError_0 : decode cX6_firstError 0 = .ok (.aload_n 0, 1) := by decide +kernel
theorem dX6_firstError_1 : decode cX6_firstError 1 = .ok (.iconst 0, 1) := by decide +kernel
theorem dX6_firstError_2 : decode cX6_firstError 2 = .ok (.putfield 23, 3) := by decide +kernel
theorem dX6_firstError_5 : decode cX6_firstError 5 = .ok (.aload_n 0, 1) := by decide +kernel
theorem dX6_firstError_6 : decode cX6_firstError 6 = .ok (.iconst 0, 1) := by decide +kernel
theorem dX6_firstError_7 : decode cX6_firstError 7 = .ok (.invokevirtual 141, 3) := by decide +kernel
theorem dX6_firstError_10 : decode cX6_firstError 10 = .ok (.istore_n 1, 1) := by decide +kernel
theorem dX6_firstError_11 : decode cX6_firstError 11 = .ok (.aload_n 0, 1) := by decide +kernel
theorem dX6_firstError_12 : decode cX6_firstError 12 = .ok (.getfield 109, 3) := by decide +kernel
theorem dX6_firstError_15 : decode cX6_firstError 15 = .ok (.ifCond .eq 10, 3) := by decide +kernel
theorem dX6_firstError_18 : decode cX6_firstError 18 = .ok (.aload_n 0, 1) := by decide +kernel
theorem dX6_firstError_19 : decode cX6_firstError 19 = .ok (.getfield 106, 3) := by decide +kernel
theorem dX6_firstError_22 : decode cX6_firstError 22 = .ok (.goto 7, 3) := by decide +kernel
theorem dX6_firstError_25 : decode cX6_firstError 25 = .ok (.aload_n 0, 1) := by decide +kernel
theorem dX6_firstError_26 : decode cX6_firstError 26 = .ok (.getfield 103, 3) := by decide +kernel
theorem dX6_firstError_29 : decode cX6_firstError 29 = .ok (.ireturn, 1) := by decide +kernel
set_option maxRecDepth 20000 in
theorem ggX6_play_X6_goesThrough : GoodIn wsX6_play wsX6_goesThrough := goodIn_r _ [7, 8, 1, 2, 9, 10, 11, 6, 12, 13, 14, 15, 16, 17, 18, 19, 20, 21, 22, 23, 24, 25, 26, 27, 28, 29, 30, 31, 32, 33, 34, 35, 36, 37, 38, 39, 40, 41, 42, 43, 44, 45, 46, 47, 48, 49, 50, 51, 52, 53, 54, 55, 56, 57, 58, 59, 60, 61, 62, 63, 64, 65, 66, 67, 68, 69, 70, 71, 72, 73, 74, 75, 76, 77, 78, 79, 80, 81, 82, 83, 84, 85, 86, 87, 88, 89, 90, 91, 92, 93, 94, 95, 107, 108, 109, 110, 111, 112, 113, 114, 115, 116, 117, 118, 119, 120, 121, 122] (by decide +kernel) (by decide +kernel)
set_option maxRecDepth 20000 in
theorem gX6_play_X6_goesThrough : GoodIn wsX6_play (wsV RX6 141 RX6 yX6_goesThrough wsX6_goesThrough) := goodIn_app (goodIn_of _ (by decide +kernel)) ggX6_play_X6_goesThrough
set_option maxRecDepth 20000 in
theorem ggX6_play_X6_holds : GoodIn wsX6_play wsX6_holds := goodIn_r _ [99, 100, 107, 108, 109, 110, 111, 112, 113, 114, 115, 116, 117, 118, 119, 120, 121, 122] (by decide +kernel) (by decide +kernel)
set_option maxRecDepth 20000 in
theorem gX6_play_X6_holds : GoodIn wsX6_play (wsV RX6 77 RX6 yX6_holds wsX6_holds) := goodIn_app (goodIn_of _ (by decide +kernel)) ggX6_play_X6_holds
set_option maxRecDepth 20000 in
theorem ggX6_play_X6_save : GoodIn wsX6_play wsX6_save := goodIn_r _ [104, 105, 106, 39, 107, 108, 109, 110, 111, 112, 113, 114, 115, 116, 117, 118, 119, 120, 121, 122] (by decide +kernel) (by decide +kernel)
set_option maxRecDepth 20000 in
theorem gX6_play_X6_save : GoodIn wsX6_play (wsV RX6 80 RX6 yX6_save wsX6_save) := goodIn_app (goodIn_of _ (by decide +kernel)) ggX6_play_X6_save
theorem dX6_play_0 : decode cX6_play 0 = .ok (.aload_n 0, 1) := by decide +kernel
theorem dX6_play_1 : decode cX6_play 1 = .ok (.iconst 0, 1) := by decide +kernel
theorem dX6_play_2 : decode cX6_play 2 = .ok (.invokevirtual 141, 3) := by decide +kernel
theorem dX6_play_5 : decode cX6_play 5 = .ok (.istore_n 1, 1) := by decide +kernel
theorem dX6_play_6 : decode cX6_play 6 = .ok (.aload_n 0, 1) := by decide +kernel
theorem dX6_play_7 : decode cX6_play 7 = .ok (.aload_n 0, 1) := by decide +kernel
theorem dX6_play_8 : decode cX6_play 8 = .ok (.getfield 109, 3) := by decide +kernel
theorem dX6_play_11 : decode cX6_play 11 = .ok (.ifCond .eq 7, 3) := by decide +kernel
theorem dX6_play_14 : decode cX6_play 14 = .ok (.iconst 1, 1) := by decide +kernel
theorem dX6_play_15 : decode cX6_play 15 = .ok (.goto 4, 3) := by decide +kernel
theorem dX6_play_18 : decode cX6_play 18 = .ok (.iconst 0, 1) := by decide +kernel
theorem dX6_play_19 : decode cX6_play 19 = .ok (.invokevirtual 77, 3) := by decide +kernel
theorem dX6_play_22 : decode cX6_play 22 = .ok (.ifCond .ne 5, 3) := by decide +kernel
theorem dX6_play_25 : decode cX6_play 25 = .ok (.iconst 0, 1) := by decide +kernel
theorem dX6_play_26 : decode cX6_play 26 = .ok (.ireturn, 1) := by decide +kernel
theorem dX6_play_27 : decode cX6_play 27 = .ok (.aload_n 0, 1) := by decide +kernel
theorem dX6_play_28 : decode cX6_play 28 = .ok (.invokevirtual 80, 3) := by decide +kernel
theorem dX6_play_31 : decode cX6_play 31 = .ok (.aload_n 0, 1) := by decide +kernel
theorem dX6_play_32 : decode cX6_play 32 = .ok (.iconst 1, 1) := by decide +kernel
theorem dX6_play_33 : decode cX6_play 33 = .ok (.invokevirtual 141, 3) := by decide +kernel
theorem dX6_play_36 : decode cX6_play 36 = .ok (.istore_n 1, 1) := by decide +kernel
theorem dX6_play_37 : decode cX6_play 37 = .ok (.aload_n 0, 1) := by decide +kernel
theorem dX6_play_38 : decode cX6_play 38 = .ok (.iconst 0, 1) := by decide +kernel
theorem dX6_play_39 : decode cX6_play 39 = .ok (.putfield 103, 3) := by decide +kernel
theorem dX6_play_42 : decode cX6_play 42 = .ok (.iload_n 1, 1) := by decide +kernel
theorem dX6_play_43 : decode cX6_play 43 = .ok (.ireturn, 1) := by decide +kernel
set_option maxRecDepth 20000 in
theorem ggX6_undo_X6_holds : GoodIn wsX6_undo wsX6_holds := goodIn_r _ [8, 9, 10, 11, 12, 13, 14, 15, 16, 17, 18, 19, 20, 21, 22, 23, 24, 25] (by decide +kernel) (by decide +kernel)
set_option maxRecDepth 20000 in
theorem gX6_undo_X6_holds : GoodIn wsX6_undo (wsV RX6 77 RX6 yX6_holds wsX6_holds) := goodIn_app (goodIn_of _ (by decide +kernel)) ggX6_undo_X6_holds
theorem dX6_undo_0 : decode cX6_undo 0 = .ok (.aload_n 0, 1) := by decide +kernel
theorem dX6_undo_1 : decode cX6_undo 1 = .ok (.aload_n 0, 1) := by decide +kernel
theorem dX6_undo_2 : decode cX6_undo 2 = .ok (.getfield 35, 3) := by decide +kernel
theorem dX6_undo_5 : decode cX6_undo 5 = .ok (.ifCond .le 7, 3) := by decide +kernel
theorem dX6_undo_8 : decode cX6_undo 8 = .ok (.iconst 0, 1) := by decide +kernel
theorem dX6_undo_9 : decode cX6_undo 9 = .ok (.goto 4, 3) := by decide +kernel
theorem dX6_undo_12 : decode cX6_undo 12 = .ok (.iconst 1, 1) := by decide +kernel
theorem dX6_undo_13 : decode cX6_undo 13 = .ok (.invokevirtual 77, 3) := by decide +kernel
theorem dX6_undo_16 : decode cX6_undo 16 = .ok (.ifCond .ne 5, 3) := by decide +kernel
theorem dX6_undo_19 : decode cX6_undo 19 = .ok (.iconst 0, 1) := by decide +kernel
theorem dX6_undo_20 : decode cX6_undo 20 = .ok (.ireturn, 1) := by decide +kernel
theorem dX6_undo_21 : decode cX6_undo 21 = .ok (.aload_n 0, 1) := by decide +kernel
theorem dX6_undo_22 : decode cX6_undo 22 = .ok (.dup, 1) := by decide +kernel
theorem dX6_undo_23 : decode cX6_undo 23 = .ok (.getfield 35, 3) := by decide +kernel
theorem dX6_undo_26 : decode cX6_undo 26 = .ok (.iconst 1, 1) := by decide +kernel
theorem dX6_undo_27 : decode cX6_undo 27 = .ok (.isub, 1) := by decide +kernel
theorem dX6_undo_28 : decode cX6_undo 28 = .ok (.putfield 35, 3) := by decide +kernel
theorem dX6_undo_31 : decode cX6_undo 31 = .ok (.iconst 0, 1) := by decide +kernel
theorem dX6_undo_32 : decode cX6_undo 32 = .ok (.istore_n 1, 1) := by decide +kernel
theorem dX6_undo_33 : decode cX6_undo 33 = .ok (.iload_n 1, 1) := by decide +kernel
theorem dX6_undo_34 : decode cX6_undo 34 = .ok (.bipush 58, 2) := by decide +kernel
theorem dX6_undo_36 : decode cX6_undo 36 = .ok (.if_icmp .ge 29, 3) := by decide +kernel
theorem dX6_undo_39 : decode cX6_undo 39 = .ok (.aload_n 0, 1) := by decide +kernel
theorem dX6_undo_40 : decode cX6_undo 40 = .ok (.getfield 7, 3) := by decide +kernel
theorem dX6_undo_43 : decode cX6_undo 43 = .ok (.iload_n 1, 1) := by decide +kernel
theorem dX6_undo_44 : decode cX6_undo 44 = .ok (.aload_n 0, 1) := by decide +kernel
theorem dX6_undo_45 : decode cX6_undo 45 = .ok (.getfield 13, 3) := by decide +kernel
theorem dX6_undo_48 : decode cX6_undo 48 = .ok (.bipush 58, 2) := by decide +kernel
theorem dX6_undo_50 : decode cX6_undo 50 = .ok (.aload_n 0, 1) := by decide +kernel
theorem dX6_undo_51 : decode cX6_undo 51 = .ok (.getfield 35, 3) := by decide +kernel
theorem dX6_undo_54 : decode cX6_undo 54 = .ok (.imul, 1) := by decide +kernel
theorem dX6_undo_55 : decode cX6_undo 55 = .ok (.iload_n 1, 1) := by decide +kernel
theorem dX6_undo_56 : decode cX6_undo 56 = .ok (.iadd, 1) := by decide +kernel
theorem dX6_undo_57 : decode cX6_undo 57 = .ok (.iaload, 1) := by decide +kernel
theorem dX6_undo_58 : decode cX6_undo 58 = .ok (.iastore, 1) := by decide +kernel
theorem dX6_undo_59 : decode cX6_undo 59 = .ok (.iinc 1 1, 3) := by decide +kernel
theorem dX6_undo_62 : decode cX6_undo 62 = .ok (.goto (-29), 3) := by decide +kernel
theorem dX6_undo_65 : decode cX6_undo 65 = .ok (.aload_n 0, 1) := by decide +kernel
theorem dX6_undo_66 : decode cX6_undo 66 = .ok (.getfield 35, 3) := by decide +kernel
theorem dX6_undo_69 : decode cX6_undo 69 = .ok (.ireturn, 1) := by decide +kernel
set_option maxRecDepth 20000 in
theorem ggX6_ofLadder_X6_loadOf : GoodIn wsX6_ofLadder wsX6_loadOf := goodIn_r _ [6, 1, 7, 8, 5, 9, 10, 11, 12, 39, 40, 41, 42, 43, 44, 45, 46, 47, 48, 49, 50, 51, 52, 53, 54] (by decide +kernel) (by decide +kernel)
set_option maxRecDepth 20000 in
theorem gX6_ofLadder_X6_loadOf : GoodIn wsX6_ofLadder (wsV RX6 52 RX6 yX6_loadOf wsX6_loadOf) := goodIn_app (goodIn_of _ (by decide +kernel)) ggX6_ofLadder_X6_loadOf
set_option maxRecDepth 20000 in
theorem ggX6_ofLadder_X6_momentOf : GoodIn wsX6_ofLadder wsX6_momentOf := goodIn_r _ [16, 1, 7, 8, 5, 9, 10, 11, 12, 39, 40, 41, 42, 43, 44, 45, 46, 47, 48, 49, 50, 51, 52, 53, 54] (by decide +kernel) (by decide +kernel)
set_option maxRecDepth 20000 in
theorem gX6_ofLadder_X6_momentOf : GoodIn wsX6_ofLadder (wsV RX6 42 RX6 yX6_momentOf wsX6_momentOf) := goodIn_app (goodIn_of _ (by decide +kernel)) ggX6_ofLadder_X6_momentOf
set_option maxRecDepth 20000 in
theorem ggX6_ofLadder_X6_of : GoodIn wsX6_ofLadder wsX6_of := goodIn_r _ [9] (by decide +kernel) (by decide +kernel)
set_option maxRecDepth 20000 in
theorem gX6_ofLadder_X6_of : GoodIn wsX6_ofLadder (va_wsS RX6 19 yX6_of wsX6_of) := goodIn_app (goodIn_of _ (by decide +kernel)) ggX6_ofLadder_X6_of
set_option maxRecDepth 20000 in
theorem ggX6_ofLadder_X6_stands : GoodIn wsX6_ofLadder wsX6_stands := goodIn_r _ [20, 21, 22, 23, 5, 24, 1, 25, 26, 27, 28, 2, 3, 4, 6, 7, 8, 9, 10, 11, 12, 13, 14, 15, 16, 29, 30, 31, 32, 33, 34, 35, 36, 37, 38, 39, 40, 41, 42, 43, 44, 45, 46, 47, 48, 49, 50, 51, 52, 53, 54] (by decide +kernel) (by decide +kernel)
set_option maxRecDepth 20000 in
theorem gX6_ofLadder_X6_stands : GoodIn wsX6_ofLadder (wsV RX6 74 RX6 yX6_stands wsX6_stands) := goodIn_app (goodIn_of _ (by decide +kernel)) ggX6_ofLadder_X6_stands
theorem dX6_ofLadder_0 : decode cX6_ofLadder 0 = .ok (.iload_n 2, 1) := by decide +kernel
theorem dX6_ofLadder_1 : decode cX6_ofLadder 1 = .ok (.tableswitch 69 7 10 #[31, 37, 43, 55], 31) := by decide +kernel
theorem dX6_ofLadder_32 : decode cX6_ofLadder 32 = .ok (.aload_n 0, 1) := by decide +kernel
theorem dX6_ofLadder_33 : decode cX6_ofLadder 33 = .ok (.iload_n 1, 1) := by decide +kernel
theorem dX6_ofLadder_34 : decode cX6_ofLadder 34 = .ok (.invokevirtual 52, 3) := by decide +kernel
theorem dX6_ofLadder_37 : decode cX6_ofLadder 37 = .ok (.ireturn, 1) := by decide +kernel
theorem dX6_ofLadder_38 : decode cX6_ofLadder 38 = .ok (.aload_n 0, 1) := by decide +kernel
theorem dX6_ofLadder_39 : decode cX6_ofLadder 39 = .ok (.iload_n 1, 1) := by decide +kernel
theorem dX6_ofLadder_40 : decode cX6_ofLadder 40 = .ok (.invokevirtual 42, 3) := by decide +kernel
theorem dX6_ofLadder_43 : decode cX6_ofLadder 43 = .ok (.ireturn, 1) := by decide +kernel
theorem dX6_ofLadder_44 : decode cX6_ofLadder 44 = .ok (.aload_n 0, 1) := by decide +kernel
theorem dX6_ofLadder_45 : decode cX6_ofLadder 45 = .ok (.getfield 7, 3) := by decide +kernel
theorem dX6_ofLadder_48 : decode cX6_ofLadder 48 = .ok (.iload_n 1, 1) := by decide +kernel
theorem dX6_ofLadder_49 : decode cX6_ofLadder 49 = .ok (.bipush 7, 2) := by decide +kernel
theorem dX6_ofLadder_51 : decode cX6_ofLadder 51 = .ok (.invokestatic 19, 3) := by decide +kernel
theorem dX6_ofLadder_54 : decode cX6_ofLadder 54 = .ok (.iaload, 1) := by decide +kernel
theorem dX6_ofLadder_55 : decode cX6_ofLadder 55 = .ok (.ireturn, 1) := by decide +kernel
theorem dX6_ofLadder_56 : decode cX6_ofLadder 56 = .ok (.aload_n 0, 1) := by decide +kernel
theorem dX6_ofLadder_57 : decode cX6_ofLadder 57 = .ok (.iload_n 1, 1) := by decide +kernel
theorem dX6_ofLadder_58 : decode cX6_ofLadder 58 = .ok (.invokevirtual 74, 3) := by decide +kernel
theorem dX6_ofLadder_61 : decode cX6_ofLadder 61 = .ok (.ifCond .eq 7, 3) := by decide +kernel
theorem dX6_ofLadder_64 : decode cX6_ofLadder 64 = .ok (.iconst 1, 1) := by decide +kernel
theorem dX6_ofLadder_65 : decode cX6_ofLadder 65 = .ok (.goto 4, 3) := by decide +kernel
theorem dX6_ofLadder_68 : decode cX6_ofLadder 68 = .ok (.iconst 0, 1) := by decide +kernel
theorem dX6_ofLadder_69 : decode cX6_ofLadder 69 = .ok (.ireturn, 1) := by decide +kernel
theorem dX6_ofLadder_70 : decode cX6_ofLadder 70 = .ok (.aload_n 0, 1) := by decide +kernel
theorem dX6_ofLadder_71 : decode cX6_ofLadder 71 = .ok (.getfield 7, 3) := by decide +kernel
theorem dX6_ofLadder_74 : decode cX6_ofLadder 74 = .ok (.iload_n 1, 1) := by decide +kernel
theorem dX6_ofLadder_75 : decode cX6_ofLadder 75 = .ok (.iload_n 2, 1) := by decide +kernel
theorem dX6_ofLadder_76 : decode cX6_ofLadder 76 = .ok (.invokestatic 19, 3) := by decide +kernel
theorem dX6_ofLadder_79 : decode cX6_ofLadder 79 = .ok (.iaload, 1) := by decide +kernel
theorem dX6_ofLadder_80 : decode cX6_ofLadder 80 = .ok (.ireturn, 1) := by decide +kernel
set_option maxRecDepth 20000 in
theorem ggX6_ladder_X6_isLadder : GoodIn wsX6_ladder wsX6_isLadder := goodIn_r _ [4, 5, 6, 3, 7] (by decide +kernel) (by decide +kernel)
set_option maxRecDepth 20000 in
theorem gX6_ladder_X6_isLadder : GoodIn wsX6_ladder (va_wsS RX6 31 yX6_isLadder wsX6_isLadder) := goodIn_app (goodIn_of _ (by decide +kernel)) ggX6_ladder_X6_isLadder
set_option maxRecDepth 20000 in
theorem ggX6_ladder_X6_in : GoodIn wsX6_ladder wsX6_in := goodIn_r _ [7] (by decide +kernel) (by decide +kernel)
set_option maxRecDepth 20000 in
theorem gX6_ladder_X6_in : GoodIn wsX6_ladder (va_wsS RX6 27 yX6_in wsX6_in) := goodIn_app (goodIn_of _ (by decide +kernel)) ggX6_ladder_X6_in
set_option maxRecDepth 20000 in
theorem ggX6_ladder_X6_holds : GoodIn wsX6_ladder wsX6_holds := goodIn_r _ [11, 12, 54, 55, 56, 57, 58, 59, 60, 61, 62, 63, 64, 65, 66, 67, 68, 69] (by decide +kernel) (by decide +kernel)
set_option maxRecDepth 20000 in
theorem gX6_ladder_X6_holds : GoodIn wsX6_ladder (wsV RX6 77 RX6 yX6_holds wsX6_holds) := goodIn_app (goodIn_of _ (by decide +kernel)) ggX6_ladder_X6_holds
set_option maxRecDepth 20000 in
theorem ggX6_ladder_X6_ofLadder : GoodIn wsX6_ladder wsX6_ofLadder := goodIn_r _ [16, 17, 18, 19, 20, 3, 21, 22, 23, 24, 25, 26, 27, 28, 29, 30, 31, 32, 33, 34, 35, 36, 37, 38, 39, 40, 41, 42, 43, 44, 45, 46, 47, 48, 49, 50, 51, 52, 53, 54, 55, 56, 57, 58, 59, 60, 61, 62, 63, 64, 65, 66, 67, 68, 69] (by decide +kernel) (by decide +kernel)
set_option maxRecDepth 20000 in
theorem gX6_ladder_X6_ofLadder : GoodIn wsX6_ladder (wsV RX6 145 RX6 yX6_ofLadder wsX6_ofLadder) := goodIn_app (goodIn_of _ (by decide +kernel)) ggX6_ladder_X6_ofLadder
theorem dX6_ladder_0 : decode cX6_ladder 0 = .ok (.aload_n 0, 1) := by decide +kernel
theorem dX6_ladder_1 : decode cX6_ladder 1 = .ok (.iload_n 1, 1) := by decide +kernel
theorem dX6_ladder_2 : decode cX6_ladder 2 = .ok (.invokestatic 31, 3) := by decide +kernel
theorem dX6_ladder_5 : decode cX6_ladder 5 = .ok (.ifCond .ne 7, 3) := by decide +kernel
theorem dX6_ladder_8 : decode cX6_ladder 8 = .ok (.iconst 1, 1) := by decide +kernel
theorem dX6_ladder_9 : decode cX6_ladder 9 = .ok (.goto 18, 3) := by decide +kernel
theorem dX6_ladder_12 : decode cX6_ladder 12 = .ok (.iload_n 2, 1) := by decide +kernel
theorem dX6_ladder_13 : decode cX6_ladder 13 = .ok (.iconst 0, 1) := by decide +kernel
theorem dX6_ladder_14 : decode cX6_ladder 14 = .ok (.bipush 10, 2) := by decide +kernel
theorem dX6_ladder_16 : decode cX6_ladder 16 = .ok (.invokestatic 27, 3) := by decide +kernel
theorem dX6_ladder_19 : decode cX6_ladder 19 = .ok (.ifCond .ne 7, 3) := by decide +kernel
theorem dX6_ladder_22 : decode cX6_ladder 22 = .ok (.iconst 2, 1) := by decide +kernel
theorem dX6_ladder_23 : decode cX6_ladder 23 = .ok (.goto 4, 3) := by decide +kernel
theorem dX6_ladder_26 : decode cX6_ladder 26 = .ok (.iconst 0, 1) := by decide +kernel
theorem dX6_ladder_27 : decode cX6_ladder 27 = .ok (.invokevirtual 77, 3) := by decide +kernel
theorem dX6_ladder_30 : decode cX6_ladder 30 = .ok (.ifCond .eq 12, 3) := by decide +kernel
theorem dX6_ladder_33 : decode cX6_ladder 33 = .ok (.aload_n 0, 1) := by decide +kernel
theorem dX6_ladder_34 : decode cX6_ladder 34 = .ok (.iload_n 1, 1) := by decide +kernel
theorem dX6_ladder_35 : decode cX6_ladder 35 = .ok (.iload_n 2, 1) := by decide +kernel
theorem dX6_ladder_36 : decode cX6_ladder 36 = .ok (.invokevirtual 145, 3) := by decide +kernel
theorem dX6_ladder_39 : decode cX6_ladder 39 = .ok (.goto 4, 3) := by decide +kernel
theorem dX6_ladder_42 : decode cX6_ladder 42 = .ok (.iconst 0, 1) := by decide +kernel
theorem dX6_ladder_43 : decode cX6_ladder 43 = .ok (.ireturn, 1) := by decide +kernel
set_option maxRecDepth 20000 in
theorem ggX6_person_X6_isPerson : GoodIn wsX6_person wsX6_isPerson := goodIn_r _ [6, 1, 7, 8, 5, 9, 10, 11, 12, 13, 14, 15, 24, 25, 26, 27, 28, 29, 30, 31, 32, 33, 34, 35, 36, 37, 38, 39] (by decide +kernel) (by decide +kernel)
set_option maxRecDepth 20000 in
theorem gX6_person_X6_isPerson : GoodIn wsX6_person (wsV RX6 93 RX6 yX6_isPerson wsX6_isPerson) := goodIn_app (goodIn_of _ (by decide +kernel)) ggX6_person_X6_isPerson
set_option maxRecDepth 20000 in
theorem ggX6_person_X6_in : GoodIn wsX6_person wsX6_in := goodIn_r _ [12] (by decide +kernel) (by decide +kernel)
set_option maxRecDepth 20000 in
theorem gX6_person_X6_in : GoodIn wsX6_person (va_wsS RX6 27 yX6_in wsX6_in) := goodIn_app (goodIn_of _ (by decide +kernel)) ggX6_person_X6_in
set_option maxRecDepth 20000 in
theorem ggX6_person_X6_holds : GoodIn wsX6_person wsX6_holds := goodIn_r _ [19, 20, 24, 25, 26, 27, 28, 29, 30, 31, 32, 33, 34, 35, 36, 37, 38, 39] (by decide +kernel) (by decide +kernel)
set_option maxRecDepth 20000 in
theorem gX6_person_X6_holds : GoodIn wsX6_person (wsV RX6 77 RX6 yX6_holds wsX6_holds) := goodIn_app (goodIn_of _ (by decide +kernel)) ggX6_person_X6_holds
set_option maxRecDepth 20000 in
theorem ggX6_person_X6_ofPerson : GoodIn wsX6_person wsX6_ofPerson := goodIn_r _ [23] (by decide +kernel) (by decide +kernel)
set_option maxRecDepth 20000 in
theorem gX6_person_X6_ofPerson : GoodIn wsX6_person (va_wsS RX6 38 yX6_ofPerson wsX6_ofPerson) := goodIn_app (goodIn_of _ (by decide +kernel)) ggX6_person_X6_ofPerson
theorem dX6_person_0 : decode cX6_person 0 = .ok (.aload_n 0, 1) := by decide +kernel
theorem dX6_person_1 : decode cX6_person 1 = .ok (.aload_n 0, 1) := by decide +kernel
theorem dX6_person_2 : decode cX6_person 2 = .ok (.iload_n 1, 1) := by decide +kernel
theorem dX6_person_3 : decode cX6_person 3 = .ok (.iload_n 2, 1) := by decide +kernel
theorem dX6_person_4 : decode cX6_person 4 = .ok (.invokevirtual 93, 3) := by decide +kernel
theorem dX6_person_7 : decode cX6_person 7 = .ok (.ifCond .ne 7, 3) := by decide +kernel
theorem dX6_person_10 : decode cX6_person 10 = .ok (.iconst 1, 1) := by decide +kernel
theorem dX6_person_11 : decode cX6_person 11 = .ok (.goto 17, 3) := by decide +kernel
theorem dX6_person_14 : decode cX6_person 14 = .ok (.iload_n 3, 1) := by decide +kernel
theorem dX6_person_15 : decode cX6_person 15 = .ok (.iconst 0, 1) := by decide +kernel
theorem dX6_person_16 : decode cX6_person 16 = .ok (.iconst 1, 1) := by decide +kernel
theorem dX6_person_17 : decode cX6_person 17 = .ok (.invokestatic 27, 3) := by decide +kernel
theorem dX6_person_20 : decode cX6_person 20 = .ok (.ifCond .ne 7, 3) := by decide +kernel
theorem dX6_person_23 : decode cX6_person 23 = .ok (.iconst 2, 1) := by decide +kernel
theorem dX6_person_24 : decode cX6_person 24 = .ok (.goto 4, 3) := by decide +kernel
theorem dX6_person_27 : decode cX6_person 27 = .ok (.iconst 0, 1) := by decide +kernel
theorem dX6_person_28 : decode cX6_person 28 = .ok (.invokevirtual 77, 3) := by decide +kernel
theorem dX6_person_31 : decode cX6_person 31 = .ok (.ifCond .eq 17, 3) := by decide +kernel
theorem dX6_person_34 : decode cX6_person 34 = .ok (.aload_n 0, 1) := by decide +kernel
theorem dX6_person_35 : decode cX6_person 35 = .ok (.getfield 7, 3) := by decide +kernel
theorem dX6_person_38 : decode cX6_person 38 = .ok (.iload_n 1, 1) := by decide +kernel
theorem dX6_person_39 : decode cX6_person 39 = .ok (.iload_n 2, 1) := by decide +kernel
theorem dX6_person_40 : decode cX6_person 40 = .ok (.iload_n 3, 1) := by decide +kernel
theorem dX6_person_41 : decode cX6_person 41 = .ok (.invokestatic 38, 3) := by decide +kernel
theorem dX6_person_44 : decode cX6_person 44 = .ok (.iaload, 1) := by decide +kernel
theorem dX6_person_45 : decode cX6_person 45 = .ok (.goto 4, 3) := by decide +kernel
theorem dX6_person_48 : decode cX6_person 48 = .ok (.iconst 0, 1) := by decide +kernel
theorem dX6_person_49 : decode cX6_person 49 = .ok (.ireturn, 1) := by decide +kernel
set_option maxRecDepth 20000 in
theorem ggX6_ofForce_X6_forces : GoodIn wsX6_ofForce wsX6_forces := goodIn_r _ [8, 9, 10, 1, 2, 3, 11, 12, 13, 7, 14, 15, 16, 17, 18, 19, 20, 21, 22, 23, 24, 25, 26, 27, 28, 29, 30, 31, 32, 33, 34, 39, 40, 41, 42, 43, 44, 45, 46, 47, 48, 49, 50, 51, 52, 53, 54] (by decide +kernel) (by decide +kernel)
set_option maxRecDepth 20000 in
theorem gX6_ofForce_X6_forces : GoodIn wsX6_ofForce (wsV RX6 71 RX6 yX6_forces wsX6_forces) := goodIn_app (goodIn_of _ (by decide +kernel)) ggX6_ofForce_X6_forces
set_option maxRecDepth 20000 in
theorem ggX6_ofForce_X6_pushOf : GoodIn wsX6_ofForce wsX6_pushOf := goodIn_r _ [38, 9, 21, 22, 23, 7, 24, 15, 16, 17, 18, 19, 20, 39, 40, 41, 42, 43, 44, 45, 46, 47, 48, 49, 50, 51, 52, 53, 54] (by decide +kernel) (by decide +kernel)
set_option maxRecDepth 20000 in
theorem gX6_ofForce_X6_pushOf : GoodIn wsX6_ofForce (wsV RX6 148 RX6 yX6_pushOf wsX6_pushOf) := goodIn_app (goodIn_of _ (by decide +kernel)) ggX6_ofForce_X6_pushOf
set_option maxRecDepth 20000 in
theorem ggX6_ofForce_X6_loadOf : GoodIn wsX6_ofForce wsX6_loadOf := goodIn_r _ [14, 9, 15, 16, 7, 17, 18, 19, 20, 39, 40, 41, 42, 43, 44, 45, 46, 47, 48, 49, 50, 51, 52, 53, 54] (by decide +kernel) (by decide +kernel)
set_option maxRecDepth 20000 in
theorem gX6_ofForce_X6_loadOf : GoodIn wsX6_ofForce (wsV RX6 52 RX6 yX6_loadOf wsX6_loadOf) := goodIn_app (goodIn_of _ (by decide +kernel)) ggX6_ofForce_X6_loadOf
theorem dX6_ofForce_0 : decode cX6_ofForce 0 = .ok (.aload_n 0, 1) := by decide +kernel
theorem dX6_ofForce_1 : decode cX6_ofForce 1 = .ok (.iload_n 1, 1) := by decide +kernel
theorem dX6_ofForce_2 : decode cX6_ofForce 2 = .ok (.invokevirtual 71, 3) := by decide +kernel
theorem dX6_ofForce_5 : decode cX6_ofForce 5 = .ok (.istore_n 3, 1) := by decide +kernel
theorem dX6_ofForce_6 : decode cX6_ofForce 6 = .ok (.iload_n 3, 1) := by decide +kernel
theorem dX6_ofForce_7 : decode cX6_ofForce 7 = .ok (.ifCond .eq 8, 3) := by decide +kernel
theorem dX6_ofForce_10 : decode cX6_ofForce 10 = .ok (.iload_n 2, 1) := by decide +kernel
theorem dX6_ofForce_11 : decode cX6_ofForce 11 = .ok (.iconst 2, 1) := by decide +kernel
theorem dX6_ofForce_12 : decode cX6_ofForce 12 = .ok (.if_icmp .ne 14, 3) := by decide +kernel
theorem dX6_ofForce_15 : decode cX6_ofForce 15 = .ok (.iload_n 2, 1) := by decide +kernel
theorem dX6_ofForce_16 : decode cX6_ofForce 16 = .ok (.iconst 2, 1) := by decide +kernel
theorem dX6_ofForce_17 : decode cX6_ofForce 17 = .ok (.if_icmp .ne 7, 3) := by decide +kernel
theorem dX6_ofForce_20 : decode cX6_ofForce 20 = .ok (.iload_n 3, 1) := by decide +kernel
theorem dX6_ofForce_21 : decode cX6_ofForce 21 = .ok (.goto 4, 3) := by decide +kernel
theorem dX6_ofForce_24 : decode cX6_ofForce 24 = .ok (.iconst (-1), 1) := by decide +kernel
theorem dX6_ofForce_25 : decode cX6_ofForce 25 = .ok (.ireturn, 1) := by decide +kernel
theorem dX6_ofForce_26 : decode cX6_ofForce 26 = .ok (.iload_n 2, 1) := by decide +kernel
theorem dX6_ofForce_27 : decode cX6_ofForce 27 = .ok (.tableswitch 70 0 4 #[33, 42, 70, 51, 60], 33) := by decide +kernel
theorem dX6_ofForce_60 : decode cX6_ofForce 60 = .ok (.aload_n 0, 1) := by decide +kernel
theorem dX6_ofForce_61 : decode cX6_ofForce 61 = .ok (.getfield 58, 3) := by decide +kernel
theorem dX6_ofForce_64 : decode cX6_ofForce 64 = .ok (.sipush 1000, 3) := by decide +kernel
theorem dX6_ofForce_67 : decode cX6_ofForce 67 = .ok (.iadd, 1) := by decide +kernel
theorem dX6_ofForce_68 : decode cX6_ofForce 68 = .ok (.ireturn, 1) := by decide +kernel
theorem dX6_ofForce_69 : decode cX6_ofForce 69 = .ok (.aload_n 0, 1) := by decide +kernel
theorem dX6_ofForce_70 : decode cX6_ofForce 70 = .ok (.getfield 61, 3) := by decide +kernel
theorem dX6_ofForce_73 : decode cX6_ofForce 73 = .ok (.sipush 1000, 3) := by decide +kernel
theorem dX6_ofForce_76 : decode cX6_ofForce 76 = .ok (.iadd, 1) := by decide +kernel
theorem dX6_ofForce_77 : decode cX6_ofForce 77 = .ok (.ireturn, 1) := by decide +kernel
theorem dX6_ofForce_78 : decode cX6_ofForce 78 = .ok (.aload_n 0, 1) := by decide +kernel
theorem dX6_ofForce_79 : decode cX6_ofForce 79 = .ok (.getfield 64, 3) := by decide +kernel
theorem dX6_ofForce_82 : decode cX6_ofForce 82 = .ok (.sipush 1000, 3) := by decide +kernel
theorem dX6_ofForce_85 : decode cX6_ofForce 85 = .ok (.iadd, 1) := by decide +kernel
theorem dX6_ofForce_86 : decode cX6_ofForce 86 = .ok (.ireturn, 1) := by decide +kernel
theorem dX6_ofForce_87 : decode cX6_ofForce 87 = .ok (.aload_n 0, 1) := by decide +kernel
theorem dX6_ofForce_88 : decode cX6_ofForce 88 = .ok (.iload_n 1, 1) := by decide +kernel
theorem dX6_ofForce_89 : decode cX6_ofForce 89 = .ok (.aload_n 0, 1) := by decide +kernel
theorem dX6_ofForce_90 : decode cX6_ofForce 90 = .ok (.getfield 64, 3) := by decide +kernel
theorem dX6_ofForce_93 : decode cX6_ofForce 93 = .ok (.invokevirtual 148, 3) := by decide +kernel
theorem dX6_ofForce_96 : decode cX6_ofForce 96 = .ok (.ireturn, 1) := by decide +kernel
theorem dX6_ofForce_97 : decode cX6_ofForce 97 = .ok (.aload_n 0, 1) := by decide +kernel
theorem dX6_ofForce_98 : decode cX6_ofForce 98 = .ok (.iload_n 1, 1) := by decide +kernel
theorem dX6_ofForce_99 : decode cX6_ofForce 99 = .ok (.invokevirtual 52, 3) := by decide +kernel
theorem dX6_ofForce_102 : decode cX6_ofForce 102 = .ok (.aload_n 0, 1) := by decide +kernel
theorem dX6_ofForce_103 : decode cX6_ofForce 103 = .ok (.getfield 64, 3) := by decide +kernel
theorem dX6_ofForce_106 : decode cX6_ofForce 106 = .ok (.isub, 1) := by decide +kernel
theorem dX6_ofForce_107 : decode cX6_ofForce 107 = .ok (.ireturn, 1) := by decide +kernel
set_option maxRecDepth 20000 in
theorem ggX6_force_X6_isLadder : GoodIn wsX6_force wsX6_isLadder := goodIn_r _ [4, 5, 6, 3, 7] (by decide +kernel) (by decide +kernel)
set_option maxRecDepth 20000 in
theorem gX6_force_X6_isLadder : GoodIn wsX6_force (va_wsS RX6 31 yX6_isLadder wsX6_isLadder) := goodIn_app (goodIn_of _ (by decide +kernel)) ggX6_force_X6_isLadder
set_option maxRecDepth 20000 in
theorem ggX6_force_X6_in : GoodIn wsX6_force wsX6_in := goodIn_r _ [7] (by decide +kernel) (by decide +kernel)
set_option maxRecDepth 20000 in
theorem gX6_force_X6_in : GoodIn wsX6_force (va_wsS RX6 27 yX6_in wsX6_in) := goodIn_app (goodIn_of _ (by decide +kernel)) ggX6_force_X6_in
set_option maxRecDepth 20000 in
theorem ggX6_force_X6_holds : GoodIn wsX6_force wsX6_holds := goodIn_r _ [11, 12, 54, 55, 56, 57, 58, 59, 60, 61, 62, 63, 64, 65, 66, 67, 68, 69] (by decide +kernel) (by decide +kernel)
set_option maxRecDepth 20000 in
theorem gX6_force_X6_holds : GoodIn wsX6_force (wsV RX6 77 RX6 yX6_holds wsX6_holds) := goodIn_app (goodIn_of _ (by decide +kernel)) ggX6_force_X6_holds
set_option maxRecDepth 20000 in
theorem ggX6_force_X6_ofForce : GoodIn wsX6_force wsX6_ofForce := goodIn_r _ [16, 17, 18, 19, 20, 21, 22, 3, 23, 24, 25, 26, 27, 28, 29, 30, 31, 32, 33, 34, 35, 36, 37, 38, 39, 40, 41, 42, 43, 44, 45, 46, 47, 48, 49, 50, 51, 52, 53, 54, 55, 56, 57, 58, 59, 60, 61, 62, 63, 64, 65, 66, 67, 68, 69] (by decide +kernel) (by decide +kernel)
set_option maxRecDepth 20000 in
theorem gX6_force_X6_ofForce : GoodIn wsX6_force (wsV RX6 151 RX6 yX6_ofForce wsX6_ofForce) := goodIn_app (goodIn_of _ (by decide +kernel)) ggX6_force_X6_ofForce
theorem dX6_force_0 : decode cX6_force 0 = .ok (.aload_n 0, 1) := by decide +kernel
theorem dX6_force_1 : decode cX6_force 1 = .ok (.iload_n 1, 1) := by decide +kernel
theorem dX6_force_2 : decode cX6_force 2 = .ok (.invokestatic 31, 3) := by decide +kernel
theorem dX6_force_5 : decode cX6_force 5 = .ok (.ifCond .ne 7, 3) := by decide +kernel
theorem dX6_force_8 : decode cX6_force 8 = .ok (.iconst 1, 1) := by decide +kernel
theorem dX6_force_9 : decode cX6_force 9 = .ok (.goto 17, 3) := by decide +kernel
theorem dX6_force_12 : decode cX6_force 12 = .ok (.iload_n 2, 1) := by decide +kernel
theorem dX6_force_13 : decode cX6_force 13 = .ok (.iconst 0, 1) := by decide +kernel
theorem dX6_force_14 : decode cX6_force 14 = .ok (.iconst 5, 1) := by decide +kernel
theorem dX6_force_15 : decode cX6_force 15 = .ok (.invokestatic 27, 3) := by decide +kernel
theorem dX6_force_18 : decode cX6_force 18 = .ok (.ifCond .ne 7, 3) := by decide +kernel
theorem dX6_force_21 : decode cX6_force 21 = .ok (.iconst 2, 1) := by decide +kernel
theorem dX6_force_22 : decode cX6_force 22 = .ok (.goto 4, 3) := by decide +kernel
theorem dX6_force_25 : decode cX6_force 25 = .ok (.iconst 0, 1) := by decide +kernel
theorem dX6_force_26 : decode cX6_force 26 = .ok (.invokevirtual 77, 3) := by decide +kernel
theorem dX6_force_29 : decode cX6_force 29 = .ok (.ifCond .eq 12, 3) := by decide +kernel
theorem dX6_force_32 : decode cX6_force 32 = .ok (.aload_n 0, 1) := by decide +kernel
theorem dX6_force_33 : decode cX6_force 33 = .ok (.iload_n 1, 1) := by decide +kernel
theorem dX6_force_34 : decode cX6_force 34 = .ok (.iload_n 2, 1) := by decide +kernel
theorem dX6_force_35 : decode cX6_force 35 = .ok (.invokevirtual 151, 3) := by decide +kernel
theorem dX6_force_38 : decode cX6_force 38 = .ok (.goto 4, 3) := by decide +kernel
theorem dX6_force_41 : decode cX6_force 41 = .ok (.iconst 0, 1) := by decide +kernel
theorem dX6_force_42 : decode cX6_force 42 = .ok (.ireturn, 1) := by decide +kernel
set_option maxRecDepth 20000 in
theorem ggX6_lacking_X6_loadOf : GoodIn wsX6_lacking wsX6_loadOf := goodIn_r _ [5, 6, 7, 8, 4, 9, 10, 11, 12, 31, 32, 33, 34, 35, 36, 37, 38, 39, 40, 41, 42, 43, 44, 45, 46] (by decide +kernel) (by decide +kernel)
set_option maxRecDepth 20000 in
theorem gX6_lacking_X6_loadOf : GoodIn wsX6_lacking (wsV RX6 52 RX6 yX6_loadOf wsX6_loadOf) := goodIn_app (goodIn_of _ (by decide +kernel)) ggX6_lacking_X6_loadOf
set_option maxRecDepth 20000 in
theorem ggX6_lacking_X6_pushOf : GoodIn wsX6_lacking wsX6_pushOf := goodIn_r _ [16, 6, 17, 18, 19, 4, 20, 7, 8, 9, 10, 11, 12, 31, 32, 33, 34, 35, 36, 37, 38, 39, 40, 41, 42, 43, 44, 45, 46] (by decide +kernel) (by decide +kernel)
set_option maxRecDepth 20000 in
theorem gX6_lacking_X6_pushOf : GoodIn wsX6_lacking (wsV RX6 148 RX6 yX6_pushOf wsX6_pushOf) := goodIn_app (goodIn_of _ (by decide +kernel)) ggX6_lacking_X6_pushOf
set_option maxRecDepth 20000 in
theorem ggX6_lacking_X6_lacks : GoodIn wsX6_lacking wsX6_lacks := goodIn_r _ [24, 6, 7, 8, 4, 9, 25, 26, 27, 28, 29, 30, 31, 32, 33, 34, 35, 36, 37, 38, 39, 40, 41, 42, 43, 44, 45, 46] (by decide +kernel) (by decide +kernel)
set_option maxRecDepth 20000 in
theorem gX6_lacking_X6_lacks : GoodIn wsX6_lacking (wsV RX6 67 RX6 yX6_lacks wsX6_lacks) := goodIn_app (goodIn_of _ (by decide +kernel)) ggX6_lacking_X6_lacks
theorem dX6_lacking_0 : decode cX6_lacking 0 = .ok (.aload_n 0, 1) := by decide +kernel
theorem dX6_lacking_1 : decode cX6_lacking 1 = .ok (.iload_n 1, 1) := by decide +kernel
theorem dX6_lacking_2 : decode cX6_lacking 2 = .ok (.iload_n 2, 1) := by decide +kernel
theorem dX6_lacking_3 : decode cX6_lacking 3 = .ok (.aload_n 0, 1) := by decide +kernel
theorem dX6_lacking_4 : decode cX6_lacking 4 = .ok (.iload_n 1, 1) := by decide +kernel
theorem dX6_lacking_5 : decode cX6_lacking 5 = .ok (.invokevirtual 52, 3) := by decide +kernel
theorem dX6_lacking_8 : decode cX6_lacking 8 = .ok (.aload_n 0, 1) := by decide +kernel
theorem dX6_lacking_9 : decode cX6_lacking 9 = .ok (.iload_n 1, 1) := by decide +kernel
theorem dX6_lacking_10 : decode cX6_lacking 10 = .ok (.iload_n 2, 1) := by decide +kernel
theorem dX6_lacking_11 : decode cX6_lacking 11 = .ok (.invokevirtual 148, 3) := by decide +kernel
theorem dX6_lacking_14 : decode cX6_lacking 14 = .ok (.invokevirtual 67, 3) := by decide +kernel
theorem dX6_lacking_17 : decode cX6_lacking 17 = .ok (.ireturn, 1) := by decide +kernel
set_option maxRecDepth 20000 in
theorem ggX6_held_X6_isLadder : GoodIn wsX6_held wsX6_isLadder := goodIn_r _ [4, 5, 6, 3, 7] (by decide +kernel) (by decide +kernel)
set_option maxRecDepth 20000 in
theorem gX6_held_X6_isLadder : GoodIn wsX6_held (va_wsS RX6 31 yX6_isLadder wsX6_isLadder) := goodIn_app (goodIn_of _ (by decide +kernel)) ggX6_held_X6_isLadder
set_option maxRecDepth 20000 in
theorem ggX6_held_X6_in : GoodIn wsX6_held wsX6_in := goodIn_r _ [7] (by decide +kernel) (by decide +kernel)
set_option maxRecDepth 20000 in
theorem gX6_held_X6_in : GoodIn wsX6_held (va_wsS RX6 27 yX6_in wsX6_in) := goodIn_app (goodIn_of _ (by decide +kernel)) ggX6_held_X6_in
set_option maxRecDepth 20000 in
theorem ggX6_held_X6_holds : GoodIn wsX6_held wsX6_holds := goodIn_r _ [11, 12, 46, 47, 48, 49, 50, 51, 52, 53, 54, 55, 56, 57, 58, 59, 60, 61] (by decide +kernel) (by decide +kernel)
set_option maxRecDepth 20000 in
theorem gX6_held_X6_holds : GoodIn wsX6_held (wsV RX6 77 RX6 yX6_holds wsX6_holds) := goodIn_app (goodIn_of _ (by decide +kernel)) ggX6_held_X6_holds
set_option maxRecDepth 20000 in
theorem ggX6_held_X6_lacking : GoodIn wsX6_held wsX6_lacking := goodIn_r _ [16, 17, 18, 19, 3, 20, 21, 22, 23, 24, 25, 26, 27, 28, 29, 30, 31, 32, 33, 34, 35, 36, 37, 38, 39, 40, 41, 42, 43, 44, 45, 46, 47, 48, 49, 50, 51, 52, 53, 54, 55, 56, 57, 58, 59, 60, 61] (by decide +kernel) (by decide +kernel)
set_option maxRecDepth 20000 in
theorem gX6_held_X6_lacking : GoodIn wsX6_held (wsV RX6 154 RX6 yX6_lacking wsX6_lacking) := goodIn_app (goodIn_of _ (by decide +kernel)) ggX6_held_X6_lacking
theorem dX6_held_0 : decode cX6_held 0 = .ok (.aload_n 0, 1) := by decide +kernel
theorem dX6_held_1 : decode cX6_held 1 = .ok (.iload_n 1, 1) := by decide +kernel
theorem dX6_held_2 : decode cX6_held 2 = .ok (.invokestatic 31, 3) := by decide +kernel
theorem dX6_held_5 : decode cX6_held 5 = .ok (.ifCond .ne 7, 3) := by decide +kernel
theorem dX6_held_8 : decode cX6_held 8 = .ok (.iconst 1, 1) := by decide +kernel
theorem dX6_held_9 : decode cX6_held 9 = .ok (.goto 21, 3) := by decide +kernel
theorem dX6_held_12 : decode cX6_held 12 = .ok (.iload_n 2, 1) := by decide +kernel
theorem dX6_held_13 : decode cX6_held 13 = .ok (.sipush (-1000), 3) := by decide +kernel
theorem dX6_held_16 : decode cX6_held 16 = .ok (.sipush 1000, 3) := by decide +kernel
theorem dX6_held_19 : decode cX6_held 19 = .ok (.invokestatic 27, 3) := by decide +kernel
theorem dX6_held_22 : decode cX6_held 22 = .ok (.ifCond .ne 7, 3) := by decide +kernel
theorem dX6_held_25 : decode cX6_held 25 = .ok (.iconst 2, 1) := by decide +kernel
theorem dX6_held_26 : decode cX6_held 26 = .ok (.goto 4, 3) := by decide +kernel
theorem dX6_held_29 : decode cX6_held 29 = .ok (.iconst 0, 1) := by decide +kernel
theorem dX6_held_30 : decode cX6_held 30 = .ok (.invokevirtual 77, 3) := by decide +kernel
theorem dX6_held_33 : decode cX6_held 33 = .ok (.ifCond .eq 12, 3) := by decide +kernel
theorem dX6_held_36 : decode cX6_held 36 = .ok (.aload_n 0, 1) := by decide +kernel
theorem dX6_held_37 : decode cX6_held 37 = .ok (.iload_n 1, 1) := by decide +kernel
theorem dX6_held_38 : decode cX6_held 38 = .ok (.iload_n 2, 1) := by decide +kernel
theorem dX6_held_39 : decode cX6_held 39 = .ok (.invokevirtual 154, 3) := by decide +kernel
theorem dX6_held_42 : decode cX6_held 42 = .ok (.goto 4, 3) := by decide +kernel
theorem dX6_held_45 : decode cX6_held 45 = .ok (.iconst 0, 1) := by decide +kernel
theorem dX6_held_46 : decode cX6_held 46 = .ok (.ireturn, 1) := by decide +kernel
set_option maxRecDepth 20000 in
theorem ggX6_sumOf_X6_ofLadder : GoodIn wsX6_sumOf wsX6_ofLadder := goodIn_r _ [5, 6, 7, 8, 9, 4, 10, 11, 12, 13, 14, 15, 16, 17, 18, 19, 20, 21, 22, 23, 24, 25, 26, 27, 28, 29, 30, 31, 32, 33, 34, 35, 36, 37, 38, 39, 40, 41, 42, 43, 44, 45, 46, 47, 48, 49, 50, 51, 52, 53, 54, 55, 56, 57, 58] (by decide +kernel) (by decide +kernel)
set_option maxRecDepth 20000 in
theorem gX6_sumOf_X6_ofLadder : GoodIn wsX6_sumOf (wsV RX6 145 RX6 yX6_ofLadder wsX6_ofLadder) := goodIn_app (goodIn_of _ (by decide +kernel)) ggX6_sumOf_X6_ofLadder
theorem dX6_sumOf_0 : decode cX6_sumOf 0 = .ok (.iconst 0, 1) := by decide +kernel
theorem dX6_sumOf_1 : decode cX6_sumOf 1 = .ok (.istore_n 2, 1) := by decide +kernel
theorem dX6_sumOf_2 : decode cX6_sumOf 2 = .ok (.iconst 0, 1) := by decide +kernel
theorem dX6_sumOf_3 : decode cX6_sumOf 3 = .ok (.istore_n 3, 1) := by decide +kernel
theorem dX6_sumOf_4 : decode cX6_sumOf 4 = .ok (.iload_n 3, 1) := by decide +kernel
theorem dX6_sumOf_5 : decode cX6_sumOf 5 = .ok (.iconst 4, 1) := by decide +kernel
theorem dX6_sumOf_6 : decode cX6_sumOf 6 = .ok (.if_icmp .ge 18, 3) := by decide +kernel
theorem dX6_sumOf_9 : decode cX6_sumOf 9 = .ok (.iload_n 2, 1) := by decide +kernel
theorem dX6_sumOf_10 : decode cX6_sumOf 10 = .ok (.aload_n 0, 1) := by decide +kernel
theorem dX6_sumOf_11 : decode cX6_sumOf 11 = .ok (.iload_n 3, 1) := by decide +kernel
theorem dX6_sumOf_12 : decode cX6_sumOf 12 = .ok (.iload_n 1, 1) := by decide +kernel
theorem dX6_sumOf_13 : decode cX6_sumOf 13 = .ok (.invokevirtual 145, 3) := by decide +kernel
theorem dX6_sumOf_16 : decode cX6_sumOf 16 = .ok (.iadd, 1) := by decide +kernel
theorem dX6_sumOf_17 : decode cX6_sumOf 17 = .ok (.istore_n 2, 1) := by decide +kernel
theorem dX6_sumOf_18 : decode cX6_sumOf 18 = .ok (.iinc 3 1, 3) := by decide +kernel
theorem dX6_sumOf_21 : decode cX6_sumOf 21 = .ok (.goto (-17), 3) := by decide +kernel
theorem dX6_sumOf_24 : decode cX6_sumOf 24 = .ok (.iload_n 2, 1) := by decide +kernel
theorem dX6_sumOf_25 : decode cX6_sumOf 25 = .ok (.ireturn, 1) := by decide +kernel
set_option maxRecDepth 20000 in
theorem ggX6_counted_X6_sumOf : GoodIn wsX6_counted wsX6_sumOf := goodIn_r _ [7, 8, 9, 10, 6, 11, 1, 12, 13, 14, 15, 16, 17, 18, 19, 20, 21, 22, 23, 24, 25, 26, 27, 28, 29, 30, 31, 32, 33, 34, 35, 36, 37, 38, 39, 40, 41, 42, 43, 44, 45, 46, 47, 48, 49, 50, 51, 52, 53, 54, 55, 56, 57, 58, 59, 60, 61, 62, 63] (by decide +kernel) (by decide +kernel)
set_option maxRecDepth 20000 in
theorem gX6_counted_X6_sumOf : GoodIn wsX6_counted (wsV RX6 157 RX6 yX6_sumOf wsX6_sumOf) := goodIn_app (goodIn_of _ (by decide +kernel)) ggX6_counted_X6_sumOf
theorem dX6_counted_0 : decode cX6_counted 0 = .ok (.iload_n 1, 1) := by decide +kernel
theorem dX6_counted_1 : decode cX6_counted 1 = .ok (.tableswitch 72 0 4 #[35, 42, 49, 56, 64], 35) := by decide +kernel
theorem dX6_counted_36 : decode cX6_counted 36 = .ok (.aload_n 0, 1) := by decide +kernel
theorem dX6_counted_37 : decode cX6_counted 37 = .ok (.bipush 10, 2) := by decide +kernel
theorem dX6_counted_39 : decode cX6_counted 39 = .ok (.invokevirtual 157, 3) := by decide +kernel
theorem dX6_counted_42 : decode cX6_counted 42 = .ok (.ireturn, 1) := by decide +kernel
theorem dX6_counted_43 : decode cX6_counted 43 = .ok (.aload_n 0, 1) := by decide +kernel
theorem dX6_counted_44 : decode cX6_counted 44 = .ok (.bipush 6, 2) := by decide +kernel
theorem dX6_counted_46 : decode cX6_counted 46 = .ok (.invokevirtual 157, 3) := by decide +kernel
theorem dX6_counted_49 : decode cX6_counted 49 = .ok (.ireturn, 1) := by decide +kernel
theorem dX6_counted_50 : decode cX6_counted 50 = .ok (.aload_n 0, 1) := by decide +kernel
theorem dX6_counted_51 : decode cX6_counted 51 = .ok (.bipush 9, 2) := by decide +kernel
theorem dX6_counted_53 : decode cX6_counted 53 = .ok (.invokevirtual 157, 3) := by decide +kernel
theorem dX6_counted_56 : decode cX6_counted 56 = .ok (.ireturn, 1) := by decide +kernel
theorem dX6_counted_57 : decode cX6_counted 57 = .ok (.aload_n 0, 1) := by decide +kernel
theorem dX6_counted_58 : decode cX6_counted 58 = .ok (.getfield 7, 3) := by decide +kernel
theorem dX6_counted_61 : decode cX6_counted 61 = .ok (.bipush 56, 2) := by decide +kernel
theorem dX6_counted_63 : decode cX6_counted 63 = .ok (.iaload, 1) := by decide +kernel
theorem dX6_counted_64 : decode cX6_counted 64 = .ok (.ireturn, 1) := by decide +kernel
theorem dX6_counted_65 : decode cX6_counted 65 = .ok (.aload_n 0, 1) := by decide +kernel
theorem dX6_counted_66 : decode cX6_counted 66 = .ok (.getfield 7, 3) := by decide +kernel
theorem dX6_counted_69 : decode cX6_counted 69 = .ok (.bipush 57, 2) := by decide +kernel
theorem dX6_counted_71 : decode cX6_counted 71 = .ok (.iaload, 1) := by decide +kernel
theorem dX6_counted_72 : decode cX6_counted 72 = .ok (.ireturn, 1) := by decide +kernel
theorem dX6_counted_73 : decode cX6_counted 73 = .ok (.aload_n 0, 1) := by decide +kernel
theorem dX6_counted_74 : decode cX6_counted 74 = .ok (.getfield 35, 3) := by decide +kernel
theorem dX6_counted_77 : decode cX6_counted 77 = .ok (.ireturn, 1) := by decide +kernel
set_option maxRecDepth 20000 in
theorem ggX6_count_X6_in : GoodIn wsX6_count wsX6_in := goodIn_r _ [4] (by decide +kernel) (by decide +kernel)
set_option maxRecDepth 20000 in
theorem gX6_count_X6_in : GoodIn wsX6_count (va_wsS RX6 27 yX6_in wsX6_in) := goodIn_app (goodIn_of _ (by decide +kernel)) ggX6_count_X6_in
set_option maxRecDepth 20000 in
theorem ggX6_count_X6_holds : GoodIn wsX6_count wsX6_holds := goodIn_r _ [8, 9, 60, 61, 62, 63, 64, 65, 66, 67, 68, 69, 70, 71, 72, 73, 74, 75] (by decide +kernel) (by decide +kernel)
set_option maxRecDepth 20000 in
theorem gX6_count_X6_holds : GoodIn wsX6_count (wsV RX6 77 RX6 yX6_holds wsX6_holds) := goodIn_app (goodIn_of _ (by decide +kernel)) ggX6_count_X6_holds
set_option maxRecDepth 20000 in
theorem ggX6_count_X6_counted : GoodIn wsX6_count wsX6_counted := goodIn_r _ [13, 14, 15, 16, 17, 18, 3, 19, 20, 21, 22, 23, 24, 25, 26, 27, 28, 29, 30, 31, 32, 33, 34, 35, 36, 37, 38, 39, 40, 41, 42, 43, 44, 45, 46, 47, 48, 49, 50, 51, 52, 53, 54, 55, 56, 57, 58, 59, 60, 61, 62, 63, 64, 65, 66, 67, 68, 69, 70, 71, 72, 73, 74, 75] (by decide +kernel) (by decide +kernel)
set_option maxRecDepth 20000 in
theorem gX6_count_X6_counted : GoodIn wsX6_count (wsV RX6 160 RX6 yX6_counted wsX6_counted) := goodIn_app (goodIn_of _ (by decide +kernel)) ggX6_count_X6_counted
theorem dX6_count_0 : decode cX6_count 0 = .ok (.aload_n 0, 1) := by decide +kernel
theorem dX6_count_1 : decode cX6_count 1 = .ok (.iload_n 1, 1) := by decide +kernel
theorem dX6_count_2 : decode cX6_count 2 = .ok (.iconst 0, 1) := by decide +kernel
theorem dX6_count_3 : decode cX6_count 3 = .ok (.iconst 5, 1) := by decide +kernel
theorem dX6_count_4 : decode cX6_count 4 = .ok (.invokestatic 27, 3) := by decide +kernel
theorem dX6_count_7 : decode cX6_count 7 = .ok (.ifCond .eq 7, 3) := by decide +kernel
theorem dX6_count_10 : decode cX6_count 10 = .ok (.iconst 0, 1) := by decide +kernel
theorem dX6_count_11 : decode cX6_count 11 = .ok (.goto 4, 3) := by decide +kernel
theorem dX6_count_14 : decode cX6_count 14 = .ok (.iconst 1, 1) := by decide +kernel
theorem dX6_count_15 : decode cX6_count 15 = .ok (.invokevirtual 77, 3) := by decide +kernel
theorem dX6_count_18 : decode cX6_count 18 = .ok (.ifCond .eq 11, 3) := by decide +kernel
theorem dX6_count_21 : decode cX6_count 21 = .ok (.aload_n 0, 1) := by decide +kernel
theorem dX6_count_22 : decode cX6_count 22 = .ok (.iload_n 1, 1) := by decide +kernel
theorem dX6_count_23 : decode cX6_count 23 = .ok (.invokevirtual 160, 3) := by decide +kernel
theorem dX6_count_26 : decode cX6_count 26 = .ok (.goto 4, 3) := by decide +kernel
theorem dX6_count_29 : decode cX6_count 29 = .ok (.iconst 0, 1) := by decide +kernel
theorem dX6_count_30 : decode cX6_count 30 = .ok (.ireturn, 1) := by decide +kernel
set_option maxRecDepth 20000 in
theorem ggX6_highestOf_X6_ofPerson : GoodIn wsX6_highestOf wsX6_ofPerson := goodIn_r _ [5] (by decide +kernel) (by decide +kernel)
set_option maxRecDepth 20000 in
theorem gX6_highestOf_X6_ofPerson : GoodIn wsX6_highestOf (va_wsS RX6 38 yX6_ofPerson wsX6_ofPerson) := goodIn_app (goodIn_of _ (by decide +kernel)) ggX6_highestOf_X6_ofPerson
set_option maxRecDepth 20000 in
theorem ggX6_highestOf_X6_stands : GoodIn wsX6_highestOf wsX6_stands := goodIn_r _ [9, 10, 11, 12, 4, 13, 1, 14, 15, 16, 17, 18, 19, 20, 21, 22, 23, 24, 2, 3, 5, 25, 26, 27, 28, 29, 30, 31, 32, 33, 34, 35, 36, 37, 38, 39, 40, 41, 42, 43, 44, 45, 46, 47, 48, 49, 50, 51, 52, 53, 54] (by decide +kernel) (by decide +kernel)
set_option maxRecDepth 20000 in
theorem gX6_highestOf_X6_stands : GoodIn wsX6_highestOf (wsV RX6 74 RX6 yX6_stands wsX6_stands) := goodIn_app (goodIn_of _ (by decide +kernel)) ggX6_highestOf_X6_stands
theorem dX6_highestOf_0 : decode cX6_highestOf 0 = .ok (.iload_n 1, 1) := by decide +kernel
theorem dX6_highestOf_1 : decode cX6_highestOf 1 = .ok (.iload_n 2, 1) := by decide +kernel
theorem dX6_highestOf_2 : decode cX6_highestOf 2 = .ok (.iconst 1, 1) := by decide +kernel
theorem dX6_highestOf_3 : decode cX6_highestOf 3 = .ok (.invokestatic 38, 3) := by decide +kernel
theorem dX6_highestOf_6 : decode cX6_highestOf 6 = .ok (.istore_n 3, 1) := by decide +kernel
theorem dX6_highestOf_7 : decode cX6_highestOf 7 = .ok (.aload_n 0, 1) := by decide +kernel
theorem dX6_highestOf_8 : decode cX6_highestOf 8 = .ok (.getfield 7, 3) := by decide +kernel
theorem dX6_highestOf_11 : decode cX6_highestOf 11 = .ok (.iload_n 3, 1) := by decide +kernel
