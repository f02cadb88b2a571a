set_option maxRecDepth 20000 in
theorem ggX11_init_X9_init : GoodIn wsX11_init wsX9_init := goodIn_r _ [47, 48, 2, 3, 49, 50, 51, 52, 53, 54, 55, 56, 57, 58, 150, 151, 152, 153, 154, 155, 156, 157] (by decide +kernel) (by decide +kernel)
set_option maxRecDepth 20000 in
theorem gX11_init_X9_init_n9 : GoodIn wsX11_init (wsX9_init) := ggX11_init_X9_init
set_option maxRecDepth 20000 in
theorem ggX11_init_X2_init : GoodIn wsX11_init wsX2_init := goodIn_r _ [61, 62, 2, 3, 63, 64, 65, 66, 67, 68, 69, 70, 71, 72, 73, 74, 75, 76, 77, 78, 79, 80, 81, 82, 83, 84, 85, 86, 87, 88, 89, 90, 91, 92, 93, 94, 173, 174, 175, 176, 177, 178, 179, 180, 181, 182, 183, 184, 185, 213, 214, 215] (by decide +kernel) (by decide +kernel)
set_option maxRecDepth 20000 in
theorem gX11_init_X2_init : GoodIn wsX11_init (wsX2_init) := ggX11_init_X2_init
set_option maxRecDepth 20000 in
theorem ggX11_init_X3_init : GoodIn wsX11_init wsX3_init := goodIn_r _ [96, 97, 2, 3, 98, 99, 100, 186, 187, 188] (by decide +kernel) (by decide +kernel)
set_option maxRecDepth 20000 in
theorem gX11_init_X3_init_n28 : GoodIn wsX11_init (wsX3_init) := ggX11_init_X3_init
set_option maxRecDepth 20000 in
theorem ggX11_init_X1_init : GoodIn wsX11_init wsX1_init := goodIn_r _ [102, 103, 2, 3, 63, 104, 105, 106, 107, 189, 190, 191, 192] (by decide +kernel) (by decide +kernel)
set_option maxRecDepth 20000 in
theorem gX11_init_X1_init_n35 : GoodIn wsX11_init (wsX1_init) := ggX11_init_X1_init
set_option maxRecDepth 20000 in
theorem ggX11_init_X0_init : GoodIn wsX11_init wsX0_init := goodIn_r _ [110, 111, 2, 3, 112, 193] (by decide +kernel) (by decide +kernel)
set_option maxRecDepth 20000 in
theorem gX11_init_X0_init : GoodIn wsX11_init (wsX0_init) := ggX11_init_X0_init
set_option maxRecDepth 20000 in
theorem ggX11_init_X10_init : GoodIn wsX11_init wsX10_init := goodIn_r _ [115, 116, 2, 3, 117, 31, 32, 118, 63, 119, 120, 121, 122, 123, 124, 125, 126, 127, 128, 129, 130, 131, 132, 133, 201, 202, 203, 204, 205, 206, 194, 195, 196, 197, 198, 199, 200] (by decide +kernel) (by decide +kernel)
set_option maxRecDepth 20000 in
theorem gX11_init_X10_init : GoodIn wsX11_init (wsX10_init) := ggX11_init_X10_init
set_option maxRecDepth 20000 in
theorem ggX11_init_X8_init : GoodIn wsX11_init wsX8_init := goodIn_r _ [126, 127, 2, 3, 63, 128, 129, 130, 131, 132, 133, 201, 202, 203, 204, 205, 206] (by decide +kernel) (by decide +kernel)
set_option maxRecDepth 20000 in
theorem gX11_init_X8_init_n63 : GoodIn wsX11_init (wsX8_init) := ggX11_init_X8_init
set_option maxRecDepth 20000 in
theorem ggX11_init_X6_init : GoodIn wsX11_init wsX6_init := goodIn_r _ [135, 136, 2, 3, 137, 138, 139, 207, 208] (by decide +kernel) (by decide +kernel)
set_option maxRecDepth 20000 in
theorem gX11_init_X6_init_n73 : GoodIn wsX11_init (wsX6_init) := ggX11_init_X6_init
set_option maxRecDepth 20000 in
theorem ggX11_init_X5_init : GoodIn wsX11_init wsX5_init := goodIn_r _ [141, 142, 2, 3, 143, 31, 32, 144, 145, 18, 19, 146, 147, 36, 37, 148, 149, 125, 126, 127, 63, 128, 129, 130, 131, 132, 133, 101, 102, 103, 104, 105, 106, 107, 134, 135, 136, 137, 138, 139, 201, 202, 203, 204, 205, 206, 209, 210, 211, 212, 189, 190, 191, 192, 207, 208] (by decide +kernel) (by decide +kernel)
set_option maxRecDepth 20000 in
theorem gX11_init_X5_init_n95 : GoodIn wsX11_init (wsX5_init) := ggX11_init_X5_init
theorem zg03_1_0 : zCj cX11_init [(0, .aload_n 0, 1), (1, .invokespecial 1, 3), (4, .aload_n 0, 1), (5, .new 7, 3), (8, .dup, 1), (9, .invokespecial 9, 3), (12, .putfield 10, 3), (15, .aload_n 0, 1), (16, .new 16, 3), (19, .dup, 1)] := zCo _ 0 (by decide +kernel)
theorem dX11_init_0 : decode cX11_init 0 = .ok (.aload_n 0, 1) := zc1 zg03_1_0
theorem dX11_init_1 : decode cX11_init 1 = .ok (.invokespecial 1, 3) := zc1 (zc2 zg03_1_0)
theorem dX11_init_4 : decode cX11_init 4 = .ok (.aload_n 0, 1) := zc1 (zc2 (zc2 zg03_1_0))
theorem dX11_init_5 : decode cX11_init 5 = .ok (.new 7, 3) := zc1 (zc2 (zc2 (zc2 zg03_1_0)))
theorem dX11_init_8 : decode cX11_init 8 = .ok (.dup, 1) := zc1 (zc2 (zc2 (zc2 (zc2 zg03_1_0))))
theorem dX11_init_9 : decode cX11_init 9 = .ok (.invokespecial 9, 3) := zc1 (zc2 (zc2 (zc2 (zc2 (zc2 zg03_1_0)))))
theorem dX11_init_12 : decode cX11_init 12 = .ok (.putfield 10, 3) := zc1 (zc2 (zc2 (zc2 (zc2 (zc2 (zc2 zg03_1_0))))))
theorem dX11_init_15 : decode cX11_init 15 = .ok (.aload_n 0, 1) := zc1 (zc2 (zc2 (zc2 (zc2 (zc2 (zc2 (zc2 zg03_1_0)))))))
theorem dX11_init_16 : decode cX11_init 16 = .ok (.new 16, 3) := zc1 (zc2 (zc2 (zc2 (zc2 (zc2 (zc2 (zc2 (zc2 zg03_1_0))))))))
theorem dX11_init_19 : decode cX11_init 19 = .ok (.dup, 1) := zc1 (zc2 (zc2 (zc2 (zc2 (zc2 (zc2 (zc2 (zc2 (zc2 zg03_1_0)))))))))
theorem zg03_1_1 : zCj cX11_init [(20, .invokespecial 18, 3), (23, .putfield 19, 3), (26, .aload_n 0, 1), (27, .new 16, 3), (30, .dup, 1), (31, .invokespecial 18, 3), (34, .putfield 23, 3), (37, .aload_n 0, 1), (38, .new 26, 3), (41, .dup, 1)] := zCo _ 20 (by decide +kernel)
theorem dX11_init_20 : decode cX11_init 20 = .ok (.invokespecial 18, 3) := zc1 zg03_1_1
theorem dX11_init_23 : decode cX11_init 23 = .ok (.putfield 19, 3) := zc1 (zc2 zg03_1_1)
theorem dX11_init_26 : decode cX11_init 26 = .ok (.aload_n 0, 1) := zc1 (zc2 (zc2 zg03_1_1))
theorem dX11_init_27 : decode cX11_init 27 = .ok (.new 16, 3) := zc1 (zc2 (zc2 (zc2 zg03_1_1)))
theorem dX11_init_30 : decode cX11_init 30 = .ok (.dup, 1) := zc1 (zc2 (zc2 (zc2 (zc2 zg03_1_1))))
theorem dX11_init_31 : decode cX11_init 31 = .ok (.invokespecial 18, 3) := zc1 (zc2 (zc2 (zc2 (zc2 (zc2 zg03_1_1)))))
theorem dX11_init_34 : decode cX11_init 34 = .ok (.putfield 23, 3) := zc1 (zc2 (zc2 (zc2 (zc2 (zc2 (zc2 zg03_1_1))))))
theorem dX11_init_37 : decode cX11_init 37 = .ok (.aload_n 0, 1) := zc1 (zc2 (zc2 (zc2 (zc2 (zc2 (zc2 (zc2 zg03_1_1)))))))
theorem dX11_init_38 : decode cX11_init 38 = .ok (.new 26, 3) := zc1 (zc2 (zc2 (zc2 (zc2 (zc2 (zc2 (zc2 (zc2 zg03_1_1))))))))
theorem dX11_init_41 : decode cX11_init 41 = .ok (.dup, 1) := zc1 (zc2 (zc2 (zc2 (zc2 (zc2 (zc2 (zc2 (zc2 (zc2 zg03_1_1)))))))))
theorem zg03_1_2 : zCj cX11_init [(42, .invokespecial 28, 3), (45, .putfield 29, 3), (48, .aload_n 0, 1), (49, .new 33, 3), (52, .dup, 1), (53, .invokespecial 35, 3), (56, .putfield 36, 3), (59, .aload_n 0, 1), (60, .new 33, 3), (63, .dup, 1)] := zCo _ 42 (by decide +kernel)
theorem dX11_init_42 : decode cX11_init 42 = .ok (.invokespecial 28, 3) := zc1 zg03_1_2
theorem dX11_init_45 : decode cX11_init 45 = .ok (.putfield 29, 3) := zc1 (zc2 zg03_1_2)
theorem dX11_init_48 : decode cX11_init 48 = .ok (.aload_n 0, 1) := zc1 (zc2 (zc2 zg03_1_2))
theorem dX11_init_49 : decode cX11_init 49 = .ok (.new 33, 3) := zc1 (zc2 (zc2 (zc2 zg03_1_2)))
theorem dX11_init_52 : decode cX11_init 52 = .ok (.dup, 1) := zc1 (zc2 (zc2 (zc2 (zc2 zg03_1_2))))
theorem dX11_init_53 : decode cX11_init 53 = .ok (.invokespecial 35, 3) := zc1 (zc2 (zc2 (zc2 (zc2 (zc2 zg03_1_2)))))
theorem dX11_init_56 : decode cX11_init 56 = .ok (.putfield 36, 3) := zc1 (zc2 (zc2 (zc2 (zc2 (zc2 (zc2 zg03_1_2))))))
theorem dX11_init_59 : decode cX11_init 59 = .ok (.aload_n 0, 1) := zc1 (zc2 (zc2 (zc2 (zc2 (zc2 (zc2 (zc2 zg03_1_2)))))))
theorem dX11_init_60 : decode cX11_init 60 = .ok (.new 33, 3) := zc1 (zc2 (zc2 (zc2 (zc2 (zc2 (zc2 (zc2 (zc2 zg03_1_2))))))))
theorem dX11_init_63 : decode cX11_init 63 = .ok (.dup, 1) := zc1 (zc2 (zc2 (zc2 (zc2 (zc2 (zc2 (zc2 (zc2 (zc2 zg03_1_2)))))))))
theorem zg03_1_3 : zCj cX11_init [(64, .invokespecial 35, 3), (67, .putfield 40, 3), (70, .aload_n 0, 1), (71, .new 43, 3), (74, .dup, 1), (75, .aload_n 0, 1), (76, .getfield 19, 3), (79, .invokespecial 45, 3), (82, .putfield 48, 3), (85, .aload_n 0, 1)] := zCo _ 64 (by decide +kernel)
theorem dX11_init_64 : decode cX11_init 64 = .ok (.invokespecial 35, 3) := zc1 zg03_1_3
theorem dX11_init_67 : decode cX11_init 67 = .ok (.putfield 40, 3) := zc1 (zc2 zg03_1_3)
theorem dX11_init_70 : decode cX11_init 70 = .ok (.aload_n 0, 1) := zc1 (zc2 (zc2 zg03_1_3))
theorem dX11_init_71 : decode cX11_init 71 = .ok (.new 43, 3) := zc1 (zc2 (zc2 (zc2 zg03_1_3)))
theorem dX11_init_74 : decode cX11_init 74 = .ok (.dup, 1) := zc1 (zc2 (zc2 (zc2 (zc2 zg03_1_3))))
theorem dX11_init_75 : decode cX11_init 75 = .ok (.aload_n 0, 1) := zc1 (zc2 (zc2 (zc2 (zc2 (zc2 zg03_1_3)))))
theorem dX11_init_76 : decode cX11_init 76 = .ok (.getfield 19, 3) := zc1 (zc2 (zc2 (zc2 (zc2 (zc2 (zc2 zg03_1_3))))))
theorem dX11_init_79 : decode cX11_init 79 = .ok (.invokespecial 45, 3) := zc1 (zc2 (zc2 (zc2 (zc2 (zc2 (zc2 (zc2 zg03_1_3)))))))
theorem dX11_init_82 : decode cX11_init 82 = .ok (.putfield 48, 3) := zc1 (zc2 (zc2 (zc2 (zc2 (zc2 (zc2 (zc2 (zc2 zg03_1_3))))))))
theorem dX11_init_85 : decode cX11_init 85 = .ok (.aload_n 0, 1) := zc1 (zc2 (zc2 (zc2 (zc2 (zc2 (zc2 (zc2 (zc2 (zc2 zg03_1_3)))))))))
theorem zg03_1_4 : zCj cX11_init [(86, .new 52, 3), (89, .dup, 1), (90, .aload_n 0, 1), (91, .getfield 19, 3), (94, .aload_n 0, 1), (95, .getfield 48, 3), (98, .invokespecial 54, 3), (101, .putfield 57, 3), (104, .aload_n 0, 1), (105, .new 61, 3)] := zCo _ 86 (by decide +kernel)
theorem dX11_init_86 : decode cX11_init 86 = .ok (.new 52, 3) := zc1 zg03_1_4
theorem dX11_init_89 : decode cX11_init 89 = .ok (.dup, 1) := zc1 (zc2 zg03_1_4)
theorem dX11_init_90 : decode cX11_init 90 = .ok (.aload_n 0, 1) := zc1 (zc2 (zc2 zg03_1_4))
theorem dX11_init_91 : decode cX11_init 91 = .ok (.getfield 19, 3) := zc1 (zc2 (zc2 (zc2 zg03_1_4)))
theorem dX11_init_94 : decode cX11_init 94 = .ok (.aload_n 0, 1) := zc1 (zc2 (zc2 (zc2 (zc2 zg03_1_4))))
theorem dX11_init_95 : decode cX11_init 95 = .ok (.getfield 48, 3) := zc1 (zc2 (zc2 (zc2 (zc2 (zc2 zg03_1_4)))))
theorem dX11_init_98 : decode cX11_init 98 = .ok (.invokespecial 54, 3) := zc1 (zc2 (zc2 (zc2 (zc2 (zc2 (zc2 zg03_1_4))))))
theorem dX11_init_101 : decode cX11_init 101 = .ok (.putfield 57, 3) := zc1 (zc2 (zc2 (zc2 (zc2 (zc2 (zc2 (zc2 zg03_1_4)))))))
theorem dX11_init_104 : decode cX11_init 104 = .ok (.aload_n 0, 1) := zc1 (zc2 (zc2 (zc2 (zc2 (zc2 (zc2 (zc2 (zc2 zg03_1_4))))))))
theorem dX11_init_105 : decode cX11_init 105 = .ok (.new 61, 3) := zc1 (zc2 (zc2 (zc2 (zc2 (zc2 (zc2 (zc2 (zc2 (zc2 zg03_1_4)))))))))
theorem zg03_1_5 : zCj cX11_init [(108, .dup, 1), (109, .invokespecial 63, 3), (112, .putfield 64, 3), (115, .aload_n 0, 1), (116, .new 61, 3), (119, .dup, 1), (120, .invokespecial 63, 3), (123, .putfield 68, 3), (126, .aload_n 0, 1), (127, .new 71, 3)] := zCo _ 108 (by decide +kernel)
theorem dX11_init_108 : decode cX11_init 108 = .ok (.dup, 1) := zc1 zg03_1_5
theorem dX11_init_109 : decode cX11_init 109 = .ok (.invokespecial 63, 3) := zc1 (zc2 zg03_1_5)
theorem dX11_init_112 : decode cX11_init 112 = .ok (.putfield 64, 3) := zc1 (zc2 (zc2 zg03_1_5))
theorem dX11_init_115 : decode cX11_init 115 = .ok (.aload_n 0, 1) := zc1 (zc2 (zc2 (zc2 zg03_1_5)))
theorem dX11_init_116 : decode cX11_init 116 = .ok (.new 61, 3) := zc1 (zc2 (zc2 (zc2 (zc2 zg03_1_5))))
theorem dX11_init_119 : decode cX11_init 119 = .ok (.dup, 1) := zc1 (zc2 (zc2 (zc2 (zc2 (zc2 zg03_1_5)))))
theorem dX11_init_120 : decode cX11_init 120 = .ok (.invokespecial 63, 3) := zc1 (zc2 (zc2 (zc2 (zc2 (zc2 (zc2 zg03_1_5))))))
theorem dX11_init_123 : decode cX11_init 123 = .ok (.putfield 68, 3) := zc1 (zc2 (zc2 (zc2 (zc2 (zc2 (zc2 (zc2 zg03_1_5)))))))
theorem dX11_init_126 : decode cX11_init 126 = .ok (.aload_n 0, 1) := zc1 (zc2 (zc2 (zc2 (zc2 (zc2 (zc2 (zc2 (zc2 zg03_1_5))))))))
theorem dX11_init_127 : decode cX11_init 127 = .ok (.new 71, 3) := zc1 (zc2 (zc2 (zc2 (zc2 (zc2 (zc2 (zc2 (zc2 (zc2 zg03_1_5)))))))))
theorem zg03_1_6 : zCj cX11_init [(130, .dup, 1), (131, .invokespecial 73, 3), (134, .putfield 74, 3), (137, .aload_n 0, 1), (138, .bipush 16, 2), (140, .anewarray 61, 3), (143, .putfield 78, 3), (146, .aload_n 0, 1), (147, .iconst 4, 1), (148, .anewarray 82, 3)] := zCo _ 130 (by decide +kernel)
theorem dX11_init_130 : decode cX11_init 130 = .ok (.dup, 1) := zc1 zg03_1_6
theorem dX11_init_131 : decode cX11_init 131 = .ok (.invokespecial 73, 3) := zc1 (zc2 zg03_1_6)
theorem dX11_init_134 : decode cX11_init 134 = .ok (.putfield 74, 3) := zc1 (zc2 (zc2 zg03_1_6))
theorem dX11_init_137 : decode cX11_init 137 = .ok (.aload_n 0, 1) := zc1 (zc2 (zc2 (zc2 zg03_1_6)))
theorem dX11_init_138 : decode cX11_init 138 = .ok (.bipush 16, 2) := zc1 (zc2 (zc2 (zc2 (zc2 zg03_1_6))))
theorem dX11_init_140 : decode cX11_init 140 = .ok (.anewarray 61, 3) := zc1 (zc2 (zc2 (zc2 (zc2 (zc2 zg03_1_6)))))
theorem dX11_init_143 : decode cX11_init 143 = .ok (.putfield 78, 3) := zc1 (zc2 (zc2 (zc2 (zc2 (zc2 (zc2 zg03_1_6))))))
theorem dX11_init_146 : decode cX11_init 146 = .ok (.aload_n 0, 1) := zc1 (zc2 (zc2 (zc2 (zc2 (zc2 (zc2 (zc2 zg03_1_6)))))))
theorem dX11_init_147 : decode cX11_init 147 = .ok (.iconst 4, 1) := zc1 (zc2 (zc2 (zc2 (zc2 (zc2 (zc2 (zc2 (zc2 zg03_1_6))))))))
theorem dX11_init_148 : decode cX11_init 148 = .ok (.anewarray 82, 3) := zc1 (zc2 (zc2 (zc2 (zc2 (zc2 (zc2 (zc2 (zc2 (zc2 zg03_1_6)))))))))
theorem zg03_1_7 : zCj cX11_init [(151, .putfield 84, 3), (154, .aload_n 0, 1), (155, .iconst 0, 1), (156, .putfield 88, 3), (159, .aload_n 0, 1), (160, .iconst 0, 1), (161, .putfield 92, 3), (164, .iconst 0, 1), (165, .istore_n 1, 1), (166, .iload_n 1, 1)] := zCo _ 151 (by decide +kernel)
theorem dX11_init_151 : decode cX11_init 151 = .ok (.putfield 84, 3) := zc1 zg03_1_7
theorem dX11_init_154 : decode cX11_init 154 = .ok (.aload_n 0, 1) := zc1 (zc2 zg03_1_7)
theorem dX11_init_155 : decode cX11_init 155 = .ok (.iconst 0, 1) := zc1 (zc2 (zc2 zg03_1_7))
theorem dX11_init_156 : decode cX11_init 156 = .ok (.putfield 88, 3) := zc1 (zc2 (zc2 (zc2 zg03_1_7)))
theorem dX11_init_159 : decode cX11_init 159 = .ok (.aload_n 0, 1) := zc1 (zc2 (zc2 (zc2 (zc2 zg03_1_7))))
theorem dX11_init_160 : decode cX11_init 160 = .ok (.iconst 0, 1) := zc1 (zc2 (zc2 (zc2 (zc2 (zc2 zg03_1_7)))))
theorem dX11_init_161 : decode cX11_init 161 = .ok (.putfield 92, 3) := zc1 (zc2 (zc2 (zc2 (zc2 (zc2 (zc2 zg03_1_7))))))
theorem dX11_init_164 : decode cX11_init 164 = .ok (.iconst 0, 1) := zc1 (zc2 (zc2 (zc2 (zc2 (zc2 (zc2 (zc2 zg03_1_7)))))))
theorem dX11_init_165 : decode cX11_init 165 = .ok (.istore_n 1, 1) := zc1 (zc2 (zc2 (zc2 (zc2 (zc2 (zc2 (zc2 (zc2 zg03_1_7))))))))
theorem dX11_init_166 : decode cX11_init 166 = .ok (.iload_n 1, 1) := zc1 (zc2 (zc2 (zc2 (zc2 (zc2 (zc2 (zc2 (zc2 (zc2 zg03_1_7)))))))))
theorem zg03_1_8 : zCj cX11_init [(167, .bipush 16, 2), (169, .if_icmp .ge 22, 3), (172, .aload_n 0, 1), (173, .getfield 78, 3), (176, .iload_n 1, 1), (177, .new 61, 3), (180, .dup, 1), (181, .invokespecial 63, 3), (184, .aastore, 1), (185, .iinc 1 1, 3)] := zCo _ 167 (by decide +kernel)
theorem dX11_init_167 : decode cX11_init 167 = .ok (.bipush 16, 2) := zc1 zg03_1_8
theorem dX11_init_169 : decode cX11_init 169 = .ok (.if_icmp .ge 22, 3) := zc1 (zc2 zg03_1_8)
theorem dX11_init_172 : decode cX11_init 172 = .ok (.aload_n 0, 1) := zc1 (zc2 (zc2 zg03_1_8))
theorem dX11_init_173 : decode cX11_init 173 = .ok (.getfield 78, 3) := zc1 (zc2 (zc2 (zc2 zg03_1_8)))
theorem dX11_init_176 : decode cX11_init 176 = .ok (.iload_n 1, 1) := zc1 (zc2 (zc2 (zc2 (zc2 zg03_1_8))))
theorem dX11_init_177 : decode cX11_init 177 = .ok (.new 61, 3) := zc1 (zc2 (zc2 (zc2 (zc2 (zc2 zg03_1_8)))))
theorem dX11_init_180 : decode cX11_init 180 = .ok (.dup, 1) := zc1 (zc2 (zc2 (zc2 (zc2 (zc2 (zc2 zg03_1_8))))))
theorem dX11_init_181 : decode cX11_init 181 = .ok (.invokespecial 63, 3) := zc1 (zc2 (zc2 (zc2 (zc2 (zc2 (zc2 (zc2 zg03_1_8)))))))
theorem dX11_init_184 : decode cX11_init 184 = .ok (.aastore, 1) := zc1 (zc2 (zc2 (zc2 (zc2 (zc2 (zc2 (zc2 (zc2 zg03_1_8))))))))
theorem dX11_init_185 : decode cX11_init 185 = .ok (.iinc 1 1, 3) := zc1 (zc2 (zc2 (zc2 (zc2 (zc2 (zc2 (zc2 (zc2 (zc2 zg03_1_8)))))))))
theorem zg03_1_9 : zCj cX11_init [(188, .goto (-22), 3), (191, .iconst 0, 1), (192, .istore_n 1, 1), (193, .iload_n 1, 1), (194, .iconst 4, 1), (195, .if_icmp .ge 22, 3), (198, .aload_n 0, 1), (199, .getfield 84, 3), (202, .iload_n 1, 1), (203, .new 82, 3)] := zCo _ 188 (by decide +kernel)
theorem dX11_init_188 : decode cX11_init 188 = .ok (.goto (-22), 3) := zc1 zg03_1_9
theorem dX11_init_191 : decode cX11_init 191 = .ok (.iconst 0, 1) := zc1 (zc2 zg03_1_9)
theorem dX11_init_192 : decode cX11_init 192 = .ok (.istore_n 1, 1) := zc1 (zc2 (zc2 zg03_1_9))
theorem dX11_init_193 : decode cX11_init 193 = .ok (.iload_n 1, 1) := zc1 (zc2 (zc2 (zc2 zg03_1_9)))
theorem dX11_init_194 : decode cX11_init 194 = .ok (.iconst 4, 1) := zc1 (zc2 (zc2 (zc2 (zc2 zg03_1_9))))
theorem dX11_init_195 : decode cX11_init 195 = .ok (.if_icmp .ge 22, 3) := zc1 (zc2 (zc2 (zc2 (zc2 (zc2 zg03_1_9)))))
theorem dX11_init_198 : decode cX11_init 198 = .ok (.aload_n 0, 1) := zc1 (zc2 (zc2 (zc2 (zc2 (zc2 (zc2 zg03_1_9))))))
theorem dX11_init_199 : decode cX11_init 199 = .ok (.getfield 84, 3) := zc1 (zc2 (zc2 (zc2 (zc2 (zc2 (zc2 (zc2 zg03_1_9)))))))
theorem dX11_init_202 : decode cX11_init 202 = .ok (.iload_n 1, 1) := zc1 (zc2 (zc2 (zc2 (zc2 (zc2 (zc2 (zc2 (zc2 zg03_1_9))))))))
theorem dX11_init_203 : decode cX11_init 203 = .ok (.new 82, 3) := zc1 (zc2 (zc2 (zc2 (zc2 (zc2 (zc2 (zc2 (zc2 (zc2 zg03_1_9)))))))))
theorem zg03_1_10 : zCj cX11_init [(206, .dup, 1), (207, .invokespecial 95, 3), (210, .aastore, 1), (211, .iinc 1 1, 3), (214, .goto (-21), 3), (217, .return_, 1)] := zCo _ 206 (by decide +kernel)
theorem dX11_init_206 : decode cX11_init 206 = .ok (.dup, 1) := zc1 zg03_1_10
theorem dX11_init_207 : decode cX11_init 207 = .ok (.invokespecial 95, 3) := zc1 (zc2 zg03_1_10)
theorem dX11_init_210 : decode cX11_init 210 = .ok (.aastore, 1) := zc1 (zc2 (zc2 zg03_1_10))
theorem dX11_init_211 : decode cX11_init 211 = .ok (.iinc 1 1, 3) := zc1 (zc2 (zc2 (zc2 zg03_1_10)))
theorem dX11_init_214 : decode cX11_init 214 = .ok (.goto (-21), 3) := zc1 (zc2 (zc2 (zc2 (zc2 zg03_1_10))))
theorem dX11_init_217 : decode cX11_init 217 = .ok (.return_, 1) := zc1 (zc2 (zc2 (zc2 (zc2 (zc2 zg03_1_10)))))
theorem zg03_1_11 : zCj cX12_init [(0, .aload_n 0, 1), (1, .invokespecial 1, 3), (4, .aload_n 0, 1), (5, .sipush 1000, 3)] := zCo _ 0 (by decide +kernel)
theorem dX12_init_0 : decode cX12_init 0 = .ok (.aload_n 0, 1) := zc1 zg03_1_11
theorem dX12_init_1 : decode cX12_init 1 = .ok (.invokespecial 1, 3) := zc1 (zc2 zg03_1_11)
theorem dX12_init_4 : decode cX12_init 4 = .ok (.aload_n 0, 1) := zc1 (zc2 (zc2 zg03_1_11))
theorem dX12_init_5 : decode cX12_init 5 = .ok (.sipush 1000, 3) := zc1 (zc2 (zc2 (zc2 zg03_1_11)))
theorem dX12_init_8 : decode cX12_init 8 = .ok (.newarray .int, 2) := by decide +kernel
theorem zg03_1_12 : zCj cX12_init [(10, .putfield 7, 3), (13, .aload_n 0, 1), (14, .bipush 8, 2)] := zCo _ 10 (by decide +kernel)
theorem dX12_init_10 : decode cX12_init 10 = .ok (.putfield 7, 3) := zc1 zg03_1_12
theorem dX12_init_13 : decode cX12_init 13 = .ok (.aload_n 0, 1) := zc1 (zc2 zg03_1_12)
theorem dX12_init_14 : decode cX12_init 14 = .ok (.bipush 8, 2) := zc1 (zc2 (zc2 zg03_1_12))
theorem dX12_init_16 : decode cX12_init 16 = .ok (.newarray .int, 2) := by decide +kernel
theorem zg03_1_13 : zCj cX12_init [(18, .putfield 13, 3), (21, .aload_n 0, 1), (22, .bipush 12, 2)] := zCo _ 18 (by decide +kernel)
theorem dX12_init_18 : decode cX12_init 18 = .ok (.putfield 13, 3) := zc1 zg03_1_13
theorem dX12_init_21 : decode cX12_init 21 = .ok (.aload_n 0, 1) := zc1 (zc2 zg03_1_13)
theorem dX12_init_22 : decode cX12_init 22 = .ok (.bipush 12, 2) := zc1 (zc2 (zc2 zg03_1_13))
theorem dX12_init_24 : decode cX12_init 24 = .ok (.newarray .long, 2) := by decide +kernel
theorem zg03_1_14 : zCj cX12_init [(26, .putfield 16, 3), (29, .aload_n 0, 1), (30, .bipush 12, 2)] := zCo _ 26 (by decide +kernel)
theorem dX12_init_26 : decode cX12_init 26 = .ok (.putfield 16, 3) := zc1 zg03_1_14
theorem dX12_init_29 : decode cX12_init 29 = .ok (.aload_n 0, 1) := zc1 (zc2 zg03_1_14)
theorem dX12_init_30 : decode cX12_init 30 = .ok (.bipush 12, 2) := zc1 (zc2 (zc2 zg03_1_14))
theorem dX12_init_32 : decode cX12_init 32 = .ok (.newarray .long, 2) := by decide +kernel
theorem zg03_1_15 : zCj cX12_init [(34, .putfield 20, 3), (37, .aload_n 0, 1), (38, .bipush 12, 2)] := zCo _ 34 (by decide +kernel)
theorem dX12_init_34 : decode cX12_init 34 = .ok (.putfield 20, 3) := zc1 zg03_1_15
theorem dX12_init_37 : decode cX12_init 37 = .ok (.aload_n 0, 1) := zc1 (zc2 zg03_1_15)
theorem dX12_init_38 : decode cX12_init 38 = .ok (.bipush 12, 2) := zc1 (zc2 (zc2 zg03_1_15))
theorem dX12_init_40 : decode cX12_init 40 = .ok (.newarray .int, 2) := by decide +kernel
theorem zg03_1_16 : zCj cX12_init [(42, .putfield 23, 3), (45, .aload_n 0, 1), (46, .bipush 12, 2)] := zCo _ 42 (by decide +kernel)
theorem dX12_init_42 : decode cX12_init 42 = .ok (.putfield 23, 3) := zc1 zg03_1_16
theorem dX12_init_45 : decode cX12_init 45 = .ok (.aload_n 0, 1) := zc1 (zc2 zg03_1_16)
theorem dX12_init_46 : decode cX12_init 46 = .ok (.bipush 12, 2) := zc1 (zc2 (zc2 zg03_1_16))
theorem dX12_init_48 : decode cX12_init 48 = .ok (.newarray .int, 2) := by decide +kernel
theorem zg03_1_17 : zCj cX12_init [(50, .putfield 26, 3), (53, .aload_n 0, 1), (54, .bipush 12, 2)] := zCo _ 50 (by decide +kernel)
theorem dX12_init_50 : decode cX12_init 50 = .ok (.putfield 26, 3) := zc1 zg03_1_17
theorem dX12_init_53 : decode cX12_init 53 = .ok (.aload_n 0, 1) := zc1 (zc2 zg03_1_17)
theorem dX12_init_54 : decode cX12_init 54 = .ok (.bipush 12, 2) := zc1 (zc2 (zc2 zg03_1_17))
theorem dX12_init_56 : decode cX12_init 56 = .ok (.newarray .int, 2) := by decide +kernel
theorem zg03_1_18 : zCj cX12_init [(58, .putfield 29, 3), (61, .aload_n 0, 1), (62, .bipush 12, 2)] := zCo _ 58 (by decide +kernel)
theorem dX12_init_58 : decode cX12_init 58 = .ok (.putfield 29, 3) := zc1 zg03_1_18
theorem dX12_init_61 : decode cX12_init 61 = .ok (.aload_n 0, 1) := zc1 (zc2 zg03_1_18)
theorem dX12_init_62 : decode cX12_init 62 = .ok (.bipush 12, 2) := zc1 (zc2 (zc2 zg03_1_18))
theorem dX12_init_64 : decode cX12_init 64 = .ok (.newarray .int, 2) := by decide +kernel
theorem zg03_1_19 : zCj cX12_init [(66, .putfield 32, 3), (69, .aload_n 0, 1), (70, .bipush 12, 2)] := zCo _ 66 (by decide +kernel)
theorem dX12_init_66 : decode cX12_init 66 = .ok (.putfield 32, 3) := zc1 zg03_1_19
theorem dX12_init_69 : decode cX12_init 69 = .ok (.aload_n 0, 1) := zc1 (zc2 zg03_1_19)
theorem dX12_init_70 : decode cX12_init 70 = .ok (.bipush 12, 2) := zc1 (zc2 (zc2 zg03_1_19))
theorem dX12_init_72 : decode cX12_init 72 = .ok (.newarray .int, 2) := by decide +kernel
theorem zg03_1_20 : zCj cX12_init [(74, .putfield 35, 3), (77, .aload_n 0, 1), (78, .bipush 12, 2)] := zCo _ 74 (by decide +kernel)
theorem dX12_init_74 : decode cX12_init 74 = .ok (.putfield 35, 3) := zc1 zg03_1_20
theorem dX12_init_77 : decode cX12_init 77 = .ok (.aload_n 0, 1) := zc1 (zc2 zg03_1_20)
theorem dX12_init_78 : decode cX12_init 78 = .ok (.bipush 12, 2) := zc1 (zc2 (zc2 zg03_1_20))
theorem dX12_init_80 : decode cX12_init 80 = .ok (.newarray .int, 2) := by decide +kernel
theorem zg03_1_21 : zCj cX12_init [(82, .putfield 38, 3), (85, .aload_n 0, 1), (86, .iconst 2, 1)] := zCo _ 82 (by decide +kernel)
theorem dX12_init_82 : decode cX12_init 82 = .ok (.putfield 38, 3) := zc1 zg03_1_21
theorem dX12_init_85 : decode cX12_init 85 = .ok (.aload_n 0, 1) := zc1 (zc2 zg03_1_21)
theorem dX12_init_86 : decode cX12_init 86 = .ok (.iconst 2, 1) := zc1 (zc2 (zc2 zg03_1_21))
theorem dX12_init_87 : decode cX12_init 87 = .ok (.newarray .int, 2) := by decide +kernel
theorem zg03_1_22 : zCj cX12_init [(89, .putfield 41, 3), (92, .aload_n 0, 1), (93, .iconst 2, 1)] := zCo _ 89 (by decide +kernel)
theorem dX12_init_89 : decode cX12_init 89 = .ok (.putfield 41, 3) := zc1 zg03_1_22
theorem dX12_init_92 : decode cX12_init 92 = .ok (.aload_n 0, 1) := zc1 (zc2 zg03_1_22)
theorem dX12_init_93 : decode cX12_init 93 = .ok (.iconst 2, 1) := zc1 (zc2 (zc2 zg03_1_22))
theorem dX12_init_94 : decode cX12_init 94 = .ok (.newarray .int, 2) := by decide +kernel
theorem zg03_1_23 : zCj cX12_init [(96, .putfield 44, 3), (99, .aload_n 0, 1), (100, .sipush 2000, 3)] := zCo _ 96 (by decide +kernel)
theorem dX12_init_96 : decode cX12_init 96 = .ok (.putfield 44, 3) := zc1 zg03_1_23
theorem dX12_init_99 : decode cX12_init 99 = .ok (.aload_n 0, 1) := zc1 (zc2 zg03_1_23)
theorem dX12_init_100 : decode cX12_init 100 = .ok (.sipush 2000, 3) := zc1 (zc2 (zc2 zg03_1_23))
theorem dX12_init_103 : decode cX12_init 103 = .ok (.newarray .int, 2) := by decide +kernel
theorem zg03_1_24 : zCj cX12_init [(105, .putfield 47, 3), (108, .aload_n 0, 1), (109, .bipush 7, 2)] := zCo _ 105 (by decide +kernel)
theorem dX12_init_105 : decode cX12_init 105 = .ok (.putfield 47, 3) := zc1 zg03_1_24
theorem dX12_init_108 : decode cX12_init 108 = .ok (.aload_n 0, 1) := zc1 (zc2 zg03_1_24)
theorem dX12_init_109 : decode cX12_init 109 = .ok (.bipush 7, 2) := zc1 (zc2 (zc2 zg03_1_24))
theorem dX12_init_111 : decode cX12_init 111 = .ok (.newarray .int, 2) := by decide +kernel
theorem zg03_1_25 : zCj cX12_init [(113, .putfield 50, 3), (116, .aload_n 0, 1), (117, .bipush 7, 2)] := zCo _ 113 (by decide +kernel)
theorem dX12_init_113 : decode cX12_init 113 = .ok (.putfield 50, 3) := zc1 zg03_1_25
theorem dX12_init_116 : decode cX12_init 116 = .ok (.aload_n 0, 1) := zc1 (zc2 zg03_1_25)
theorem dX12_init_117 : decode cX12_init 117 = .ok (.bipush 7, 2) := zc1 (zc2 (zc2 zg03_1_25))
theorem dX12_init_119 : decode cX12_init 119 = .ok (.newarray .boolean, 2) := by decide +kernel
theorem zg03_1_26 : zCj cX12_init [(121, .putfield 53, 3), (124, .aload_n 0, 1), (125, .bipush 7, 2)] := zCo _ 121 (by decide +kernel)
theorem dX12_init_121 : decode cX12_init 121 = .ok (.putfield 53, 3) := zc1 zg03_1_26
theorem dX12_init_124 : decode cX12_init 124 = .ok (.aload_n 0, 1) := zc1 (zc2 zg03_1_26)
theorem dX12_init_125 : decode cX12_init 125 = .ok (.bipush 7, 2) := zc1 (zc2 (zc2 zg03_1_26))
theorem dX12_init_127 : decode cX12_init 127 = .ok (.newarray .int, 2) := by decide +kernel
theorem zg03_1_27 : zCj cX12_init [(129, .putfield 57, 3), (132, .aload_n 0, 1), (133, .bipush 7, 2)] := zCo _ 129 (by decide +kernel)
theorem dX12_init_129 : decode cX12_init 129 = .ok (.putfield 57, 3) := zc1 zg03_1_27
theorem dX12_init_132 : decode cX12_init 132 = .ok (.aload_n 0, 1) := zc1 (zc2 zg03_1_27)
theorem dX12_init_133 : decode cX12_init 133 = .ok (.bipush 7, 2) := zc1 (zc2 (zc2 zg03_1_27))
theorem dX12_init_135 : decode cX12_init 135 = .ok (.newarray .int, 2) := by decide +kernel
theorem zg03_1_28 : zCj cX12_init [(137, .putfield 60, 3), (140, .aload_n 0, 1), (141, .bipush 7, 2)] := zCo _ 137 (by decide +kernel)
theorem dX12_init_137 : decode cX12_init 137 = .ok (.putfield 60, 3) := zc1 zg03_1_28
theorem dX12_init_140 : decode cX12_init 140 = .ok (.aload_n 0, 1) := zc1 (zc2 zg03_1_28)
theorem dX12_init_141 : decode cX12_init 141 = .ok (.bipush 7, 2) := zc1 (zc2 (zc2 zg03_1_28))
theorem dX12_init_143 : decode cX12_init 143 = .ok (.newarray .int, 2) := by decide +kernel
theorem zg03_1_29 : zCj cX12_init [(145, .putfield 63, 3), (148, .aload_n 0, 1), (149, .bipush 7, 2)] := zCo _ 145 (by decide +kernel)
theorem dX12_init_145 : decode cX12_init 145 = .ok (.putfield 63, 3) := zc1 zg03_1_29
theorem dX12_init_148 : decode cX12_init 148 = .ok (.aload_n 0, 1) := zc1 (zc2 zg03_1_29)
theorem dX12_init_149 : decode cX12_init 149 = .ok (.bipush 7, 2) := zc1 (zc2 (zc2 zg03_1_29))
theorem dX12_init_151 : decode cX12_init 151 = .ok (.newarray .int, 2) := by decide +kernel
theorem zg03_1_30 : zCj cX12_init [(153, .putfield 66, 3), (156, .aload_n 0, 1), (157, .bipush 7, 2)] := zCo _ 153 (by decide +kernel)
theorem dX12_init_153 : decode cX12_init 153 = .ok (.putfield 66, 3) := zc1 zg03_1_30
theorem dX12_init_156 : decode cX12_init 156 = .ok (.aload_n 0, 1) := zc1 (zc2 zg03_1_30)
theorem dX12_init_157 : decode cX12_init 157 = .ok (.bipush 7, 2) := zc1 (zc2 (zc2 zg03_1_30))
theorem dX12_init_159 : decode cX12_init 159 = .ok (.newarray .int, 2) := by decide +kernel
theorem zg03_1_31 : zCj cX12_init [(161, .putfield 69, 3), (164, .aload_n 0, 1), (165, .bipush 7, 2)] := zCo _ 161 (by decide +kernel)
theorem dX12_init_161 : decode cX12_init 161 = .ok (.putfield 69, 3) := zc1 zg03_1_31
theorem dX12_init_164 : decode cX12_init 164 = .ok (.aload_n 0, 1) := zc1 (zc2 zg03_1_31)
theorem dX12_init_165 : decode cX12_init 165 = .ok (.bipush 7, 2) := zc1 (zc2 (zc2 zg03_1_31))
theorem dX12_init_167 : decode cX12_init 167 = .ok (.newarray .int, 2) := by decide +kernel
theorem zg03_1_32 : zCj cX12_init [(169, .putfield 72, 3), (172, .aload_n 0, 1), (173, .bipush 7, 2)] := zCo _ 169 (by decide +kernel)
theorem dX12_init_169 : decode cX12_init 169 = .ok (.putfield 72, 3) := zc1 zg03_1_32
theorem dX12_init_172 : decode cX12_init 172 = .ok (.aload_n 0, 1) := zc1 (zc2 zg03_1_32)
theorem dX12_init_173 : decode cX12_init 173 = .ok (.bipush 7, 2) := zc1 (zc2 (zc2 zg03_1_32))
theorem dX12_init_175 : decode cX12_init 175 = .ok (.newarray .int, 2) := by decide +kernel
theorem zg03_1_33 : zCj cX12_init [(177, .putfield 75, 3), (180, .aload_n 0, 1), (181, .bipush 7, 2)] := zCo _ 177 (by decide +kernel)
theorem dX12_init_177 : decode cX12_init 177 = .ok (.putfield 75, 3) := zc1 zg03_1_33
theorem dX12_init_180 : decode cX12_init 180 = .ok (.aload_n 0, 1) := zc1 (zc2 zg03_1_33)
theorem dX12_init_181 : decode cX12_init 181 = .ok (.bipush 7, 2) := zc1 (zc2 (zc2 zg03_1_33))
theorem dX12_init_183 : decode cX12_init 183 = .ok (.newarray .int, 2) := by decide +kernel
theorem zg03_1_34 : zCj cX12_init [(185, .putfield 78, 3), (188, .aload_n 0, 1), (189, .bipush 7, 2)] := zCo _ 185 (by decide +kernel)
theorem dX12_init_185 : decode cX12_init 185 = .ok (.putfield 78, 3) := zc1 zg03_1_34
theorem dX12_init_188 : decode cX12_init 188 = .ok (.aload_n 0, 1) := zc1 (zc2 zg03_1_34)
theorem dX12_init_189 : decode cX12_init 189 = .ok (.bipush 7, 2) := zc1 (zc2 (zc2 zg03_1_34))
theorem dX12_init_191 : decode cX12_init 191 = .ok (.newarray .int, 2) := by decide +kernel
theorem zg03_1_35 : zCj cX12_init [(193, .putfield 81, 3), (196, .aload_n 0, 1), (197, .bipush 20, 2)] := zCo _ 193 (by decide +kernel)
theorem dX12_init_193 : decode cX12_init 193 = .ok (.putfield 81, 3) := zc1 zg03_1_35
theorem dX12_init_196 : decode cX12_init 196 = .ok (.aload_n 0, 1) := zc1 (zc2 zg03_1_35)
theorem dX12_init_197 : decode cX12_init 197 = .ok (.bipush 20, 2) := zc1 (zc2 (zc2 zg03_1_35))
theorem dX12_init_199 : decode cX12_init 199 = .ok (.newarray .int, 2) := by decide +kernel
theorem zg03_1_36 : zCj cX12_init [(201, .putfield 84, 3), (204, .aload_n 0, 1), (205, .bipush 6, 2)] := zCo _ 201 (by decide +kernel)
theorem dX12_init_201 : decode cX12_init 201 = .ok (.putfield 84, 3) := zc1 zg03_1_36
theorem dX12_init_204 : decode cX12_init 204 = .ok (.aload_n 0, 1) := zc1 (zc2 zg03_1_36)
theorem dX12_init_205 : decode cX12_init 205 = .ok (.bipush 6, 2) := zc1 (zc2 (zc2 zg03_1_36))
theorem dX12_init_207 : decode cX12_init 207 = .ok (.newarray .int, 2) := by decide +kernel
theorem zg03_1_37 : zCj cX12_init [(209, .putfield 87, 3), (212, .aload_n 0, 1), (213, .sipush 240, 3)] := zCo _ 209 (by decide +kernel)
theorem dX12_init_209 : decode cX12_init 209 = .ok (.putfield 87, 3) := zc1 zg03_1_37
theorem dX12_init_212 : decode cX12_init 212 = .ok (.aload_n 0, 1) := zc1 (zc2 zg03_1_37)
theorem dX12_init_213 : decode cX12_init 213 = .ok (.sipush 240, 3) := zc1 (zc2 (zc2 zg03_1_37))
theorem dX12_init_216 : decode cX12_init 216 = .ok (.newarray .int, 2) := by decide +kernel
theorem zg03_1_38 : zCj cX12_init [(218, .putfield 90, 3), (221, .aload_n 0, 1), (222, .sipush 240, 3)] := zCo _ 218 (by decide +kernel)
theorem dX12_init_218 : decode cX12_init 218 = .ok (.putfield 90, 3) := zc1 zg03_1_38
theorem dX12_init_221 : decode cX12_init 221 = .ok (.aload_n 0, 1) := zc1 (zc2 zg03_1_38)
theorem dX12_init_222 : decode cX12_init 222 = .ok (.sipush 240, 3) := zc1 (zc2 (zc2 zg03_1_38))
theorem dX12_init_225 : decode cX12_init 225 = .ok (.newarray .int, 2) := by decide +kernel
theorem zg03_1_39 : zCj cX12_init [(227, .putfield 93, 3), (230, .aload_n 0, 1), (231, .sipush 240, 3)] := zCo _ 227 (by decide +kernel)
theorem dX12_init_227 : decode cX12_init 227 = .ok (.putfield 93, 3) := zc1 zg03_1_39
theorem dX12_init_230 : decode cX12_init 230 = .ok (.aload_n 0, 1) := zc1 (zc2 zg03_1_39)
theorem dX12_init_231 : decode cX12_init 231 = .ok (.sipush 240, 3) := zc1 (zc2 (zc2 zg03_1_39))
theorem dX12_init_234 : decode cX12_init 234 = .ok (.newarray .int, 2) := by decide +kernel
theorem zg03_1_40 : zCj cX12_init [(236, .putfield 96, 3), (239, .aload_n 0, 1), (240, .iconst 5, 1)] := zCo _ 236 (by decide +kernel)
theorem dX12_init_236 : decode cX12_init 236 = .ok (.putfield 96, 3) := zc1 zg03_1_40
theorem dX12_init_239 : decode cX12_init 239 = .ok (.aload_n 0, 1) := zc1 (zc2 zg03_1_40)
theorem dX12_init_240 : decode cX12_init 240 = .ok (.iconst 5, 1) := zc1 (zc2 (zc2 zg03_1_40))
theorem dX12_init_241 : decode cX12_init 241 = .ok (.newarray .int, 2) := by decide +kernel
theorem zg03_1_41 : zCj cX12_init [(243, .putfield 99, 3), (246, .aload_n 0, 1), (247, .bipush 40, 2)] := zCo _ 243 (by decide +kernel)
theorem dX12_init_243 : decode cX12_init 243 = .ok (.putfield 99, 3) := zc1 zg03_1_41
theorem dX12_init_246 : decode cX12_init 246 = .ok (.aload_n 0, 1) := zc1 (zc2 zg03_1_41)
theorem dX12_init_247 : decode cX12_init 247 = .ok (.bipush 40, 2) := zc1 (zc2 (zc2 zg03_1_41))
theorem dX12_init_249 : decode cX12_init 249 = .ok (.newarray .int, 2) := by decide +kernel
theorem zg03_1_42 : zCj cX12_init [(251, .putfield 102, 3), (254, .aload_n 0, 1), (255, .bipush 40, 2)] := zCo _ 251 (by decide +kernel)
theorem dX12_init_251 : decode cX12_init 251 = .ok (.putfield 102, 3) := zc1 zg03_1_42
theorem dX12_init_254 : decode cX12_init 254 = .ok (.aload_n 0, 1) := zc1 (zc2 zg03_1_42)
theorem dX12_init_255 : decode cX12_init 255 = .ok (.bipush 40, 2) := zc1 (zc2 (zc2 zg03_1_42))
theorem dX12_init_257 : decode cX12_init 257 = .ok (.newarray .boolean, 2) := by decide +kernel
theorem zg03_1_43 : zCj cX12_init [(259, .putfield 105, 3), (262, .aload_n 0, 1), (263, .bipush 31, 2)] := zCo _ 259 (by decide +kernel)
theorem dX12_init_259 : decode cX12_init 259 = .ok (.putfield 105, 3) := zc1 zg03_1_43
theorem dX12_init_262 : decode cX12_init 262 = .ok (.aload_n 0, 1) := zc1 (zc2 zg03_1_43)
theorem dX12_init_263 : decode cX12_init 263 = .ok (.bipush 31, 2) := zc1 (zc2 (zc2 zg03_1_43))
theorem dX12_init_265 : decode cX12_init 265 = .ok (.newarray .int, 2) := by decide +kernel
theorem zg03_1_44 : zCj cX12_init [(267, .putfield 108, 3), (270, .aload_n 0, 1), (271, .bipush 31, 2)] := zCo _ 267 (by decide +kernel)
theorem dX12_init_267 : decode cX12_init 267 = .ok (.putfield 108, 3) := zc1 zg03_1_44
theorem dX12_init_270 : decode cX12_init 270 = .ok (.aload_n 0, 1) := zc1 (zc2 zg03_1_44)
theorem dX12_init_271 : decode cX12_init 271 = .ok (.bipush 31, 2) := zc1 (zc2 (zc2 zg03_1_44))
theorem dX12_init_273 : decode cX12_init 273 = .ok (.newarray .int, 2) := by decide +kernel
theorem zg03_1_45 : zCj cX12_init [(275, .putfield 111, 3), (278, .aload_n 0, 1), (279, .bipush 31, 2)] := zCo _ 275 (by decide +kernel)
theorem dX12_init_275 : decode cX12_init 275 = .ok (.putfield 111, 3) := zc1 zg03_1_45
theorem dX12_init_278 : decode cX12_init 278 = .ok (.aload_n 0, 1) := zc1 (zc2 zg03_1_45)
theorem dX12_init_279 : decode cX12_init 279 = .ok (.bipush 31, 2) := zc1 (zc2 (zc2 zg03_1_45))
theorem dX12_init_281 : decode cX12_init 281 = .ok (.newarray .int, 2) := by decide +kernel
theorem zg03_1_46 : zCj cX12_init [(283, .putfield 114, 3), (286, .aload_n 0, 1), (287, .bipush 124, 2)] := zCo _ 283 (by decide +kernel)
theorem dX12_init_283 : decode cX12_init 283 = .ok (.putfield 114, 3) := zc1 zg03_1_46
theorem dX12_init_286 : decode cX12_init 286 = .ok (.aload_n 0, 1) := zc1 (zc2 zg03_1_46)
theorem dX12_init_287 : decode cX12_init 287 = .ok (.bipush 124, 2) := zc1 (zc2 (zc2 zg03_1_46))
theorem dX12_init_289 : decode cX12_init 289 = .ok (.newarray .int, 2) := by decide +kernel
theorem zg03_1_47 : zCj cX12_init [(291, .putfield 117, 3), (294, .aload_n 0, 1), (295, .sipush 496, 3)] := zCo _ 291 (by decide +kernel)
theorem dX12_init_291 : decode cX12_init 291 = .ok (.putfield 117, 3) := zc1 zg03_1_47
theorem dX12_init_294 : decode cX12_init 294 = .ok (.aload_n 0, 1) := zc1 (zc2 zg03_1_47)
theorem dX12_init_295 : decode cX12_init 295 = .ok (.sipush 496, 3) := zc1 (zc2 (zc2 zg03_1_47))
theorem dX12_init_298 : decode cX12_init 298 = .ok (.newarray .int, 2) := by decide +kernel
theorem zg03_1_48 : zCj cX12_init [(300, .putfield 120, 3), (303, .aload_n 0, 1), (304, .iconst 4, 1)] := zCo _ 300 (by decide +kernel)
theorem dX12_init_300 : decode cX12_init 300 = .ok (.putfield 120, 3) := zc1 zg03_1_48
theorem dX12_init_303 : decode cX12_init 303 = .ok (.aload_n 0, 1) := zc1 (zc2 zg03_1_48)
theorem dX12_init_304 : decode cX12_init 304 = .ok (.iconst 4, 1) := zc1 (zc2 (zc2 zg03_1_48))
theorem dX12_init_305 : decode cX12_init 305 = .ok (.newarray .boolean, 2) := by decide +kernel
theorem zg03_1_49 : zCj cX12_init [(307, .putfield 123, 3), (310, .aload_n 0, 1), (311, .sipush 384, 3)] := zCo _ 307 (by decide +kernel)
theorem dX12_init_307 : decode cX12_init 307 = .ok (.putfield 123, 3) := zc1 zg03_1_49
theorem dX12_init_310 : decode cX12_init 310 = .ok (.aload_n 0, 1) := zc1 (zc2 zg03_1_49)
theorem dX12_init_311 : decode cX12_init 311 = .ok (.sipush 384, 3) := zc1 (zc2 (zc2 zg03_1_49))
theorem dX12_init_314 : decode cX12_init 314 = .ok (.newarray .boolean, 2) := by decide +kernel
theorem zg03_1_50 : zCj cX12_init [(316, .putfield 126, 3), (319, .aload_n 0, 1), (320, .getfield 13, 3), (323, .iconst 2, 1), (324, .iconst 1, 1), (325, .iastore, 1), (326, .aload_n 0, 1), (327, .getfield 13, 3), (330, .iconst 3, 1), (331, .iconst 2, 1)] := zCo _ 316 (by decide +kernel)
theorem dX12_init_316 : decode cX12_init 316 = .ok (.putfield 126, 3) := zc1 zg03_1_50
theorem dX12_init_319 : decode cX12_init 319 = .ok (.aload_n 0, 1) := zc1 (zc2 zg03_1_50)
theorem dX12_init_320 : decode cX12_init 320 = .ok (.getfield 13, 3) := zc1 (zc2 (zc2 zg03_1_50))
theorem dX12_init_323 : decode cX12_init 323 = .ok (.iconst 2, 1) := zc1 (zc2 (zc2 (zc2 zg03_1_50)))
theorem dX12_init_324 : decode cX12_init 324 = .ok (.iconst 1, 1) := zc1 (zc2 (zc2 (zc2 (zc2 zg03_1_50))))
theorem dX12_init_325 : decode cX12_init 325 = .ok (.iastore, 1) := zc1 (zc2 (zc2 (zc2 (zc2 (zc2 zg03_1_50)))))
theorem dX12_init_326 : decode cX12_init 326 = .ok (.aload_n 0, 1) := zc1 (zc2 (zc2 (zc2 (zc2 (zc2 (zc2 zg03_1_50))))))
theorem dX12_init_327 : decode cX12_init 327 = .ok (.getfield 13, 3) := zc1 (zc2 (zc2 (zc2 (zc2 (zc2 (zc2 (zc2 zg03_1_50)))))))
theorem dX12_init_330 : decode cX12_init 330 = .ok (.iconst 3, 1) := zc1 (zc2 (zc2 (zc2 (zc2 (zc2 (zc2 (zc2 (zc2 zg03_1_50))))))))
theorem dX12_init_331 : decode cX12_init 331 = .ok (.iconst 2, 1) := zc1 (zc2 (zc2 (zc2 (zc2 (zc2 (zc2 (zc2 (zc2 (zc2 zg03_1_50)))))))))
theorem zg03_1_51 : zCj cX12_init [(332, .iastore, 1), (333, .return_, 1)] := zCo _ 332 (by decide +kernel)
theorem dX12_init_332 : decode cX12_init 332 = .ok (.iastore, 1) := zc1 zg03_1_51
theorem dX12_init_333 : decode cX12_init 333 = .ok (.return_, 1) := zc1 (zc2 zg03_1_51)
section
/-! ===== the words of every contract here: one world, one list of array classes, constants of Sort ===== -/
noncomputable abbrev zT (ct : Nat → ClassId) : List (ClassId × FieldType) := [(ct 0, .int), (ct 1, .long), (ct 2, .char), (ct 3, .boolean), (ct 4, .object RX8), (ct 5, .object RX5)]
noncomputable def zPD (D : va_G) (A : Nat → Prop) (ws : va_W) (H : Heap) : Prop := va_P D vwCl ws H ∧ va_D A ws
noncomputable def zZ (zs : List (String × Nat)) (A : Nat → Prop) (U : State) (H : Heap) : Prop := ∀ q ∈ zs, va_Z RX7 q.1 "LBeardPass$Sort;" (.ref q.2) A U H
/-- the links between nest mates -/
noncomputable def zNl : List (String × Nat × MethodName × String) := [(RX11, 9, yX9_init, RX11), (RX2, 39, yX4_init, RX11), (RX11, 28, yX3_init, RX11), (RX11, 35, yX1_init, RX11), (RX10, 11, yX8_init, RX11), (RX11, 63, yX8_init, RX11), (RX11, 73, yX6_init, RX11), (RX11, 95, yX5_init, RX11), (RX5, 9, yX8_init, RX11), (RX5, 18, yX1_init, RX11), (RX5, 25, yX6_init, RX11), (RX3, 144, yX11_has, RX11), (RX3, 99, yX4_readWhole, RX11), (RX0, 70, yX11_has, RX11), (RX10, 69, yX11_has, RX11)]
noncomputable def zN (U : State) : Prop := (∀ q ∈ zNl, va_Nw (.methodLinkNest q.1 q.2.1 q.2.2.1 q.2.2.2) U) ∧ va_AO RX8 U ∧ va_AO RX5 U
noncomputable def zQ (D : va_G) (A : Nat → Prop) {S : Type} (rv : S → Option Value) (post : S → Prop) (B : S → va_W) : Array Value → State → Outcome → State → Prop := fun _ st oc t => (∃ u : S, oc = .returned (rv u) ∧ post u ∧ zPD D A (B u) t.heap) ∧ va_F A st t
noncomputable def zPc (D : va_G) (ct : Nat → ClassId) (zs : List (String × Nat)) (As : List Value) (w0 : va_W) (sz : Nat) : Array Value → State → Prop := va_Pc As (fun U => U.heap.size = sz ∧ va_P D vwCl w0 U.heap ∧ va_K D vwCl (zT ct) U ∧ va_D (fun _ => True) w0 ∧ zZ zs (va_A w0 sz) U U.heap ∧ zN U)
noncomputable def zC (l : Launch) (y : MethodName) (ws : List Cond) (rm : Room) (D : va_G) (ct : Nat → ClassId) (zs : List (String × Nat)) (As : List Value) (w0 : va_W) {S : Type} (rv : S → Option Value) (post : S → Prop) (B : S → va_W) (mc ms : Nat) : Prop :=
  ∀ sz : Nat, Met l y ws rm (zPc D ct zs As w0 sz) (zQ D (va_A w0 sz) rv post B) mc ms (va_A w0 sz)
theorem zZ.nil {A : Nat → Prop} {U : State} {H : Heap} : zZ [] A U H := fun _ h => nomatch h
theorem zZ.sub {zs zs' : List (String × Nat)} {A : Nat → Prop} {U : State} {H : Heap} (h : zZ zs A U H) (hs : ∀ q ∈ zs', q ∈ zs) : zZ zs' A U H := fun q hq => h q (hs q hq)
theorem zsub {D : va_G} {cl : List vw_C} {ws w0 : va_W} {H : Heap} (hP : va_P D cl ws H) (isC : List Nat) (hC : isC.map (fun i => ws[i]?) = w0.map some) : va_P D cl w0 H := by
  intro k q hk
  have h1 : (isC.map (fun i => ws[i]?))[k]? = some (some q) := by rw [hC, List.getElem?_map, hk]; rfl
  rw [List.getElem?_map] at h1
  cases hi : isC[k]? with
  | none => rw [hi] at h1; cases h1
  | some i => rw [hi] at h1; exact hP i q (Option.some.inj h1)
theorem zPD.sub {D : va_G} {A : Nat → Prop} {ws w0 : va_W} {H : Heap} (h : zPD D A ws H) (isC : List Nat) (hn : va_nd isC = true) (hC : isC.map (fun i => ws[i]?) = w0.map some) : zPD D A w0 H := ⟨zsub h.1 isC hC, h.2.sub isC hn hC⟩
theorem zofW {l : Launch} {y : MethodName} {ws ws' : List Cond} {rm : Room} {D : va_G} {ct : Nat → ClassId} {zs : List (String × Nat)} {As : List Value} {w0 : va_W} {S : Type} {rv : S → Option Value} {post : S → Prop} {B : S → va_W} {mc ms : Nat} (cc : ByteArray) (maxL : Nat) (ret : Option FieldType) (hy : plainName y.cls = true) (hw : ws = Cond.code y cc maxL ret :: ws') (hlen : (lg_sl As).length ≤ maxL)
    (body : ∀ (p : Program) (e : Env) (s : State) (m : MethodId) (below : List Frame) (meth : Method) (c : Code) (A : Nat → Prop), p.tables.exec = Jvm.exec → c.code = cc → meth.sig.returnType = ret → c.maxLocals = maxL → (∀ w ∈ ws, w.before As.toArray s = true) → s.vm.findClass y.cls = some m.cls → meth.locks = false → meth.name = y.name → va_K D vwCl (zT ct) s → (∀ q, s.heap.size ≤ q → A q) → zZ zs A s s.heap → zN s →
      ∀ (H : Heap) (locs : List Loc), zPD D A w0 H → va_S A s.heap H locs → ∀ ls : Array Slot, lv_has ls maxL (lv_args 0 As) → W p l e rm s m As.toArray below meth c H locs 0 0 (MQ below (zQ D A rv post B) As.toArray s mc ms A) (F0 m 0 ls [])) : zC l y ws rm D ct zs As w0 rv post B mc ms := by
  intro sz
  refine Met.ofW (cc := cc) (maxL := maxL) (ret := ret) hy hw ?_
  intro p e s m args below meth c s₁ Bd hml hv
  obtain ⟨rfl, hsz, hP, hK, hD0, hZ, hN⟩ := hv
  have hts := atoms_spec (ws := ws) Bd.pre
  subst hsz
  have hD := hD0.self (sz := s.heap.size)
  have hl := lv_entry As (n := maxL) hlen
  rw [lg_entry_eq]
  exact body p e s m below meth c (va_A w0 s.heap.size) Bd.exec Bd.bytes Bd.returns hml hts (findClass_of_methodNamed Bd.named) Bd.notSynchronized (name_of_methodNamed Bd.named Bd.method).1 hK (fun q h => Or.inr h) hZ hN _ _ ⟨hP, hD⟩ va_S.rf _ hl
section ZB
variable {p : Program} {l : Launch} {e : Env} {R : Room} {s : State} {m : MethodId} {args : Array Value} {below : List Frame} {meth : Method} {c : Code} {H : Heap} {locs : List Loc} {cells slots : Nat} {Q : State → Prop}
variable {cc : ByteArray} {pc : Nat} {ls : Array Slot} {rest st0 : List Value} {D : va_G} {ct : Nat → ClassId} {zs : List (String × Nat)} {A : Nat → Prop} {a : Nat} {ws w0 wr : va_W}
theorem zPc.blind {As : List Value} {sz : Nat} : FrameBlind (zPc D ct zs As w0 sz) := fun a U g mk q => by
  obtain ⟨q0, q1, qP, qK, qD, qZ, qN⟩ := q
  exact ⟨q0, q1, qP, va_K.moved (u := U) (U := U.calling g mk a) (Vm.Alike.refl U.vm) qK, qD, fun x hx => va_Z.moved (u := U) (U := U.calling g mk a) (Vm.Alike.refl U.vm) (qZ x hx), ⟨fun x hx => va_Nw.same (u := U) (U := U.calling g mk a) rfl rfl (qN.1 x hx), va_AO.moved (u := U) (U := U.calling g mk a) (Vm.Alike.refl U.vm) qN.2.1, va_AO.moved (u := U) (U := U.calling g mk a) (Vm.Alike.refl U.vm) qN.2.2⟩⟩
theorem zpre {As : List Value} (hK : va_K D vwCl (zT ct) s) (hw : zPD D A ws H) (hS : va_S A s.heap H locs) (hA : ∀ q, s.heap.size ≤ q → A q) (hZ : zZ zs A s s.heap) (hN : zN s) (isC : List Nat) (hnC : va_nd isC = true) (hC : isC.map (fun i => ws[i]?) = w0.map some) : ∀ U : State, U.heap = H → s.WarmedH U.vm → zPc D ct zs As w0 H.size As.toArray U := by
  intro U hU hW
  have hF := va_free (wc := w0) hw.2 hS hA isC hC
  refine ⟨rfl, by rw [hU], by rw [hU]; exact zsub hw.1 isC hC, va_K.moved hW.alike hK, (hw.2.sub isC hnC hC).weaken (fun _ _ _ _ => trivial), fun q hq => ?_, fun q hq => va_Nw.warmM hW (hN.1 q hq), hN.2.1.moved hW.alike, hN.2.2.moved hW.alike⟩
  rw [hU]
  exact va_Z.moved hW.alike (((hZ q hq).kept hS.2.1).narrow hF)
theorem zpreS {As : List Value} (hK : va_K D vwCl (zT ct) s) (hw : zPD D A ws H) (hS : va_S A s.heap H locs) (hA : ∀ q, s.heap.size ≤ q → A q) (hZ : zZ zs A s s.heap) (hN : zN s) (isC : List Nat) (hnC : va_nd isC = true) (hC : isC.map (fun i => ws[i]?) = w0.map some) : PreS s H (zPc D ct zs As w0 H.size) As := ⟨zPc.blind, zpre hK hw hS hA hZ hN isC hnC hC⟩
theorem zpreV {As : List Value} {b : Addr} {q : vw_C} {fs : List Value} (hK : va_K D vwCl (zT ct) s) (hw : zPD D A ws H) (hS : va_S A s.heap H locs) (hA : ∀ q, s.heap.size ≤ q → A q) (hZ : zZ zs A s s.heap) (hN : zN s) (isC : List Nat) (hnC : va_nd isC = true) (hC : isC.map (fun i => ws[i]?) = w0.map some) (ci q0 : Nat) (hc : vwCl[ci]? = some q) (he : ws[q0]? = some (b, .inr (ci, fs))) : PreV s H q.1 b (zPc D ct zs (.ref b :: As) w0 H.size) As := ⟨zPc.blind, va_recv hK hw.1 hc he, zpre hK hw hS hA hZ hN isC hnC hC⟩
theorem zcall {S : Type} {rv : S → Option Value} {post : S → Prop} {B : S → va_W} {mc ms : Nat} {a9 : Array Value} (hr : va_Run p l e R s m args below meth c H locs cells slots mc ms (F0 m pc ls st0) rest (zQ D (va_A w0 H.size) rv post B a9) (va_A w0 H.size)) (hw : zPD D A ws H) (hS : va_S A s.heap H locs) (hA : ∀ q, s.heap.size ≤ q → A q)
    (isC isR : List Nat) (hC : isC.map (fun i => ws[i]?) = w0.map some) (hR : isR.map (fun i => ws[i]?) = wr.map some) (hnR : va_nd isR = true) (hdis : ∀ i ∈ isR, i ∉ isC)
    (kk : ∀ (u : S) (H1 : Heap) (locs1 : List Loc), post u → zPD D A (wr ++ B u) H1 → va_S A s.heap H1 locs1 → W p l e R s m args below meth c H1 locs1 (cells + mc) (slots + ms) Q (F0 m (pc + 3) ls ((rv u).toList ++ rest))) : W p l e R s m args below meth c H locs cells slots Q (F0 m pc ls st0) := by
  have hF := va_free (wc := w0) hw.2 hS hA isC hC
  intro T hT X
  obtain ⟨v, st₀, t, T', L, h0, X', hL, e1, e2, ⟨⟨u, hv, hp, hb⟩, hz, hk⟩, st⟩ := hr T hT X
  cases hv
  rw [h0] at hz hk
  obtain ⟨j1, j2⟩ := va_join (H1 := t.heap) hw.1 hw.2 isC isR hC hR hnR hdis hk hF hb.1 hb.2
  obtain ⟨t2, a1, b1⟩ := kk u T'.heap (locs ++ L) hp (by rw [e1]; exact ⟨j1, j2⟩)
    ⟨Nat.le_trans hS.1 (by rw [e1]; exact hz), fun q h1 h2 => by rw [e1, hk q (Nat.lt_of_lt_of_le h1 hS.1) (fun z => h2 (hF q z))]; exact hS.2.1 q h1 h2, fun q hq => by
      rcases List.mem_append.mp hq with h | h
      · exact hS.2.2 q h
      · exact hF _ (hL q h)⟩ T' rfl X'
  exact ⟨t2, st t2 a1, b1⟩
theorem zval {ws : va_W} (is : List Nat) (h : is.all (fun i => decide (i < ws.length)) = true) : is.map (fun i => ws[i]?) = (is.filterMap (fun i => ws[i]?)).map some := by
  induction is with
  | nil => rfl
  | cons i is ih =>
    simp only [List.all_cons, Bool.and_eq_true, decide_eq_true_eq] at h
    have h1 : ws[i]? = some ws[i] := List.getElem?_eq_getElem h.1
    rw [List.map_cons, List.filterMap_cons, h1]
    simp only [List.map_cons]
    rw [ih h.2]
theorem zapart {isC isR : List Nat} (h : isR.all (fun i => !(isC.contains i)) = true) : ∀ i ∈ isR, i ∉ isC := by
  intro i hi hc
  have h1 := List.all_eq_true.mp h i hi
  simp [hc] at h1
theorem zcall2 {S : Type} {rv : S → Option Value} {post : S → Prop} {B : S → va_W} {mc ms : Nat} {a9 : Array Value} (hr : va_Run p l e R s m args below meth c H locs cells slots mc ms (F0 m pc ls st0) rest (zQ D (va_A w0 H.size) rv post B a9) (va_A w0 H.size)) (hw : zPD D A ws H) (hS : va_S A s.heap H locs) (hA : ∀ q, s.heap.size ≤ q → A q)
    (isC isR : List Nat) (hC : isC.map (fun i => ws[i]?) = w0.map some) (hv : isR.all (fun i => decide (i < ws.length)) = true) (hnR : va_nd isR = true) (hdis : isR.all (fun i => !(isC.contains i)) = true)
    (kk : ∀ (u : S) (H1 : Heap) (locs1 : List Loc), post u → zPD D A (isR.filterMap (fun i => ws[i]?) ++ B u) H1 → va_S A s.heap H1 locs1 → W p l e R s m args below meth c H1 locs1 (cells + mc) (slots + ms) Q (F0 m (pc + 3) ls ((rv u).toList ++ rest))) : W p l e R s m args below meth c H locs cells slots Q (F0 m pc ls st0) :=
  zcall hr hw hS hA isC isR hC (zval isR hv) hnR (zapart hdis) kk
/-- the top of the stack under another name -/
theorem ztop {x : Value} (v : Value) (hv : x = v) (k : W p l e R s m args below meth c H locs cells slots Q (F0 m pc ls (v :: rest))) : W p l e R s m args below meth c H locs cells slots Q (F0 m pc ls (x :: rest)) := hv ▸ k
theorem zfr {st : List Value} (pc2 : Nat) (st2 : List Value) (h : pc = pc2) (h2 : st = st2) (k : W p l e R s m args below meth c H locs cells slots Q (F0 m pc2 ls st2)) : W p l e R s m args below meth c H locs cells slots Q (F0 m pc ls st) := h ▸ h2 ▸ k
section ZR
variable {S : Type} {rv : S → Option Value} {post : S → Prop} {B : S → va_W} {mc ms : Nat}
theorem zvret (hx : p.tables.exec = Jvm.exec) (hb : c.code = cc) (hr : meth.sig.returnType = none) (hlocks : meth.locks = false) (u : S) (hv : rv u = none) (hp : post u) (hw : zPD D A ws H) (isB : List Nat) (hn : va_nd isB = true) (hB : isB.map (fun i => ws[i]?) = (B u).map some) (hS : va_S A s.heap H locs) (hc : cells ≤ mc) (hs : slots ≤ ms) (hdg : decode cc pc = .ok (.return_, 1)) :
    W p l e R s m args below meth c H locs cells slots (MQ below (zQ D A rv post B) args s mc ms A) (F0 m pc ls []) :=
  W.widen hc hs (W.vret hx hb hr (fun t ht hW => ⟨⟨u, by rw [hv], hp, by rw [ht]; exact hw.sub isB hn hB⟩, hS.F ht⟩) hS.2.2 hdg hlocks)
theorem ziret {v : Int32} (hx : p.tables.exec = Jvm.exec) (hb : c.code = cc) {ty : FieldType} (hr : meth.sig.returnType = some ty) (hnar : narrow ty (.int v) = .int v) (hlocks : meth.locks = false) (u : S) (hv : rv u = some (.int v)) (hp : post u) (hw : zPD D A ws H) (isB : List Nat) (hn : va_nd isB = true) (hB : isB.map (fun i => ws[i]?) = (B u).map some) (hS : va_S A s.heap H locs) (hc : cells ≤ mc) (hs : slots ≤ ms) (hdg : decode cc pc = .ok (.ireturn, 1)) :
    W p l e R s m args below meth c H locs cells slots (MQ below (zQ D A rv post B) args s mc ms A) (F0 m pc ls [.int v]) :=
  W.widen hc hs (W.zret hx hb hr hnar (fun t ht hW => ⟨⟨u, by rw [hv], hp, by rw [ht]; exact hw.sub isB hn hB⟩, hS.F ht⟩) hS.2.2 hdg hlocks)
end ZR
/-- a field is written: the world with it -/
theorem zput (hexec : p.tables.exec = Jvm.exec) (hb : c.code = cc) {own ref C : String} {T : u_T} {N ci index : Nat} {Ts : List Cond} (hts : ∀ w ∈ Ts, w.before args s = true) (hin : ∀ w ∈ u_ws C T N, w ∈ Ts) (ty0 : Nat → FieldType) (hty : ∀ k, k < N → parseFieldDescriptor (T k).2.2.1 = some (ty0 k)) (hnm : ∀ a, a < N → ∀ b, b < N → a ≠ b → (T a).2.1 ≠ (T b).2.1) (hown : s.vm.findClass own = some m.cls) (hK : va_K D vwCl (zT ct) s) (hw : zPD D A ws H) (hS0 : va_S A s.heap H locs) (q0 : Nat) {fs : List Value} (he : ws[q0]? = some (a, .inr (ci, fs))) (hc : vwCl[ci]? = some (C, T, N)) (k : Nat) (hk : k < N) (hlink : (Cond.fieldLink own index ref (T k).2.1 (T k).2.2.1).before args s = true) (hsame : ∀ x, s.fieldFound? (T k).1 (T k).2.1 (T k).2.2.1 = some x → s.fieldFound? ref (T k).2.1 (T k).2.2.1 = some x) (hfin : (T k).2.2.2 = false) {ty : FieldType} {v : Value} (hd : parseFieldDescriptor (T k).2.2.1 = some ty) (hn : narrow ty v = v) (hfit : fits ty v = true) (hl : k < fs.length)
    (hdg : decode cc pc = .ok (.putfield index, 3)) (w2 : va_W) (hw2 : ws.set q0 (a, .inr (ci, fs.set k v)) = w2) (kk : ∀ (H1 : Heap) (locs1 : List Loc), zPD D A w2 H1 → va_S A s.heap H1 locs1 → W p l e R s m args below meth c H1 locs1 cells slots Q (F0 m (pc + 3) ls rest)) : W p l e R s m args below meth c H locs cells slots Q (F0 m pc ls (v :: .ref a :: rest)) := by
  subst hw2
  exact va_put hexec hb hts hin ty0 hty hnm hown hK hw.1 hw.2 hS0 q0 he hc k hk hlink hsame hfin hd hn hfit hl hdg (fun H1 l1 h1 h2 h3 => kk H1 l1 ⟨h1, h2⟩ h3)
theorem zputF (hexec : p.tables.exec = Jvm.exec) (hb : c.code = cc) {own ref C : String} {T : u_T} {N ci index : Nat} {Ts : List Cond} (hts : ∀ w ∈ Ts, w.before args s = true) (hin : ∀ w ∈ u_ws C T N, w ∈ Ts) (ty0 : Nat → FieldType) (hty : ∀ k, k < N → parseFieldDescriptor (T k).2.2.1 = some (ty0 k)) (hnm : ∀ a, a < N → ∀ b, b < N → a ≠ b → (T a).2.1 ≠ (T b).2.1) (hown : s.vm.findClass own = some m.cls) (hK : va_K D vwCl (zT ct) s) (hw : zPD D A ws H) (hS0 : va_S A s.heap H locs) (q0 : Nat) {fs : List Value} (he : ws[q0]? = some (a, .inr (ci, fs))) (hc : vwCl[ci]? = some (C, T, N)) (k : Nat) (hk : k < N) (hlink : (Cond.fieldLink own index ref (T k).2.1 (T k).2.2.1).before args s = true) (hsame : ∀ x, s.fieldFound? (T k).1 (T k).2.1 (T k).2.2.1 = some x → s.fieldFound? ref (T k).2.1 (T k).2.2.1 = some x) (hfin : (T k).2.2.2 = true) (hin2 : meth.name = "<init>") (hdecl : (T k).1 = own) {ty : FieldType} {v : Value} (hd : parseFieldDescriptor (T k).2.2.1 = some ty) (hn : narrow ty v = v) (hfit : fits ty v = true) (hl : k < fs.length)
    (hdg : decode cc pc = .ok (.putfield index, 3)) (w2 : va_W) (hw2 : ws.set q0 (a, .inr (ci, fs.set k v)) = w2) (kk : ∀ (H1 : Heap) (locs1 : List Loc), zPD D A w2 H1 → va_S A s.heap H1 locs1 → W p l e R s m args below meth c H1 locs1 cells slots Q (F0 m (pc + 3) ls rest)) : W p l e R s m args below meth c H locs cells slots Q (F0 m pc ls (v :: .ref a :: rest)) := by
  subst hw2
  exact va_putF hexec hb hts hin ty0 hty hnm hown hK hw.1 hw.2 hS0 q0 he hc k hk hlink hsame hfin hin2 hdecl hd hn hfit hl hdg (fun H1 l1 h1 h2 h3 => kk H1 l1 ⟨h1, h2⟩ h3)
theorem zix {i : Int32} {k n : Nat} (hi : i = nI k) (hk : k < n) (hn : n < 2 ^ 31) : vp_in i n ∧ i.toNatClampNeg = k := by
  subst hi
  exact ⟨vp_in_nI hk hn, nI_clamp (Nat.lt_trans hk hn)⟩
theorem ziald (hexec : p.tables.exec = Jvm.exec) (hb : c.code = cc) (hK : va_K D vwCl (zT ct) s) (hw : zPD D A ws H) (q0 : Nat) {n : Nat} {f : Nat → Int32} (ha : ws[q0]? = some (a, .inl (ct 0, n, .inl f))) {i : Int32} (k : Nat) (hi : i = nI k) (hk : k < n) (hn : n < 2 ^ 31) (hdg : decode cc pc = .ok (.iaload, 1))
    (kk : W p l e R s m args below meth c H locs cells slots Q (F0 m (pc + 1) ls (.int (f k) :: rest))) : W p l e R s m args below meth c H locs cells slots Q (F0 m pc ls (.int i :: .ref a :: rest)) := by
  obtain ⟨h1, h2⟩ := zix hi hk hn
  refine va_iald hexec hb hK hw.1 q0 0 ha rfl h1 hdg ?_
  rw [h2]; exact kk
theorem zcald (hexec : p.tables.exec = Jvm.exec) (hb : c.code = cc) (hK : va_K D vwCl (zT ct) s) (hw : zPD D A ws H) (q0 : Nat) {n : Nat} {f : Nat → Int32} (ha : ws[q0]? = some (a, .inl (ct 2, n, .inl f))) {i : Int32} (k : Nat) (hi : i = nI k) (hk : k < n) (hn : n < 2 ^ 31) (hdg : decode cc pc = .ok (.caload, 1))
    (kk : W p l e R s m args below meth c H locs cells slots Q (F0 m (pc + 1) ls (.int (f k) :: rest))) : W p l e R s m args below meth c H locs cells slots Q (F0 m pc ls (.int i :: .ref a :: rest)) := by
  obtain ⟨h1, h2⟩ := zix hi hk hn
  refine va_cald hexec hb hK hw.1 q0 2 ha rfl h1 hdg ?_
  rw [h2]; exact kk
theorem zzald (hexec : p.tables.exec = Jvm.exec) (hb : c.code = cc) (hK : va_K D vwCl (zT ct) s) (hw : zPD D A ws H) (q0 : Nat) {n : Nat} {f : Nat → Int32} (ha : ws[q0]? = some (a, .inl (ct 3, n, .inl f))) {i : Int32} (k : Nat) (hi : i = nI k) (hk : k < n) (hn : n < 2 ^ 31) (hdg : decode cc pc = .ok (.baload, 1))
    (kk : W p l e R s m args below meth c H locs cells slots Q (F0 m (pc + 1) ls (.int (f k) :: rest))) : W p l e R s m args below meth c H locs cells slots Q (F0 m pc ls (.int i :: .ref a :: rest)) := by
  obtain ⟨h1, h2⟩ := zix hi hk hn
  refine va_zald hexec hb hK hw.1 q0 3 ha rfl h1 hdg ?_
  rw [h2]; exact kk
theorem zlald (hexec : p.tables.exec = Jvm.exec) (hb : c.code = cc) (hK : va_K D vwCl (zT ct) s) (hw : zPD D A ws H) (q0 : Nat) {n : Nat} {f : Nat → Int64} (ha : ws[q0]? = some (a, .inl (ct 1, n, .inr (.inl f)))) {i : Int32} (k : Nat) (hi : i = nI k) (hk : k < n) (hn : n < 2 ^ 31) (hdg : decode cc pc = .ok (.laload, 1))
    (kk : W p l e R s m args below meth c H locs cells slots Q (F0 m (pc + 1) ls (.long (f k) :: rest))) : W p l e R s m args below meth c H locs cells slots Q (F0 m pc ls (.int i :: .ref a :: rest)) := by
  obtain ⟨h1, h2⟩ := zix hi hk hn
  refine va_lald hexec hb hK hw.1 q0 1 ha rfl h1 hdg ?_
  rw [h2]; exact kk
theorem ziast (hexec : p.tables.exec = Jvm.exec) (hb : c.code = cc) (hK : va_K D vwCl (zT ct) s) (hw : zPD D A ws H) (hS : va_S A s.heap H locs) (q0 : Nat) {n : Nat} {f : Nat → Int32} (ha : ws[q0]? = some (a, .inl (ct 0, n, .inl f))) {i x : Int32} (k : Nat) (hi : i = nI k) (hk : k < n) (hn : n < 2 ^ 31) (hdg : decode cc pc = .ok (.iastore, 1)) (w2 : va_W) (hw2 : ws.set q0 (a, .inl (ct 0, n, .inl (upd f k x))) = w2)
    (kk : ∀ (H1 : Heap) (locs1 : List Loc), zPD D A w2 H1 → va_S A s.heap H1 locs1 → W p l e R s m args below meth c H1 locs1 cells slots Q (F0 m (pc + 1) ls rest)) : W p l e R s m args below meth c H locs cells slots Q (F0 m pc ls (.int x :: .int i :: .ref a :: rest)) := by
  obtain ⟨h1, h2⟩ := zix hi hk hn
  subst hw2
  refine va_iast hexec hb hK hw.1 hw.2 hS q0 0 ha rfl h1 hdg ?_
  rw [h2]
  exact fun H1 l1 g1 g2 g3 => kk H1 l1 ⟨g1, g2⟩ g3
theorem zlast (hexec : p.tables.exec = Jvm.exec) (hb : c.code = cc) (hK : va_K D vwCl (zT ct) s) (hw : zPD D A ws H) (hS : va_S A s.heap H locs) (q0 : Nat) {n : Nat} {f : Nat → Int64} (ha : ws[q0]? = some (a, .inl (ct 1, n, .inr (.inl f)))) {i : Int32} {x : Int64} (k : Nat) (hi : i = nI k) (hk : k < n) (hn : n < 2 ^ 31) (hdg : decode cc pc = .ok (.lastore, 1)) (w2 : va_W) (hw2 : ws.set q0 (a, .inl (ct 1, n, .inr (.inl (vp_updL f k x)))) = w2)
    (kk : ∀ (H1 : Heap) (locs1 : List Loc), zPD D A w2 H1 → va_S A s.heap H1 locs1 → W p l e R s m args below meth c H1 locs1 cells slots Q (F0 m (pc + 1) ls rest)) : W p l e R s m args below meth c H locs cells slots Q (F0 m pc ls (.long x :: .int i :: .ref a :: rest)) := by
  obtain ⟨h1, h2⟩ := zix hi hk hn
  subst hw2
  refine va_last hexec hb hK hw.1 hw.2 hS q0 1 ha rfl h1 hdg ?_
  rw [h2]
  exact fun H1 l1 g1 g2 g3 => kk H1 l1 ⟨g1, g2⟩ g3
end ZB
end
section
/-! ===== new cells; the rows of references; array copies: in the words of part 04 ===== -/
theorem zcls {cA cB : ClassId} {U : State} {ty : FieldType} (h : va_RA U cA ty) (h' : va_RA U cB ty) : cA = cB := by
  cases ty with
  | object C =>
    obtain ⟨_, _, -, -, -, h4⟩ := h
    obtain ⟨_, _, -, -, -, h4'⟩ := h'
    exact Option.some.inj (h4.symm.trans h4')
  | _ => exact Option.some.inj (Eq.trans (Eq.symm h) h')
section ZM
variable {p : Program} {l : Launch} {e : Env} {R : Room} {s : State} {m : MethodId} {args : Array Value} {below : List Frame} {meth : Method} {c : Code} {H : Heap} {locs : List Loc} {cells slots : Nat} {Q : State → Prop}
variable {cc : ByteArray} {pc : Nat} {ls : Array Slot} {rest st0 : List Value} {D : va_G} {ct : Nat → ClassId} {zs : List (String × Nat)} {A : Nat → Prop} {a : Nat} {ws w0 wr : va_W}
theorem znew (hexec : p.tables.exec = Jvm.exec) (hb : c.code = cc) {own C : String} {T : u_T} {N ci index : Nat} {Ts : List Cond} (hts : ∀ w ∈ Ts, w.before args s = true) (hin : ∀ w ∈ u_ws C T N, w ∈ Ts) (ty : Nat → FieldType) (hty : ∀ k, k < N → parseFieldDescriptor (T k).2.2.1 = some (ty k)) (hown : s.vm.findClass own = some m.cls) (hcl : (Cond.classLink own index C).before args s = true) (hinst : (Cond.instantiable C N).before args s = true) (hini : (Cond.initialized C).before args s = true)
    (hK : va_K D vwCl (zT ct) s) (hw : zPD D A ws H) (hS : va_S A s.heap H locs) (hA : ∀ q, s.heap.size ≤ q → A q) (hc : vwCl[ci]? = some (C, T, N)) (fs : List Value) (hfs : (List.range N).map (fun j => defaultValue (ty j)) = fs) (hcells : cells + 1 ≤ R.cells) (hslots : slots + N ≤ R.slots) (hdg : decode cc pc = .ok (.new index, 3))
    (kk : ∀ (q : Nat) (H1 : Heap), zPD D A (ws ++ [(q, .inr (ci, fs))]) H1 → va_S A s.heap H1 locs → W p l e R s m args below meth c H1 locs (cells + 1) (slots + N) Q (F0 m (pc + 3) ls (.ref q :: rest))) : W p l e R s m args below meth c H locs cells slots Q (F0 m pc ls rest) := by
  refine va_new hexec hb hts hin ty hty hown hcl hinst hini hK hw.1 hw.2 hS hA hc (fs := fs) (fun j hj => ?_) hcells hslots hdg (fun q H1 h1 h2 h3 => kk q H1 ⟨h1, h2⟩ h3)
  subst hfs
  simp [vp_V, hj]
theorem znewa (hexec : p.tables.exec = Jvm.exec) (hb : c.code = cc) {atype : ArrayType} (harr : (Cond.arrayClass (newarray.typeOf atype)).before args s = true) (t0 : Nat) {cA : ClassId} (ht : (zT ct)[t0]? = some (cA, newarray.typeOf atype)) (hK : va_K D vwCl (zT ct) s) (hw : zPD D A ws H) (hS : va_S A s.heap H locs) (hA : ∀ q, s.heap.size ≤ q → A q)
    {n : Int32} (N' : Nat) (a0 : vp_A) (ha : ∀ cA : ClassId, vp_cell cA a0 = arrV cA N' (fun _ => defaultValue (newarray.typeOf atype))) (hn : n = nI N') (hN : N' < 65536) (hcb : componentBytes (newarray.typeOf atype) ≤ 8) (hcells : cells + 1 ≤ R.cells) (hslots : slots + N' ≤ R.slots) (hdg : decode cc pc = .ok (.newarray atype, 2))
    (kk : ∀ (q : Nat) (H1 : Heap), zPD D A (ws ++ [(q, .inl (cA, a0))]) H1 → va_S A s.heap H1 locs → W p l e R s m args below meth c H1 locs (cells + 1) (slots + N') Q (F0 m (pc + 2) ls (.ref q :: rest))) : W p l e R s m args below meth c H locs cells slots Q (F0 m pc ls (.int n :: rest)) := by
  subst hn
  have hN2 : N' < 2 ^ 31 := Nat.lt_trans hN (by decide)
  refine va_newa hexec hb harr rfl hK hw.1 hw.2 hS hA ha (nI_pos hN2) (nI_clamp hN2) (Nat.le_trans (Nat.mul_le_mul (Nat.le_of_lt hN) hcb) (by decide)) hcells hslots hdg (fun q cB H1 hKn h1 h2 h3 => ?_)
  have e1 : cB = cA := zcls (hKn.2 (zT ct).length (cB, newarray.typeOf atype) (by simp)).2 (hK.2 t0 _ ht).2
  subst e1
  exact kk q H1 ⟨h1, h2⟩ h3
theorem znewq (hexec : p.tables.exec = Jvm.exec) (hb : c.code = cc) {own C : String} {index : Nat} (hown : s.vm.findClass own = some m.cls) (hclink : (Cond.classLink own index C).before args s = true) (hover : (Cond.arrayOver (.object C)).before args s = true) (t0 : Nat) {cA : ClassId} (ht : (zT ct)[t0]? = some (cA, .object C)) (hK : va_K D vwCl (zT ct) s) (hw : zPD D A ws H) (hS : va_S A s.heap H locs) (hA : ∀ q, s.heap.size ≤ q → A q)
    {n : Int32} (N' : Nat) (hn : n = nI N') (hN : N' < 65536) (hcells : cells + 1 ≤ R.cells) (hslots : slots + N' ≤ R.slots) (hdg : decode cc pc = .ok (.anewarray index, 3))
    (kk : ∀ (q : Nat) (H1 : Heap), zPD D A (ws ++ [(q, .inl (cA, N', .inr (.inr (.inr (.inr (fun _ => none))))))]) H1 → va_S A s.heap H1 locs → W p l e R s m args below meth c H1 locs (cells + 1) (slots + N') Q (F0 m (pc + 3) ls (.ref q :: rest))) : W p l e R s m args below meth c H locs cells slots Q (F0 m pc ls (.int n :: rest)) := by
  subst hn
  have hN2 : N' < 2 ^ 31 := Nat.lt_trans hN (by decide)
  refine va_newq hexec hb hown hclink (va_AO.of hover) hK hw.1 hw.2 hS hA (nI_pos hN2) (nI_clamp hN2) (by omega) hcells hslots hdg (fun q cB H1 hKn h1 h2 h3 => ?_)
  have e1 : cB = cA := zcls (hKn.2 (zT ct).length (cB, .object C) (by simp)).2 (hK.2 t0 _ ht).2
  subst e1
  exact kk q H1 ⟨h1, h2⟩ h3
theorem zcast (hexec : p.tables.exec = Jvm.exec) (hb : c.code = cc) (hK : va_K D vwCl (zT ct) s) (hw : zPD D A ws H) (hS : va_S A s.heap H locs) (q0 : Nat) {n : Nat} {f : Nat → Int32} (ha : ws[q0]? = some (a, .inl (ct 2, n, .inl f))) {i x : Int32} (k : Nat) (hi : i = nI k) (hk : k < n) (hn : n < 2 ^ 31) (x2 : Int32) (hx2 : vp_nar .char x = x2) (hdg : decode cc pc = .ok (.castore, 1)) (w2 : va_W) (hw2 : ws.set q0 (a, .inl (ct 2, n, .inl (upd f k x2))) = w2)
    (kk : ∀ (H1 : Heap) (locs1 : List Loc), zPD D A w2 H1 → va_S A s.heap H1 locs1 → W p l e R s m args below meth c H1 locs1 cells slots Q (F0 m (pc + 1) ls rest)) : W p l e R s m args below meth c H locs cells slots Q (F0 m pc ls (.int x :: .int i :: .ref a :: rest)) := by
  obtain ⟨h1, h2⟩ := zix hi hk hn
  subst hw2 hx2
  refine va_cast hexec hb hK hw.1 hw.2 hS q0 2 ha rfl h1 hdg ?_
  rw [h2]
  exact fun H1 l1 g1 g2 g3 => kk H1 l1 ⟨g1, g2⟩ g3
theorem zzast (hexec : p.tables.exec = Jvm.exec) (hb : c.code = cc) (hK : va_K D vwCl (zT ct) s) (hw : zPD D A ws H) (hS : va_S A s.heap H locs) (q0 : Nat) {n : Nat} {f : Nat → Int32} (ha : ws[q0]? = some (a, .inl (ct 3, n, .inl f))) {i x : Int32} (k : Nat) (hi : i = nI k) (hk : k < n) (hn : n < 2 ^ 31) (x2 : Int32) (hx2 : vp_nar .boolean x = x2) (hdg : decode cc pc = .ok (.bastore, 1)) (w2 : va_W) (hw2 : ws.set q0 (a, .inl (ct 3, n, .inl (upd f k x2))) = w2)
    (kk : ∀ (H1 : Heap) (locs1 : List Loc), zPD D A w2 H1 → va_S A s.heap H1 locs1 → W p l e R s m args below meth c H1 locs1 cells slots Q (F0 m (pc + 1) ls rest)) : W p l e R s m args below meth c H locs cells slots Q (F0 m pc ls (.int x :: .int i :: .ref a :: rest)) := by
  obtain ⟨h1, h2⟩ := zix hi hk hn
  subst hw2 hx2
  refine va_zast hexec hb hK hw.1 hw.2 hS q0 3 ha rfl h1 hdg ?_
  rw [h2]
  exact fun H1 l1 g1 g2 g3 => kk H1 l1 ⟨g1, g2⟩ g3
theorem zaald (hexec : p.tables.exec = Jvm.exec) (hb : c.code = cc) (hK : va_K D vwCl (zT ct) s) (hw : zPD D A ws H) (q0 t0 : Nat) {cA : ClassId} {C : String} {n : Nat} {f : Nat → Option Nat} (ha : ws[q0]? = some (a, .inl (cA, n, .inr (.inr (.inr (.inr f)))))) (ht : (zT ct)[t0]? = some (cA, .object C)) {i : Int32} (k : Nat) (hi : i = nI k) (hk : k < n) (hn : n < 2 ^ 31) (q : Nat) (hq : f k = some q) (hdg : decode cc pc = .ok (.aaload, 1))
    (kk : W p l e R s m args below meth c H locs cells slots Q (F0 m (pc + 1) ls (.ref q :: rest))) : W p l e R s m args below meth c H locs cells slots Q (F0 m pc ls (.int i :: .ref a :: rest)) := by
  obtain ⟨h1, h2⟩ := zix hi hk hn
  refine va_aldq hexec hb hK hw.1 q0 t0 ha ht h1 hdg ?_
  rw [h2, hq]; exact kk
theorem zaast (hexec : p.tables.exec = Jvm.exec) (hb : c.code = cc) (hK : va_K D vwCl (zT ct) s) (hw : zPD D A ws H) (hS : va_S A s.heap H locs) (q0 t0 qk ci : Nat) {cA : ClassId} {r : vw_C} {n v : Nat} {vs : List Value} {f : Nat → Option Nat} (ha : ws[q0]? = some (a, .inl (cA, n, .inr (.inr (.inr (.inr f)))))) (ht : (zT ct)[t0]? = some (cA, .object r.1)) (hv : ws[qk]? = some (v, .inr (ci, vs))) (hc : vwCl[ci]? = some r) {i : Int32} (k : Nat) (hi : i = nI k) (hk : k < n) (hn : n < 2 ^ 31) (hdg : decode cc pc = .ok (.aastore, 1)) (w2 : va_W) (hw2 : ws.set q0 (a, .inl (cA, n, .inr (.inr (.inr (.inr (va_up f k (some v))))))) = w2)
    (kk : ∀ (H1 : Heap) (locs1 : List Loc), zPD D A w2 H1 → va_S A s.heap H1 locs1 → W p l e R s m args below meth c H1 locs1 cells slots Q (F0 m (pc + 1) ls rest)) : W p l e R s m args below meth c H locs cells slots Q (F0 m pc ls (.ref v :: .int i :: .ref a :: rest)) := by
  obtain ⟨h1, h2⟩ := zix hi hk hn
  subst hw2
  refine va_astq hexec hb hK hw.1 hw.2 hS q0 t0 qk ci ha ht hv hc h1 hdg ?_
  rw [h2]
  exact fun H1 l1 g1 g2 g3 => kk H1 l1 ⟨g1, g2⟩ g3
theorem zcopyi (hexec : p.tables.exec = Jvm.exec) (hb : c.code = cc) (hml : c.maxLocals = ls.size) {own : String} {index : Nat} (hown : s.vm.findClass own = some m.cls) (hlink : (Cond.methodLink own index arraycopyName).before args s = true) (hnat : (Cond.native arraycopyName).before args s = true) (hstat : (Cond.static arraycopyName).before args s = true) (hini : (Cond.initialized "java/lang/System").before args s = true)
    (hK : va_K D vwCl (zT ct) s) (hw : zPD D A ws H) (hS : va_S A s.heap H locs) (q0 q1 : Nat) {a0 : Nat} {n0 n1 : Nat} {f g : Nat → Int32} (ha0 : ws[q0]? = some (a0, .inl (ct 0, n0, .inl f))) (ha1 : ws[q1]? = some (a, .inl (ct 0, n1, .inl g)))
    {sp dp n : Int32} (n' : Nat) (e1 : sp = 0) (e2 : dp = 0) (e3 : n = nI n') (h3 : n' < 2 ^ 31) (h4 : n' ≤ n0) (h5 : n' ≤ n1)
    (hframes : 1 ≤ R.frames) (hlocals : (rest.map fun v => v.category).sum + (nativeFrameWords "java/lang/System" "arraycopy" 5 + 11) ≤ R.locals) (hdg : decode cc pc = .ok (.invokestatic index, 3)) (w2 : va_W) (hw2 : ws.set q1 (a, .inl (ct 0, n1, .inl (va_cpy f g 0 0 n'))) = w2)
    (kk : ∀ (H1 : Heap) (locs1 : List Loc), zPD D A w2 H1 → va_S A s.heap H1 locs1 → W p l e R s m args below meth c H1 locs1 cells slots Q (F0 m (pc + 3) ls rest)) : W p l e R s m args below meth c H locs cells slots Q (F0 m pc ls (.int n :: .int dp :: .ref a :: .int sp :: .ref a0 :: rest)) := by
  subst e1 e2 e3 hw2
  have z0 : (0 : Int32).toNatClampNeg = 0 := by decide
  refine va_copyi hexec hb hml hown hlink hnat hstat hini hK hw.1 hw.2 hS q0 q1 0 0 ha0 ha1 rfl rfl rfl (by decide) (by decide) (nI_pos h3) (by rw [z0, nI_clamp h3]; omega) (by rw [z0, nI_clamp h3]; omega) (fun _ _ => rfl) hframes hlocals hdg ?_
  rw [z0, nI_clamp h3]
  exact fun H1 l1 g1 g2 g3 => kk H1 l1 ⟨g1, g2⟩ g3
theorem zcopyl (hexec : p.tables.exec = Jvm.exec) (hb : c.code = cc) (hml : c.maxLocals = ls.size) {own : String} {index : Nat} (hown : s.vm.findClass own = some m.cls) (hlink : (Cond.methodLink own index arraycopyName).before args s = true) (hnat : (Cond.native arraycopyName).before args s = true) (hstat : (Cond.static arraycopyName).before args s = true) (hini : (Cond.initialized "java/lang/System").before args s = true)
    (hK : va_K D vwCl (zT ct) s) (hw : zPD D A ws H) (hS : va_S A s.heap H locs) (q0 q1 : Nat) {a0 : Nat} {n0 n1 : Nat} {f g : Nat → Int64} (ha0 : ws[q0]? = some (a0, .inl (ct 1, n0, .inr (.inl f)))) (ha1 : ws[q1]? = some (a, .inl (ct 1, n1, .inr (.inl g))))
    {sp dp n : Int32} (n' : Nat) (e1 : sp = 0) (e2 : dp = 0) (e3 : n = nI n') (h3 : n' < 2 ^ 31) (h4 : n' ≤ n0) (h5 : n' ≤ n1)
    (hframes : 1 ≤ R.frames) (hlocals : (rest.map fun v => v.category).sum + (nativeFrameWords "java/lang/System" "arraycopy" 5 + 11) ≤ R.locals) (hdg : decode cc pc = .ok (.invokestatic index, 3)) (w2 : va_W) (hw2 : ws.set q1 (a, .inl (ct 1, n1, .inr (.inl (va_cpy f g 0 0 n')))) = w2)
    (kk : ∀ (H1 : Heap) (locs1 : List Loc), zPD D A w2 H1 → va_S A s.heap H1 locs1 → W p l e R s m args below meth c H1 locs1 cells slots Q (F0 m (pc + 3) ls rest)) : W p l e R s m args below meth c H locs cells slots Q (F0 m pc ls (.int n :: .int dp :: .ref a :: .int sp :: .ref a0 :: rest)) := by
  subst e1 e2 e3 hw2
  have z0 : (0 : Int32).toNatClampNeg = 0 := by decide
  refine va_copyl hexec hb hml hown hlink hnat hstat hini hK hw.1 hw.2 hS q0 q1 1 1 ha0 ha1 rfl rfl rfl (by decide) (by decide) (nI_pos h3) (by rw [z0, nI_clamp h3]; omega) (by rw [z0, nI_clamp h3]; omega) (fun _ _ => rfl) hframes hlocals hdg ?_
  rw [z0, nI_clamp h3]
  exact fun H1 l1 g1 g2 g3 => kk H1 l1 ⟨g1, g2⟩ g3
/-- a loop with a counter: K i x is 'at its head, in the i-th round' -/
noncomputable abbrev zK (p : Program) (l : Launch) (e : Env) (R : Room) (s : State) (m : MethodId) (args : Array Value) (below : List Frame) (meth : Method) (c : Code) (Q : State → Prop) (D : va_G) (A : Nat → Prop) (pc nL : Nat) (st : List Value) {σ : Type} (Wd : Nat → σ → va_W) (Lc : Nat → σ → List (Nat × Value)) (nc ns : Nat → Nat) (i : Nat) (x : σ) : Prop :=
  ∀ (H : Heap) (locs : List Loc) (ls : Array Slot), zPD D A (Wd i x) H → va_S A s.heap H locs → lv_has ls nL (Lc i x) → W p l e R s m args below meth c H locs (nc i) (ns i) Q (F0 m pc ls st)
theorem zloop {σ : Type} (I : Nat → σ → Prop) (Wd : Nat → σ → va_W) (Lc : Nat → σ → List (Nat × Value)) (nc ns : Nat → Nat) {nL : Nat} {st : List Value} (N : Nat)
    (hx : ∀ x, I N x → zK p l e R s m args below meth c Q D A pc nL st Wd Lc nc ns N x)
    (hs : ∀ i x, i < N → I i x → (∀ x', I (i + 1) x' → zK p l e R s m args below meth c Q D A pc nL st Wd Lc nc ns (i + 1) x') → zK p l e R s m args below meth c Q D A pc nL st Wd Lc nc ns i x)
    (i0 : Nat) (x0 : σ) (h0 : i0 ≤ N) (hI : I i0 x0) : zK p l e R s m args below meth c Q D A pc nL st Wd Lc nc ns i0 x0 := by
  have key : ∀ (n i : Nat) (x : σ), i + n = N → I i x → zK p l e R s m args below meth c Q D A pc nL st Wd Lc nc ns i x := by
    intro n
    induction n with
    | zero => intro i x h hi; cases (Nat.add_zero i ▸ h); exact hx x hi
    | succ n ih => intro i x h hi; exact hs i x (by omega) hi (fun x' hi' => ih (i + 1) x' (by omega) hi')
  exact key (N - i0) i0 x0 (by omega) hI
end ZM
theorem zcong {D : va_G} {A : Nat → Prop} {w w' : va_W} {H : Heap} (h : w = w') (hw : zPD D A w H) : zPD D A w' H := h ▸ hw
end
/-! ===== plain facts of rows and numbers ===== -/
noncomputable def zfl (f : Nat → Int32) (v : Int32) (i : Nat) : Nat → Int32 := fun j => if j < i then v else f j
theorem zfl_0 (f : Nat → Int32) (v : Int32) : zfl f v 0 = f := by funext j; simp [zfl]
theorem zfl_s (f : Nat → Int32) (v : Int32) (i : Nat) : upd (zfl f v i) i v = zfl f v (i + 1) := by
  funext j
  by_cases h : j = i
  · subst h; rw [pk_us]; simp [zfl]
  · rw [pk_un h]; simp only [zfl]
    by_cases h1 : j < i
    · rw [if_pos h1, if_pos (by omega)]
    · rw [if_neg h1, if_neg (by omega)]
noncomputable def zsf (f : Nat → Int32) (n i : Nat) : Nat → Int32 := fun j => if j < i then f (n + j) else f j
theorem zsf_0 (f : Nat → Int32) (n : Nat) : zsf f n 0 = f := by funext j; simp [zsf]
theorem zsf_s (f : Nat → Int32) {n i : Nat} (hi : i < n) : upd (zsf f n i) i (zsf f n i (n + i)) = zsf f n (i + 1) := by
  funext j
  have e1 : zsf f n i (n + i) = f (n + i) := by simp only [zsf]; rw [if_neg (by omega)]
  by_cases h : j = i
  · subst h; rw [pk_us, e1]; simp [zsf]
  · rw [pk_un h]; simp only [zsf]
    by_cases h1 : j < i
    · rw [if_pos h1, if_pos (by omega)]
    · rw [if_neg h1, if_neg (by omega)]
noncomputable def zsL (f : Nat → Int64) (n i : Nat) : Nat → Int64 := fun j => if j < i then f (n + j) else f j
theorem zsL_0 (f : Nat → Int64) (n : Nat) : zsL f n 0 = f := by funext j; simp [zsL]
theorem zsL_s (f : Nat → Int64) {n i : Nat} (hi : i < n) : vp_updL (zsL f n i) i (zsL f n i (n + i)) = zsL f n (i + 1) := by
  funext j
  have e1 : zsL f n i (n + i) = f (n + i) := by simp only [zsL]; rw [if_neg (by omega)]
  by_cases h : j = i
  · subst h; rw [pk_uLs, e1]; simp [zsL]
  · rw [pk_uLn h]; simp only [zsL]
    by_cases h1 : j < i
    · rw [if_pos h1, if_pos (by omega)]
    · rw [if_neg h1, if_neg (by omega)]
noncomputable def zcp (f g : Nat → Int32) (a b i : Nat) : Nat → Int32 := fun j => if b ≤ j ∧ j < b + i then f (a + (j - b)) else g j
theorem zcp_0 (f g : Nat → Int32) (a b : Nat) : zcp f g a b 0 = g := by
  funext j; simp only [zcp]; rw [if_neg (by omega)]
theorem zcp_s (f g : Nat → Int32) (a b i : Nat) : upd (zcp f g a b i) (b + i) (f (a + i)) = zcp f g a b (i + 1) := by
  funext j
  by_cases h : j = b + i
  · subst h; rw [pk_us]; simp only [zcp]; rw [if_pos (by omega), Nat.add_sub_cancel_left]
  · rw [pk_un h]; simp only [zcp]
    by_cases h1 : b ≤ j ∧ j < b + i
    · rw [if_pos h1, if_pos (by omega)]
    · rw [if_neg h1, if_neg (by omega)]
/-- within(v, a, b), as a number -/
noncomputable def zwi (v a b : Int32) : Int32 := if v < a then 0 else if b < v then 0 else 1
/-! the signs of a word -/
noncomputable def zsh (j : Nat) : Int32 := 56 - 8 * nI j
theorem zsh_in : ∀ j, j < 8 → ¬ zsh j < 0 := by decide
theorem zsh_8 : zsh 8 < 0 := by decide
theorem zsh_s : ∀ j, j < 8 → zsh j + (-8) = zsh (j + 1) := by decide
theorem zsh_r : ∀ k, k < 24 → (56 : Int32) - 8 * (nI k &&& 7) = zsh (k % 8) := by decide
noncomputable def zsg (w : Int64) (j : Nat) : Int32 := ((w.toUInt64 >>> ((zsh j).toInt64.toUInt64 &&& Int64.toUInt64 63)).toInt64 &&& 255).toInt32
noncomputable def zstep (x : Int32) (t : Nat × (Nat → Int32)) : Nat × (Nat → Int32) := if x = 10 ∨ (32 ≤ x ∧ x ≤ 126) then (if t.1 < 1000 then (t.1 + 1, upd t.2 t.1 x) else t) else t
noncomputable def ztp (w : Int64) : Nat → Nat × (Nat → Int32) → Nat × (Nat → Int32)
  | 0, t => t
  | j + 1, t => zstep (zsg w j) (ztp w j t)
noncomputable def zwd (a b c : Int64) (k : Nat) : Int64 := if k < 8 then a else if k < 16 then b else c
noncomputable def ztp3 (a b c : Int64) : Nat → Nat × (Nat → Int32) → Nat × (Nat → Int32)
  | 0, t => t
  | k + 1, t => zstep (zsg (zwd a b c k) (k % 8)) (ztp3 a b c k t)
theorem ztp3_24 (a b c : Int64) (t : Nat × (Nat → Int32)) : ztp3 a b c 24 t = ztp c 8 (ztp b 8 (ztp a 8 t)) := rfl
theorem zstep_le {x : Int32} {t : Nat × (Nat → Int32)} (h : t.1 ≤ 1000) : (zstep x t).1 ≤ 1000 := by
  unfold zstep
  by_cases h1 : x = 10 ∨ (32 ≤ x ∧ x ≤ 126)
  · rw [if_pos h1]
    by_cases h2 : t.1 < 1000
    · rw [if_pos h2]; show t.1 + 1 ≤ 1000; omega
    · rw [if_neg h2]; exact h
  · rw [if_neg h1]; exact h
theorem ztp_le {w : Int64} {j : Nat} {t : Nat × (Nat → Int32)} (h : t.1 ≤ 1000) : (ztp w j t).1 ≤ 1000 := by
  induction j with
  | zero => exact h
  | succ j ih => exact zstep_le ih
theorem ztp3_le {a b c : Int64} {j : Nat} {t : Nat × (Nat → Int32)} (h : t.1 ≤ 1000) : (ztp3 a b c j t).1 ≤ 1000 := by
  induction j with
  | zero => exact h
  | succ j ih => exact zstep_le ih
theorem zstep_in {x : Int32} {t : Nat × (Nat → Int32)} (h1 : x = 10 ∨ (32 ≤ x ∧ x ≤ 126)) (h2 : t.1 < 1000) : zstep x t = (t.1 + 1, upd t.2 t.1 x) := by
  unfold zstep; rw [if_pos h1, if_pos h2]
theorem zstep_full {x : Int32} {t : Nat × (Nat → Int32)} (h2 : ¬ t.1 < 1000) : zstep x t = t := by
  unfold zstep
  by_cases h1 : x = 10 ∨ (32 ≤ x ∧ x ≤ 126)
  · rw [if_pos h1, if_neg h2]
  · rw [if_neg h1]
theorem zstep_no {x : Int32} {t : Nat × (Nat → Int32)} (h1 : ¬ (x = 10 ∨ (32 ≤ x ∧ x ≤ 126))) : zstep x t = t := by
  unfold zstep; rw [if_neg h1]
theorem zchar {x : Int32} (h : x = 10 ∨ (32 ≤ x ∧ x ≤ 126)) : vp_nar .char (x.toUInt32 % 65536).toInt32 = x := by
  have h0 : 0 ≤ x.toInt ∧ x.toInt < 128 := by
    rcases h with h | ⟨h, h'⟩
    · subst h; decide
    · have a1 := Int32.le_iff_toInt_le.mp h
      have a2 := Int32.le_iff_toInt_le.mp h'
      have b1 : (32 : Int32).toInt = 32 := by decide
      have b2 : (126 : Int32).toInt = 126 := by decide
      omega
  obtain ⟨j, hj, rfl⟩ : ∃ j : Nat, j < 128 ∧ x = nI j := by
    refine ⟨x.toInt.toNat, by omega, ?_⟩
    apply Int32.toInt_inj.mp
    rw [nI_toInt (by omega)]
    omega
  exact (show ∀ j : Nat, j < 128 → vp_nar .char ((nI j).toUInt32 % 65536).toInt32 = nI j by decide) j hj
set_option maxHeartbeats 4000000 in
set_option maxRecDepth 100000 in
/-- Standing(): five rows of six zeros -/
theorem c_X8_init (l : Launch) (D : va_G) (ct : Nat → ClassId) (h0 : Nat)  : zC l yX8_init wsX8_init ({ frames := 1, cells := 5, slots := 30, locals := 80 }) D ct [] [.ref h0] [(h0, .inr (7, [.null, .null, .null, .null, .null, .int 0]))] (S := Nat → Nat) (fun u => none) (fun u => True) (fun u => [(h0, .inr (7, [.ref (u 0), .ref (u 1), .ref (u 2), .ref (u 3), .ref (u 4), .int 0])), (u 0, .inl (ct 0, 6, .inl (fun _ => 0))), (u 1, .inl (ct 0, 6, .inl (fun _ => 0))), (u 2, .inl (ct 0, 6, .inl (fun _ => 0))), (u 3, .inl (ct 0, 6, .inl (fun _ => 0))), (u 4, .inl (ct 0, 6, .inl (fun _ => 0)))]) 5 30 := by
  refine zofW cX8_init 1 none (by decide) rfl (Nat.le_of_ble_eq_true rfl) ?_
  intro p e s m below meth c A hx hb hr hml hts hown hlocks hname hK hA hZ hN H locs hw hS ls hl
  have hown : s.vm.findClass RX8 = some m.cls := hown
  have hl : lv_has ls 1 [(0, .ref h0)] := hl
  have hiX8 : ∀ w ∈ wsX80, w ∈ wsX8_init := by decide +kernel
  refine lv_aload_n hx hb dX8_init_0 rfl (lv_at hl 0 rfl) ?_
  refine W.objInit hx hb hown (hts (.methodLink RX8 3 objectInit) (by decide +kernel)) (hts (.instanceMethod objectInit) (by decide +kernel)) (hts (.code objectInit ⟨#[0xb1]⟩ 1 none) (by decide +kernel)) rfl (by rw [hml]; exact hl.1) rfl dX8_init_1 (Nat.le_of_ble_eq_true rfl) (Nat.le_of_ble_eq_true rfl) ?_
  refine W.eq (g2 := F0 m 4 ls []) rfl ?_
  refine lv_aload_n hx hb dX8_init_4 rfl (lv_at hl 0 rfl) ?_
  refine lv_bipush (v := 6) hx hb dX8_init_5 (by decide) ?_
  refine znewa (atype := .int) hx hb (hts (.arrayClass .int) (by decide +kernel)) 0 rfl hK hw hS hA 6 (6, .inl (fun _ => 0)) (fun _ => rfl) (by decide) (by decide) (by decide) (Nat.le_of_ble_eq_true rfl) (Nat.le_of_ble_eq_true rfl) dX8_init_7 (fun q1 H hw hS => ?_)
  refine zputF (D := D) (ci := 7) (v := .ref q1) (ty := (.array .int)) hx hb hts hiX8 tyX8 tyX8_ok nmX8 hown hK hw hS 0 rfl rfl 0 (by decide) (hts (.fieldLink RX8 9 "BeardPass$Standing" "places" "[I") (by decide +kernel)) (fun _ h9 => h9) rfl hname rfl (by decide +kernel) rfl rfl (Nat.le_of_ble_eq_true rfl) dX8_init_9 [(h0, .inr (7, [.ref q1, .null, .null, .null, .null, .int 0])), (q1, .inl (ct 0, 6, .inl (fun _ => 0)))] rfl (fun H locs hw hS => ?_)
  refine lv_aload_n hx hb dX8_init_12 rfl (lv_at hl 0 rfl) ?_
  refine lv_bipush (v := 6) hx hb dX8_init_13 (by decide) ?_
  refine znewa (atype := .int) hx hb (hts (.arrayClass .int) (by decide +kernel)) 0 rfl hK hw hS hA 6 (6, .inl (fun _ => 0)) (fun _ => rfl) (by decide) (by decide) (by decide) (Nat.le_of_ble_eq_true rfl) (Nat.le_of_ble_eq_true rfl) dX8_init_15 (fun q2 H hw hS => ?_)
  refine zputF (D := D) (ci := 7) (v := .ref q2) (ty := (.array .int)) hx hb hts hiX8 tyX8 tyX8_ok nmX8 hown hK hw hS 0 rfl rfl 1 (by decide) (hts (.fieldLink RX8 15 "BeardPass$Standing" "beards" "[I") (by decide +kernel)) (fun _ h9 => h9) rfl hname rfl (by decide +kernel) rfl rfl (Nat.le_of_ble_eq_true rfl) dX8_init_17 [(h0, .inr (7, [.ref q1, .ref q2, .null, .null, .null, .int 0])), (q1, .inl (ct 0, 6, .inl (fun _ => 0))), (q2, .inl (ct 0, 6, .inl (fun _ => 0)))] rfl (fun H locs hw hS => ?_)
  refine lv_aload_n hx hb dX8_init_20 rfl (lv_at hl 0 rfl) ?_
  refine lv_bipush (v := 6) hx hb dX8_init_21 (by decide) ?_
  refine znewa (atype := .int) hx hb (hts (.arrayClass .int) (by decide +kernel)) 0 rfl hK hw hS hA 6 (6, .inl (fun _ => 0)) (fun _ => rfl) (by decide) (by decide) (by decide) (Nat.le_of_ble_eq_true rfl) (Nat.le_of_ble_eq_true rfl) dX8_init_23 (fun q3 H hw hS => ?_)
  refine zputF (D := D) (ci := 7) (v := .ref q3) (ty := (.array .int)) hx hb hts hiX8 tyX8 tyX8_ok nmX8 hown hK hw hS 0 rfl rfl 2 (by decide) (hts (.fieldLink RX8 18 "BeardPass$Standing" "forged" "[I") (by decide +kernel)) (fun _ h9 => h9) rfl hname rfl (by decide +kernel) rfl rfl (Nat.le_of_ble_eq_true rfl) dX8_init_25 [(h0, .inr (7, [.ref q1, .ref q2, .ref q3, .null, .null, .int 0])), (q1, .inl (ct 0, 6, .inl (fun _ => 0))), (q2, .inl (ct 0, 6, .inl (fun _ => 0))), (q3, .inl (ct 0, 6, .inl (fun _ => 0)))] rfl (fun H locs hw hS => ?_)
  refine lv_aload_n hx hb dX8_init_28 rfl (lv_at hl 0 rfl) ?_
  refine lv_bipush (v := 6) hx hb dX8_init_29 (by decide) ?_
  refine znewa (atype := .int) hx hb (hts (.arrayClass .int) (by decide +kernel)) 0 rfl hK hw hS hA 6 (6, .inl (fun _ => 0)) (fun _ => rfl) (by decide) (by decide) (by decide) (Nat.le_of_ble_eq_true rfl) (Nat.le_of_ble_eq_true rfl) dX8_init_31 (fun q4 H hw hS => ?_)
  refine zputF (D := D) (ci := 7) (v := .ref q4) (ty := (.array .int)) hx hb hts hiX8 tyX8 tyX8_ok nmX8 hown hK hw hS 0 rfl rfl 3 (by decide) (hts (.fieldLink RX8 21 "BeardPass$Standing" "purses" "[I") (by decide +kernel)) (fun _ h9 => h9) rfl hname rfl (by decide +kernel) rfl rfl (Nat.le_of_ble_eq_true rfl) dX8_init_33 [(h0, .inr (7, [.ref q1, .ref q2, .ref q3, .ref q4, .null, .int 0])), (q1, .inl (ct 0, 6, .inl (fun _ => 0))), (q2, .inl (ct 0, 6, .inl (fun _ => 0))), (q3, .inl (ct 0, 6, .inl (fun _ => 0))), (q4, .inl (ct 0, 6, .inl (fun _ => 0)))] rfl (fun H locs hw hS => ?_)
  refine lv_aload_n hx hb dX8_init_36 rfl (lv_at hl 0 rfl) ?_
  refine lv_bipush (v := 6) hx hb dX8_init_37 (by decide) ?_
  refine znewa (atype := .int) hx hb (hts (.arrayClass .int) (by decide +kernel)) 0 rfl hK hw hS hA 6 (6, .inl (fun _ => 0)) (fun _ => rfl) (by decide) (by decide) (by decide) (Nat.le_of_ble_eq_true rfl) (Nat.le_of_ble_eq_true rfl) dX8_init_39 (fun q5 H hw hS => ?_)
  refine zputF (D := D) (ci := 7) (v := .ref q5) (ty := (.array .int)) hx hb hts hiX8 tyX8 tyX8_ok nmX8 hown hK hw hS 0 rfl rfl 4 (by decide) (hts (.fieldLink RX8 24 "BeardPass$Standing" "been" "[I") (by decide +kernel)) (fun _ h9 => h9) rfl hname rfl (by decide +kernel) rfl rfl (Nat.le_of_ble_eq_true rfl) dX8_init_41 [(h0, .inr (7, [.ref q1, .ref q2, .ref q3, .ref q4, .ref q5, .int 0])), (q1, .inl (ct 0, 6, .inl (fun _ => 0))), (q2, .inl (ct 0, 6, .inl (fun _ => 0))), (q3, .inl (ct 0, 6, .inl (fun _ => 0))), (q4, .inl (ct 0, 6, .inl (fun _ => 0))), (q5, .inl (ct 0, 6, .inl (fun _ => 0)))] rfl (fun H locs hw hS => ?_)
  refine lv_aload_n hx hb dX8_init_44 rfl (lv_at hl 0 rfl) ?_
  refine lv_iconst (v := 0) hx hb dX8_init_45 (by decide) ?_
  refine zput (D := D) (ci := 7) (v := .int 0) (ty := .int) hx hb hts hiX8 tyX8 tyX8_ok nmX8 hown hK hw hS 0 rfl rfl 5 (by decide) (hts (.fieldLink RX8 27 "BeardPass$Standing" "weeks" "I") (by decide +kernel)) (fun _ h9 => h9) rfl (by decide +kernel) rfl rfl (Nat.le_of_ble_eq_true rfl) dX8_init_46 [(h0, .inr (7, [.ref q1, .ref q2, .ref q3, .ref q4, .ref q5, .int 0])), (q1, .inl (ct 0, 6, .inl (fun _ => 0))), (q2, .inl (ct 0, 6, .inl (fun _ => 0))), (q3, .inl (ct 0, 6, .inl (fun _ => 0))), (q4, .inl (ct 0, 6, .inl (fun _ => 0))), (q5, .inl (ct 0, 6, .inl (fun _ => 0)))] rfl (fun H locs hw hS => ?_)
  exact zvret hx hb hr hlocks (fun j => ([q1, q2, q3, q4, q5] : List Nat).getD j 0) rfl (trivial) hw [0, 1, 2, 3, 4, 5] rfl (rfl) hS (Nat.le_of_ble_eq_true rfl) (Nat.le_of_ble_eq_true rfl) dX8_init_49

set_option maxHeartbeats 4000000 in
set_option maxRecDepth 100000 in
/-- Journey(): three rows of forty zeros -/
theorem c_X1_init (l : Launch) (D : va_G) (ct : Nat → ClassId) (h0 : Nat)  : zC l yX1_init wsX1_init ({ frames := 1, cells := 3, slots := 120, locals := 80 }) D ct [] [.ref h0] [(h0, .inr (1, [.null, .null, .null, .int 0]))] (S := Nat → Nat) (fun u => none) (fun u => True) (fun u => [(h0, .inr (1, [.ref (u 0), .ref (u 1), .ref (u 2), .int 0])), (u 0, .inl (ct 0, 40, .inl (fun _ => 0))), (u 1, .inl (ct 0, 40, .inl (fun _ => 0))), (u 2, .inl (ct 0, 40, .inl (fun _ => 0)))]) 3 120 := by
  refine zofW cX1_init 1 none (by decide) rfl (Nat.le_of_ble_eq_true rfl) ?_
  intro p e s m below meth c A hx hb hr hml hts hown hlocks hname hK hA hZ hN H locs hw hS ls hl
  have hown : s.vm.findClass RX1 = some m.cls := hown
  have hl : lv_has ls 1 [(0, .ref h0)] := hl
  have hiX1 : ∀ w ∈ wsX10, w ∈ wsX1_init := by decide +kernel
  refine lv_aload_n hx hb dX1_init_0 rfl (lv_at hl 0 rfl) ?_
  refine W.objInit hx hb hown (hts (.methodLink RX1 3 objectInit) (by decide +kernel)) (hts (.instanceMethod objectInit) (by decide +kernel)) (hts (.code objectInit ⟨#[0xb1]⟩ 1 none) (by decide +kernel)) rfl (by rw [hml]; exact hl.1) rfl dX1_init_1 (Nat.le_of_ble_eq_true rfl) (Nat.le_of_ble_eq_true rfl) ?_
  refine W.eq (g2 := F0 m 4 ls []) rfl ?_
  refine lv_aload_n hx hb dX1_init_4 rfl (lv_at hl 0 rfl) ?_
  refine lv_bipush (v := 40) hx hb dX1_init_5 (by decide) ?_
  refine znewa (atype := .int) hx hb (hts (.arrayClass .int) (by decide +kernel)) 0 rfl hK hw hS hA 40 (40, .inl (fun _ => 0)) (fun _ => rfl) (by decide) (by decide) (by decide) (Nat.le_of_ble_eq_true rfl) (Nat.le_of_ble_eq_true rfl) dX1_init_7 (fun q1 H hw hS => ?_)
  refine zputF (D := D) (ci := 1) (v := .ref q1) (ty := (.array .int)) hx hb hts hiX1 tyX1 tyX1_ok nmX1 hown hK hw hS 0 rfl rfl 0 (by decide) (hts (.fieldLink RX1 9 "BeardPass$Journey" "deeds" "[I") (by decide +kernel)) (fun _ h9 => h9) rfl hname rfl (by decide +kernel) rfl rfl (Nat.le_of_ble_eq_true rfl) dX1_init_9 [(h0, .inr (1, [.ref q1, .null, .null, .int 0])), (q1, .inl (ct 0, 40, .inl (fun _ => 0)))] rfl (fun H locs hw hS => ?_)
  refine lv_aload_n hx hb dX1_init_12 rfl (lv_at hl 0 rfl) ?_
  refine lv_bipush (v := 40) hx hb dX1_init_13 (by decide) ?_
  refine znewa (atype := .int) hx hb (hts (.arrayClass .int) (by decide +kernel)) 0 rfl hK hw hS hA 40 (40, .inl (fun _ => 0)) (fun _ => rfl) (by decide) (by decide) (by decide) (Nat.le_of_ble_eq_true rfl) (Nat.le_of_ble_eq_true rfl) dX1_init_15 (fun q2 H hw hS => ?_)
  refine zputF (D := D) (ci := 1) (v := .ref q2) (ty := (.array .int)) hx hb hts hiX1 tyX1 tyX1_ok nmX1 hown hK hw hS 0 rfl rfl 1 (by decide) (hts (.fieldLink RX1 15 "BeardPass$Journey" "doers" "[I") (by decide +kernel)) (fun _ h9 => h9) rfl hname rfl (by decide +kernel) rfl rfl (Nat.le_of_ble_eq_true rfl) dX1_init_17 [(h0, .inr (1, [.ref q1, .ref q2, .null, .int 0])), (q1, .inl (ct 0, 40, .inl (fun _ => 0))), (q2, .inl (ct 0, 40, .inl (fun _ => 0)))] rfl (fun H locs hw hS => ?_)
  refine lv_aload_n hx hb dX1_init_20 rfl (lv_at hl 0 rfl) ?_
  refine lv_bipush (v := 40) hx hb dX1_init_21 (by decide) ?_
  refine znewa (atype := .int) hx hb (hts (.arrayClass .int) (by decide +kernel)) 0 rfl hK hw hS hA 40 (40, .inl (fun _ => 0)) (fun _ => rfl) (by decide) (by decide) (by decide) (Nat.le_of_ble_eq_true rfl) (Nat.le_of_ble_eq_true rfl) dX1_init_23 (fun q3 H hw hS => ?_)
  refine zputF (D := D) (ci := 1) (v := .ref q3) (ty := (.array .int)) hx hb hts hiX1 tyX1 tyX1_ok nmX1 hown hK hw hS 0 rfl rfl 2 (by decide) (hts (.fieldLink RX1 18 "BeardPass$Journey" "objects" "[I") (by decide +kernel)) (fun _ h9 => h9) rfl hname rfl (by decide +kernel) rfl rfl (Nat.le_of_ble_eq_true rfl) dX1_init_25 [(h0, .inr (1, [.ref q1, .ref q2, .ref q3, .int 0])), (q1, .inl (ct 0, 40, .inl (fun _ => 0))), (q2, .inl (ct 0, 40, .inl (fun _ => 0))), (q3, .inl (ct 0, 40, .inl (fun _ => 0)))] rfl (fun H locs hw hS => ?_)
  refine lv_aload_n hx hb dX1_init_28 rfl (lv_at hl 0 rfl) ?_
  refine lv_iconst (v := 0) hx hb dX1_init_29 (by decide) ?_
  refine zput (D := D) (ci := 1) (v := .int 0) (ty := .int) hx hb hts hiX1 tyX1 tyX1_ok nmX1 hown hK hw hS 0 rfl rfl 3 (by decide) (hts (.fieldLink RX1 21 "BeardPass$Journey" "lines" "I") (by decide +kernel)) (fun _ h9 => h9) rfl (by decide +kernel) rfl rfl (Nat.le_of_ble_eq_true rfl) dX1_init_30 [(h0, .inr (1, [.ref q1, .ref q2, .ref q3, .int 0])), (q1, .inl (ct 0, 40, .inl (fun _ => 0))), (q2, .inl (ct 0, 40, .inl (fun _ => 0))), (q3, .inl (ct 0, 40, .inl (fun _ => 0)))] rfl (fun H locs hw hS => ?_)
  exact zvret hx hb hr hlocks (fun j => ([q1, q2, q3] : List Nat).getD j 0) rfl (trivial) hw [0, 1, 2, 3] rfl (rfl) hS (Nat.le_of_ble_eq_true rfl) (Nat.le_of_ble_eq_true rfl) dX1_init_33

set_option maxHeartbeats 4000000 in
set_option maxRecDepth 100000 in
/-- Sightings() -/
theorem c_X6_init (l : Launch) (D : va_G) (ct : Nat → ClassId) (h0 : Nat)  : zC l yX6_init wsX6_init ({ frames := 1, cells := 0, slots := 0, locals := 80 }) D ct [] [.ref h0] [(h0, .inr (6, [.int 0, .int 0]))] (S := Unit) (fun _ => none) (fun _ => True) (fun _ => [(h0, .inr (6, [.int 2147483647, .int 0]))]) 0 0 := by
  refine zofW cX6_init 1 none (by decide) rfl (Nat.le_of_ble_eq_true rfl) ?_
  intro p e s m below meth c A hx hb hr hml hts hown hlocks hname hK hA hZ hN H locs hw hS ls hl
  have hown : s.vm.findClass RX6 = some m.cls := hown
  have hl : lv_has ls 1 [(0, .ref h0)] := hl
  have hiX6 : ∀ w ∈ wsX60, w ∈ wsX6_init := by decide +kernel
  refine lv_aload_n hx hb dX6_init_0 rfl (lv_at hl 0 rfl) ?_
  refine W.objInit hx hb hown (hts (.methodLink RX6 3 objectInit) (by decide +kernel)) (hts (.instanceMethod objectInit) (by decide +kernel)) (hts (.code objectInit ⟨#[0xb1]⟩ 1 none) (by decide +kernel)) rfl (by rw [hml]; exact hl.1) rfl dX6_init_1 (Nat.le_of_ble_eq_true rfl) (Nat.le_of_ble_eq_true rfl) ?_
  refine W.eq (g2 := F0 m 4 ls []) rfl ?_
  refine lv_aload_n hx hb dX6_init_4 rfl (lv_at hl 0 rfl) ?_
  refine lv_ldc hx hb hown (hts (.constant RX6 9 2147483647) (by decide +kernel)) dX6_init_5 ?_
  refine zput (D := D) (ci := 6) (v := .int 2147483647) (ty := .int) hx hb hts hiX6 tyX6 tyX6_ok nmX6 hown hK hw hS 0 rfl rfl 0 (by decide) (hts (.fieldLink RX6 10 "BeardPass$Sightings" "possible" "I") (by decide +kernel)) (fun _ h9 => h9) rfl (by decide +kernel) rfl rfl (Nat.le_of_ble_eq_true rfl) dX6_init_7 [(h0, .inr (6, [.int 2147483647, .int 0]))] rfl (fun H locs hw hS => ?_)
  refine lv_aload_n hx hb dX6_init_10 rfl (lv_at hl 0 rfl) ?_
  refine lv_iconst (v := 0) hx hb dX6_init_11 (by decide) ?_
  refine zput (D := D) (ci := 6) (v := .int 0) (ty := .int) hx hb hts hiX6 tyX6 tyX6_ok nmX6 hown hK hw hS 0 rfl rfl 1 (by decide) (hts (.fieldLink RX6 16 "BeardPass$Sightings" "many" "I") (by decide +kernel)) (fun _ h9 => h9) rfl (by decide +kernel) rfl rfl (Nat.le_of_ble_eq_true rfl) dX6_init_12 [(h0, .inr (6, [.int 2147483647, .int 0]))] rfl (fun H locs hw hS => ?_)
  exact zvret hx hb hr hlocks () rfl (trivial) hw [0] rfl (rfl) hS (Nat.le_of_ble_eq_true rfl) (Nat.le_of_ble_eq_true rfl) dX6_init_15

set_option maxHeartbeats 4000000 in
set_option maxRecDepth 100000 in
/-- LandReader() -/
theorem c_X3_init (l : Launch) (D : va_G) (ct : Nat → ClassId) (h0 : Nat)  : zC l yX3_init wsX3_init ({ frames := 1, cells := 0, slots := 0, locals := 80 }) D ct [] [.ref h0] [(h0, .inr (3, [.int 0, .int 0, .int 0]))] (S := Unit) (fun _ => none) (fun _ => True) (fun _ => [(h0, .inr (3, [.int 0, .int 0, .int 0]))]) 0 0 := by
  refine zofW cX3_init 1 none (by decide) rfl (Nat.le_of_ble_eq_true rfl) ?_
  intro p e s m below meth c A hx hb hr hml hts hown hlocks hname hK hA hZ hN H locs hw hS ls hl
  have hown : s.vm.findClass RX3 = some m.cls := hown
  have hl : lv_has ls 1 [(0, .ref h0)] := hl
  have hiX3 : ∀ w ∈ wsX30, w ∈ wsX3_init := by decide +kernel
  refine lv_aload_n hx hb dX3_init_0 rfl (lv_at hl 0 rfl) ?_
  refine W.objInit hx hb hown (hts (.methodLink RX3 3 objectInit) (by decide +kernel)) (hts (.instanceMethod objectInit) (by decide +kernel)) (hts (.code objectInit ⟨#[0xb1]⟩ 1 none) (by decide +kernel)) rfl (by rw [hml]; exact hl.1) rfl dX3_init_1 (Nat.le_of_ble_eq_true rfl) (Nat.le_of_ble_eq_true rfl) ?_
  refine W.eq (g2 := F0 m 4 ls []) rfl ?_
  refine lv_aload_n hx hb dX3_init_4 rfl (lv_at hl 0 rfl) ?_
  refine lv_iconst (v := 0) hx hb dX3_init_5 (by decide) ?_
  refine zput (D := D) (ci := 3) (v := .int 0) (ty := .boolean) hx hb hts hiX3 tyX3 tyX3_ok nmX3 hown hK hw hS 0 rfl rfl 0 (by decide) (hts (.fieldLink RX3 9 "BeardPass$LandReader" "growsTold" "Z") (by decide +kernel)) (fun _ h9 => h9) rfl (by decide +kernel) rfl rfl (Nat.le_of_ble_eq_true rfl) dX3_init_6 [(h0, .inr (3, [.int 0, .int 0, .int 0]))] rfl (fun H locs hw hS => ?_)
  refine lv_aload_n hx hb dX3_init_9 rfl (lv_at hl 0 rfl) ?_
  refine lv_iconst (v := 0) hx hb dX3_init_10 (by decide) ?_
  refine zput (D := D) (ci := 3) (v := .int 0) (ty := .boolean) hx hb hts hiX3 tyX3 tyX3_ok nmX3 hown hK hw hS 0 rfl rfl 1 (by decide) (hts (.fieldLink RX3 15 "BeardPass$LandReader" "inchTold" "Z") (by decide +kernel)) (fun _ h9 => h9) rfl (by decide +kernel) rfl rfl (Nat.le_of_ble_eq_true rfl) dX3_init_11 [(h0, .inr (3, [.int 0, .int 0, .int 0]))] rfl (fun H locs hw hS => ?_)
  refine lv_aload_n hx hb dX3_init_14 rfl (lv_at hl 0 rfl) ?_
  refine lv_iconst (v := 0) hx hb dX3_init_15 (by decide) ?_
  refine zput (D := D) (ci := 3) (v := .int 0) (ty := .boolean) hx hb hts hiX3 tyX3 tyX3_ok nmX3 hown hK hw hS 0 rfl rfl 2 (by decide) (hts (.fieldLink RX3 18 "BeardPass$LandReader" "readsTold" "Z") (by decide +kernel)) (fun _ h9 => h9) rfl (by decide +kernel) rfl rfl (Nat.le_of_ble_eq_true rfl) dX3_init_16 [(h0, .inr (3, [.int 0, .int 0, .int 0]))] rfl (fun H locs hw hS => ?_)
  exact zvret hx hb hr hlocks () rfl (trivial) hw [0] rfl (rfl) hS (Nat.le_of_ble_eq_true rfl) (Nat.le_of_ble_eq_true rfl) dX3_init_19

set_option maxHeartbeats 4000000 in
set_option maxRecDepth 100000 in
/-- Frontier(land) -/
theorem c_X0_init (l : Launch) (D : va_G) (ct : Nat → ClassId) (h0 : Nat) (h1 : Nat)  : zC l yX0_init wsX0_init ({ frames := 1, cells := 0, slots := 0, locals := 80 }) D ct [] [.ref h0, .ref h1] [(h0, .inr (0, [.null]))] (S := Unit) (fun _ => none) (fun _ => True) (fun _ => [(h0, .inr (0, [.ref h1]))]) 0 0 := by
  refine zofW cX0_init 2 none (by decide) rfl (Nat.le_of_ble_eq_true rfl) ?_
  intro p e s m below meth c A hx hb hr hml hts hown hlocks hname hK hA hZ hN H locs hw hS ls hl
  have hown : s.vm.findClass RX0 = some m.cls := hown
  have hl : lv_has ls 2 [(0, .ref h0), (1, .ref h1)] := hl
  have hiX0 : ∀ w ∈ wsX00, w ∈ wsX0_init := by decide +kernel
  refine lv_aload_n hx hb dX0_init_0 rfl (lv_at hl 0 rfl) ?_
  refine W.objInit hx hb hown (hts (.methodLink RX0 3 objectInit) (by decide +kernel)) (hts (.instanceMethod objectInit) (by decide +kernel)) (hts (.code objectInit ⟨#[0xb1]⟩ 1 none) (by decide +kernel)) rfl (by rw [hml]; exact hl.1) rfl dX0_init_1 (Nat.le_of_ble_eq_true rfl) (Nat.le_of_ble_eq_true rfl) ?_
  refine W.eq (g2 := F0 m 4 ls []) rfl ?_
  refine lv_aload_n hx hb dX0_init_4 rfl (lv_at hl 0 rfl) ?_
  refine lv_aload_n hx hb dX0_init_5 rfl (lv_at hl 1 rfl) ?_
  refine zputF (D := D) (ci := 0) (v := .ref h1) (ty := (.object "BeardPass$Land")) hx hb hts hiX0 tyX0 tyX0_ok nmX0 hown hK hw hS 0 rfl rfl 0 (by decide) (hts (.fieldLink RX0 9 "BeardPass$Frontier" "land" "LBeardPass$Land;") (by decide +kernel)) (fun _ h9 => h9) rfl hname rfl (by decide +kernel) rfl rfl (Nat.le_of_ble_eq_true rfl) dX0_init_6 [(h0, .inr (0, [.ref h1]))] rfl (fun H locs hw hS => ?_)
  exact zvret hx hb hr hlocks () rfl (trivial) hw [0] rfl (rfl) hS (Nat.le_of_ble_eq_true rfl) (Nat.le_of_ble_eq_true rfl) dX0_init_9

set_option maxHeartbeats 4000000 in
set_option maxRecDepth 100000 in
/-- Law() -/
theorem c_X4_init (l : Launch) (D : va_G) (ct : Nat → ClassId) (h0 : Nat)  : zC l yX4_init wsX4_init ({ frames := 1, cells := 2, slots := 1032, locals := 80 }) D ct [] [.ref h0] [(h0, .inr (4, [.null, .null, .int 0]))] (S := Nat → Nat) (fun u => none) (fun u => True) (fun u => [(h0, .inr (4, [.ref (u 0), .ref (u 1), .int 0])), (u 0, .inl (ct 0, 1000, .inl (fun _ => 0))), (u 1, .inl (ct 0, 32, .inl (fun _ => 0)))]) 2 1032 := by
  refine zofW cX4_init 1 none (by decide) rfl (Nat.le_of_ble_eq_true rfl) ?_
  intro p e s m below meth c A hx hb hr hml hts hown hlocks hname hK hA hZ hN H locs hw hS ls hl
  have hown : s.vm.findClass RX4 = some m.cls := hown
  have hl : lv_has ls 1 [(0, .ref h0)] := hl
  have hiX4 : ∀ w ∈ wsX40, w ∈ wsX4_init := by decide +kernel
  refine lv_aload_n hx hb dX4_init_0 rfl (lv_at hl 0 rfl) ?_
  refine W.objInit hx hb hown (hts (.methodLink RX4 3 objectInit) (by decide +kernel)) (hts (.instanceMethod objectInit) (by decide +kernel)) (hts (.code objectInit ⟨#[0xb1]⟩ 1 none) (by decide +kernel)) rfl (by rw [hml]; exact hl.1) rfl dX4_init_1 (Nat.le_of_ble_eq_true rfl) (Nat.le_of_ble_eq_true rfl) ?_
  refine W.eq (g2 := F0 m 4 ls []) rfl ?_
  refine lv_aload_n hx hb dX4_init_4 rfl (lv_at hl 0 rfl) ?_
  refine lv_sipush (v := 1000) hx hb dX4_init_5 (by decide) ?_
  refine znewa (atype := .int) hx hb (hts (.arrayClass .int) (by decide +kernel)) 0 rfl hK hw hS hA 1000 (1000, .inl (fun _ => 0)) (fun _ => rfl) (by decide) (by decide) (by decide) (Nat.le_of_ble_eq_true rfl) (Nat.le_of_ble_eq_true rfl) dX4_init_8 (fun q1 H hw hS => ?_)
  refine zputF (D := D) (ci := 4) (v := .ref q1) (ty := (.array .int)) hx hb hts hiX4 tyX4 tyX4_ok nmX4 hown hK hw hS 0 rfl rfl 0 (by decide) (hts (.fieldLink RX4 9 "BeardPass$Law" "code" "[I") (by decide +kernel)) (fun _ h9 => h9) rfl hname rfl (by decide +kernel) rfl rfl (Nat.le_of_ble_eq_true rfl) dX4_init_10 [(h0, .inr (4, [.ref q1, .null, .int 0])), (q1, .inl (ct 0, 1000, .inl (fun _ => 0)))] rfl (fun H locs hw hS => ?_)
  refine lv_aload_n hx hb dX4_init_13 rfl (lv_at hl 0 rfl) ?_
  refine lv_bipush (v := 32) hx hb dX4_init_14 (by decide) ?_
  refine znewa (atype := .int) hx hb (hts (.arrayClass .int) (by decide +kernel)) 0 rfl hK hw hS hA 32 (32, .inl (fun _ => 0)) (fun _ => rfl) (by decide) (by decide) (by decide) (Nat.le_of_ble_eq_true rfl) (Nat.le_of_ble_eq_true rfl) dX4_init_16 (fun q2 H hw hS => ?_)
  refine zputF (D := D) (ci := 4) (v := .ref q2) (ty := (.array .int)) hx hb hts hiX4 tyX4 tyX4_ok nmX4 hown hK hw hS 0 rfl rfl 1 (by decide) (hts (.fieldLink RX4 15 "BeardPass$Law" "stack" "[I") (by decide +kernel)) (fun _ h9 => h9) rfl hname rfl (by decide +kernel) rfl rfl (Nat.le_of_ble_eq_true rfl) dX4_init_18 [(h0, .inr (4, [.ref q1, .ref q2, .int 0])), (q1, .inl (ct 0, 1000, .inl (fun _ => 0))), (q2, .inl (ct 0, 32, .inl (fun _ => 0)))] rfl (fun H locs hw hS => ?_)
  refine lv_aload_n hx hb dX4_init_21 rfl (lv_at hl 0 rfl) ?_
  refine lv_iconst (v := 0) hx hb dX4_init_22 (by decide) ?_
  refine zput (D := D) (ci := 4) (v := .int 0) (ty := .int) hx hb hts hiX4 tyX4 tyX4_ok nmX4 hown hK hw hS 0 rfl rfl 2 (by decide) (hts (.fieldLink RX4 18 "BeardPass$Law" "size" "I") (by decide +kernel)) (fun _ h9 => h9) rfl (by decide +kernel) rfl rfl (Nat.le_of_ble_eq_true rfl) dX4_init_23 [(h0, .inr (4, [.ref q1, .ref q2, .int 0])), (q1, .inl (ct 0, 1000, .inl (fun _ => 0))), (q2, .inl (ct 0, 32, .inl (fun _ => 0)))] rfl (fun H locs hw hS => ?_)
  exact zvret hx hb hr hlocks (fun j => ([q1, q2] : List Nat).getD j 0) rfl (trivial) hw [0, 1, 2] rfl (rfl) hS (Nat.le_of_ble_eq_true rfl) (Nat.le_of_ble_eq_true rfl) dX4_init_26

set_option maxHeartbeats 4000000 in
set_option maxRecDepth 100000 in
/-- Law.add(step): behind the steps that are there -/
theorem c_X4_add (l : Launch) (D : va_G) (ct : Nat → ClassId) (h0 : Nat) (a0 : Nat) (a1 : Nat) (n : Nat) (f : Nat → Int32) (v : Int32) (hn : n < 1000) : zC l yX4_add wsX4_add ({ frames := 1, cells := 0, slots := 0, locals := 80 }) D ct [] [.ref h0, .int v] [(h0, .inr (4, [.ref a0, .ref a1, .int (nI n)])), (a0, .inl (ct 0, 1000, .inl f))] (S := Unit) (fun _ => none) (fun _ => True) (fun _ => [(h0, .inr (4, [.ref a0, .ref a1, .int (nI (n + 1))])), (a0, .inl (ct 0, 1000, .inl (upd f n v)))]) 0 0 := by
  refine zofW cX4_add 2 none (by decide) rfl (Nat.le_of_ble_eq_true rfl) ?_
  intro p e s m below meth c A hx hb hr hml hts hown hlocks hname hK hA hZ hN H locs hw hS ls hl
  have hown : s.vm.findClass RX4 = some m.cls := hown
  have hl : lv_has ls 2 [(0, .ref h0), (1, .int v)] := hl
  have hiX4 : ∀ w ∈ wsX40, w ∈ wsX4_add := by decide +kernel
  refine lv_aload_n hx hb dX4_add_0 rfl (lv_at hl 0 rfl) ?_
  refine va_get (D := D) (ci := 4) (v := .int (nI n)) hx hb hts hiX4 hown hK hw.1 0 rfl rfl 2 (by decide) (hts (.fieldLink RX4 18 "BeardPass$Law" "size" "I") (by decide +kernel)) (fun _ h9 => h9) rfl dX4_add_1 ?_
  refine lv_aload_n hx hb dX4_add_4 rfl (lv_at hl 0 rfl) ?_
  refine va_get (D := D) (ci := 4) (v := .ref a0) hx hb hts hiX4 hown hK hw.1 0 rfl rfl 0 (by decide) (hts (.fieldLink RX4 9 "BeardPass$Law" "code" "[I") (by decide +kernel)) (fun _ h9 => h9) rfl dX4_add_5 ?_
  refine va_alen hx hb hK hw.1 1 0 rfl rfl (v := nI 1000) rfl dX4_add_8 ?_
  refine lv_icmp_ge (tgt := 32) hx hb dX4_add_9 (by decide) (fun h => absurd h (nI_ge hn (by decide))) (fun _ => ?_)
  refine lv_aload_n hx hb dX4_add_12 rfl (lv_at hl 0 rfl) ?_
  refine va_get (D := D) (ci := 4) (v := .ref a0) hx hb hts hiX4 hown hK hw.1 0 rfl rfl 0 (by decide) (hts (.fieldLink RX4 9 "BeardPass$Law" "code" "[I") (by decide +kernel)) (fun _ h9 => h9) rfl dX4_add_13 ?_
  refine lv_aload_n hx hb dX4_add_16 rfl (lv_at hl 0 rfl) ?_
  refine va_get (D := D) (ci := 4) (v := .int (nI n)) hx hb hts hiX4 hown hK hw.1 0 rfl rfl 2 (by decide) (hts (.fieldLink RX4 18 "BeardPass$Law" "size" "I") (by decide +kernel)) (fun _ h9 => h9) rfl dX4_add_17 ?_
  refine lv_iload_n hx hb dX4_add_20 rfl (lv_at hl 1 rfl) ?_
  refine ziast hx hb hK hw hS 1 rfl n (rfl) (by omega) (by decide) dX4_add_21 [(h0, .inr (4, [.ref a0, .ref a1, .int (nI n)])), (a0, .inl (ct 0, 1000, .inl (upd f n v)))] rfl (fun H locs hw hS => ?_)
  refine lv_aload_n hx hb dX4_add_22 rfl (lv_at hl 0 rfl) ?_
  refine lv_dup hx hb dX4_add_23 rfl ?_
  refine va_get (D := D) (ci := 4) (v := .int (nI n)) hx hb hts hiX4 hown hK hw.1 0 rfl rfl 2 (by decide) (hts (.fieldLink RX4 18 "BeardPass$Law" "size" "I") (by decide +kernel)) (fun _ h9 => h9) rfl dX4_add_24 ?_
  refine lv_iconst (v := 1) hx hb dX4_add_27 (by decide) ?_
  refine lv_iadd hx hb dX4_add_28 ?_
  refine ztop (.int (nI (n + 1))) (congrArg Value.int (nI_add _ _)) ?_
  refine zput (D := D) (ci := 4) (v := .int (nI (n + 1))) (ty := .int) hx hb hts hiX4 tyX4 tyX4_ok nmX4 hown hK hw hS 0 rfl rfl 2 (by decide) (hts (.fieldLink RX4 18 "BeardPass$Law" "size" "I") (by decide +kernel)) (fun _ h9 => h9) rfl (by decide +kernel) rfl rfl (Nat.le_of_ble_eq_true rfl) dX4_add_29 [(h0, .inr (4, [.ref a0, .ref a1, .int (nI (n + 1))])), (a0, .inl (ct 0, 1000, .inl (upd f n v)))] rfl (fun H locs hw hS => ?_)
  exact zvret hx hb hr hlocks () rfl (trivial) hw [0, 1] rfl (rfl) hS (Nat.le_of_ble_eq_true rfl) (Nat.le_of_ble_eq_true rfl) dX4_add_32

set_option maxHeartbeats 4000000 in
set_option maxRecDepth 100000 in
/-- Law.beAsUntold(): not long < asked -/
theorem c_X4_untold (l : Launch) (D : va_G) (ct : Nat → ClassId) (h0 : Nat) (a0 : Nat) (a1 : Nat) (n : Int32) (f : Nat → Int32)  : zC l yX4_beAsUntold wsX4_beAsUntold ({ frames := 2, cells := 0, slots := 0, locals := 120 }) D ct [] [.ref h0] [(h0, .inr (4, [.ref a0, .ref a1, .int n])), (a0, .inl (ct 0, 1000, .inl f))] (S := Unit) (fun _ => none) (fun _ => True) (fun _ => [(h0, .inr (4, [.ref a0, .ref a1, .int (nI (0 + 1 + 1 + 1 + 1))])), (a0, .inl (ct 0, 1000, .inl (upd (upd (upd (upd f 0 (-1)) (0 + 1) (-3)) (0 + 1 + 1) (-8)) (0 + 1 + 1 + 1) (-5))))]) 0 0 := by
  refine zofW cX4_beAsUntold 1 none (by decide) rfl (Nat.le_of_ble_eq_true rfl) ?_
  intro p e s m below meth c A hx hb hr hml hts hown hlocks hname hK hA hZ hN H locs hw hS ls hl
  have hown : s.vm.findClass RX4 = some m.cls := hown
  have hl : lv_has ls 1 [(0, .ref h0)] := hl
  have hiX4 : ∀ w ∈ wsX40, w ∈ wsX4_beAsUntold := by decide +kernel
  refine lv_aload_n hx hb dX4_beAsUntold_0 rfl (lv_at hl 0 rfl) ?_
  refine lv_iconst (v := 0) hx hb dX4_beAsUntold_1 (by decide) ?_
  refine zput (D := D) (ci := 4) (v := .int 0) (ty := .int) hx hb hts hiX4 tyX4 tyX4_ok nmX4 hown hK hw hS 0 rfl rfl 2 (by decide) (hts (.fieldLink RX4 18 "BeardPass$Law" "size" "I") (by decide +kernel)) (fun _ h9 => h9) rfl (by decide +kernel) rfl rfl (Nat.le_of_ble_eq_true rfl) dX4_beAsUntold_2 [(h0, .inr (4, [.ref a0, .ref a1, .int 0])), (a0, .inl (ct 0, 1000, .inl f))] rfl (fun H locs hw hS => ?_)
  refine lv_aload_n hx hb dX4_beAsUntold_5 rfl (lv_at hl 0 rfl) ?_
  refine lv_iconst (v := (-1)) hx hb dX4_beAsUntold_6 (by decide) ?_
  refine zcall2 (va_runV (As := [.int (-1)]) (rest := []) ⟨hx, hb, hml, hown, hts⟩ (c_X4_add l D ct h0 a0 a1 0 f (-1) (by decide) H.size) (cwV 1 hts gX4_beAsUntold_X4_add rfl rfl rfl (by decide +kernel) ⟨Nat.le_of_ble_eq_true rfl, Nat.le_of_ble_eq_true rfl⟩) (zpreV hK hw hS hA zZ.nil hN [0, 1] rfl rfl 4 0 rfl rfl) rfl rfl hl.1 rfl (lv_room (Nat.le_of_ble_eq_true rfl)) dX4_beAsUntold_7 ⟨Nat.le_of_ble_eq_true rfl, Nat.le_of_ble_eq_true rfl⟩) hw hS hA [0, 1] [] rfl rfl rfl rfl (fun _ H locs hp1 hw hS => ?_)
  refine zfr 10 [] rfl rfl ?_
  refine lv_aload_n hx hb dX4_beAsUntold_10 rfl (lv_at hl 0 rfl) ?_
  refine lv_bipush (v := (-3)) hx hb dX4_beAsUntold_11 (by decide) ?_
  refine zcall2 (va_runV (As := [.int (-3)]) (rest := []) ⟨hx, hb, hml, hown, hts⟩ (c_X4_add l D ct h0 a0 a1 (0 + 1) (upd f 0 (-1)) (-3) (by decide) H.size) (cwV 1 hts gX4_beAsUntold_X4_add rfl rfl rfl (by decide +kernel) ⟨Nat.le_of_ble_eq_true rfl, Nat.le_of_ble_eq_true rfl⟩) (zpreV hK hw hS hA zZ.nil hN [0, 1] rfl rfl 4 0 rfl rfl) rfl rfl hl.1 rfl (lv_room (Nat.le_of_ble_eq_true rfl)) dX4_beAsUntold_13 ⟨Nat.le_of_ble_eq_true rfl, Nat.le_of_ble_eq_true rfl⟩) hw hS hA [0, 1] [] rfl rfl rfl rfl (fun _ H locs hp2 hw hS => ?_)
  refine zfr 16 [] rfl rfl ?_
  refine lv_aload_n hx hb dX4_beAsUntold_16 rfl (lv_at hl 0 rfl) ?_
  refine lv_bipush (v := (-8)) hx hb dX4_beAsUntold_17 (by decide) ?_
  refine zcall2 (va_runV (As := [.int (-8)]) (rest := []) ⟨hx, hb, hml, hown, hts⟩ (c_X4_add l D ct h0 a0 a1 ((0 + 1) + 1) (upd (upd f 0 (-1)) (0 + 1) (-3)) (-8) (by decide) H.size) (cwV 1 hts gX4_beAsUntold_X4_add rfl rfl rfl (by decide +kernel) ⟨Nat.le_of_ble_eq_true rfl, Nat.le_of_ble_eq_true rfl⟩) (zpreV hK hw hS hA zZ.nil hN [0, 1] rfl rfl 4 0 rfl rfl) rfl rfl hl.1 rfl (lv_room (Nat.le_of_ble_eq_true rfl)) dX4_beAsUntold_19 ⟨Nat.le_of_ble_eq_true rfl, Nat.le_of_ble_eq_true rfl⟩) hw hS hA [0, 1] [] rfl rfl rfl rfl (fun _ H locs hp3 hw hS => ?_)
  refine zfr 22 [] rfl rfl ?_
  refine lv_aload_n hx hb dX4_beAsUntold_22 rfl (lv_at hl 0 rfl) ?_
  refine lv_bipush (v := (-5)) hx hb dX4_beAsUntold_23 (by decide) ?_
  refine zcall2 (va_runV (As := [.int (-5)]) (rest := []) ⟨hx, hb, hml, hown, hts⟩ (c_X4_add l D ct h0 a0 a1 (((0 + 1) + 1) + 1) (upd (upd (upd f 0 (-1)) (0 + 1) (-3)) ((0 + 1) + 1) (-8)) (-5) (by decide) H.size) (cwV 1 hts gX4_beAsUntold_X4_add rfl rfl rfl (by decide +kernel) ⟨Nat.le_of_ble_eq_true rfl, Nat.le_of_ble_eq_true rfl⟩) (zpreV hK hw hS hA zZ.nil hN [0, 1] rfl rfl 4 0 rfl rfl) rfl rfl hl.1 rfl (lv_room (Nat.le_of_ble_eq_true rfl)) dX4_beAsUntold_25 ⟨Nat.le_of_ble_eq_true rfl, Nat.le_of_ble_eq_true rfl⟩) hw hS hA [0, 1] [] rfl rfl rfl rfl (fun _ H locs hp4 hw hS => ?_)
  refine zfr 28 [] rfl rfl ?_
  exact zvret hx hb hr hlocks () rfl (trivial) hw [0, 1] rfl (rfl) hS (Nat.le_of_ble_eq_true rfl) (Nat.le_of_ble_eq_true rfl) dX4_beAsUntold_28

set_option maxHeartbeats 4000000 in
set_option maxRecDepth 100000 in
/-- Land(): nothing told -/
theorem c_X2_init (l : Launch) (D : va_G) (ct : Nat → ClassId) (h0 : Nat)  : zC l yX2_init wsX2_init ({ frames := 3, cells := 11, slots := 1083, locals := 160 }) D ct [] [.ref h0] [(h0, .inr (2, [.null, .null, .null, .null, .null, .null, .null, .null, .null, .int 0, .int 0, .int 0, .int 0]))] (S := Nat → Nat) (fun u => none) (fun u => True) (fun u => [(h0, .inr (2, [.ref (u 0), .ref (u 1), .ref (u 2), .ref (u 3), .ref (u 4), .ref (u 5), .ref (u 6), .ref (u 7), .ref (u 8), .int 0, .int 0, .int 1, .int 2])), (u 0, .inl (ct 0, 6, .inl (fun _ => 0))), (u 1, .inl (ct 0, 6, .inl (fun _ => 0))), (u 2, .inl (ct 1, 6, .inr (.inl (fun _ => 0)))), (u 3, .inl (ct 0, 6, .inl (fun _ => 0))), (u 4, .inl (ct 0, 6, .inl (fun _ => 0))), (u 5, .inl (ct 0, 6, .inl (fun _ => 0))), (u 6, .inl (ct 0, 6, .inl (fun _ => 0))), (u 7, .inl (ct 1, 6, .inr (.inl (fun _ => 0)))), (u 8, .inr (4, [.ref (u 9), .ref (u 10), .int (nI (0 + 1 + 1 + 1 + 1))])), (u 9, .inl (ct 0, 1000, .inl (upd (upd (upd (upd (fun _ => 0) 0 (-1)) (0 + 1) (-3)) (0 + 1 + 1) (-8)) (0 + 1 + 1 + 1) (-5)))), (u 10, .inl (ct 0, 32, .inl (fun _ => 0)))]) 11 1083 := by
  refine zofW cX2_init 1 none (by decide) rfl (Nat.le_of_ble_eq_true rfl) ?_
  intro p e s m below meth c A hx hb hr hml hts hown hlocks hname hK hA hZ hN H locs hw hS ls hl
  have hown : s.vm.findClass RX2 = some m.cls := hown
  have hl : lv_has ls 1 [(0, .ref h0)] := hl
  have hiX2 : ∀ w ∈ wsX20, w ∈ wsX2_init := by decide +kernel
  have hiX4 : ∀ w ∈ wsX40, w ∈ wsX2_init := by decide +kernel
  refine lv_aload_n hx hb dX2_init_0 rfl (lv_at hl 0 rfl) ?_
  refine W.objInit hx hb hown (hts (.methodLink RX2 3 objectInit) (by decide +kernel)) (hts (.instanceMethod objectInit) (by decide +kernel)) (hts (.code objectInit ⟨#[0xb1]⟩ 1 none) (by decide +kernel)) rfl (by rw [hml]; exact hl.1) rfl dX2_init_1 (Nat.le_of_ble_eq_true rfl) (Nat.le_of_ble_eq_true rfl) ?_
  refine W.eq (g2 := F0 m 4 ls []) rfl ?_
  refine lv_aload_n hx hb dX2_init_4 rfl (lv_at hl 0 rfl) ?_
  refine lv_bipush (v := 6) hx hb dX2_init_5 (by decide) ?_
  refine znewa (atype := .int) hx hb (hts (.arrayClass .int) (by decide +kernel)) 0 rfl hK hw hS hA 6 (6, .inl (fun _ => 0)) (fun _ => rfl) (by decide) (by decide) (by decide) (Nat.le_of_ble_eq_true rfl) (Nat.le_of_ble_eq_true rfl) dX2_init_7 (fun q1 H hw hS => ?_)
  refine zputF (D := D) (ci := 2) (v := .ref q1) (ty := (.array .int)) hx hb hts hiX2 tyX2 tyX2_ok nmX2 hown hK hw hS 0 rfl rfl 0 (by decide) (hts (.fieldLink RX2 9 "BeardPass$Land" "asks" "[I") (by decide +kernel)) (fun _ h9 => h9) rfl hname rfl (by decide +kernel) rfl rfl (Nat.le_of_ble_eq_true rfl) dX2_init_9 [(h0, .inr (2, [.ref q1, .null, .null, .null, .null, .null, .null, .null, .null, .int 0, .int 0, .int 0, .int 0])), (q1, .inl (ct 0, 6, .inl (fun _ => 0)))] rfl (fun H locs hw hS => ?_)
  refine lv_aload_n hx hb dX2_init_12 rfl (lv_at hl 0 rfl) ?_
  refine lv_bipush (v := 6) hx hb dX2_init_13 (by decide) ?_
  refine znewa (atype := .int) hx hb (hts (.arrayClass .int) (by decide +kernel)) 0 rfl hK hw hS hA 6 (6, .inl (fun _ => 0)) (fun _ => rfl) (by decide) (by decide) (by decide) (Nat.le_of_ble_eq_true rfl) (Nat.le_of_ble_eq_true rfl) dX2_init_15 (fun q2 H hw hS => ?_)
  refine zputF (D := D) (ci := 2) (v := .ref q2) (ty := (.array .int)) hx hb hts hiX2 tyX2 tyX2_ok nmX2 hown hK hw hS 0 rfl rfl 1 (by decide) (hts (.fieldLink RX2 15 "BeardPass$Land" "roads" "[I") (by decide +kernel)) (fun _ h9 => h9) rfl hname rfl (by decide +kernel) rfl rfl (Nat.le_of_ble_eq_true rfl) dX2_init_17 [(h0, .inr (2, [.ref q1, .ref q2, .null, .null, .null, .null, .null, .null, .null, .int 0, .int 0, .int 0, .int 0])), (q1, .inl (ct 0, 6, .inl (fun _ => 0))), (q2, .inl (ct 0, 6, .inl (fun _ => 0)))] rfl (fun H locs hw hS => ?_)
  refine lv_aload_n hx hb dX2_init_20 rfl (lv_at hl 0 rfl) ?_
  refine lv_bipush (v := 6) hx hb dX2_init_21 (by decide) ?_
  refine znewa (atype := .long) hx hb (hts (.arrayClass .long) (by decide +kernel)) 1 rfl hK hw hS hA 6 (6, .inr (.inl (fun _ => 0))) (fun _ => rfl) (by decide) (by decide) (by decide) (Nat.le_of_ble_eq_true rfl) (Nat.le_of_ble_eq_true rfl) dX2_init_23 (fun q3 H hw hS => ?_)
  refine zputF (D := D) (ci := 2) (v := .ref q3) (ty := (.array .long)) hx hb hts hiX2 tyX2 tyX2_ok nmX2 hown hK hw hS 0 rfl rfl 2 (by decide) (hts (.fieldLink RX2 18 "BeardPass$Land" "townNames" "[J") (by decide +kernel)) (fun _ h9 => h9) rfl hname rfl (by decide +kernel) rfl rfl (Nat.le_of_ble_eq_true rfl) dX2_init_25 [(h0, .inr (2, [.ref q1, .ref q2, .ref q3, .null, .null, .null, .null, .null, .null, .int 0, .int 0, .int 0, .int 0])), (q1, .inl (ct 0, 6, .inl (fun _ => 0))), (q2, .inl (ct 0, 6, .inl (fun _ => 0))), (q3, .inl (ct 1, 6, .inr (.inl (fun _ => 0))))] rfl (fun H locs hw hS => ?_)
  refine lv_aload_n hx hb dX2_init_28 rfl (lv_at hl 0 rfl) ?_
  refine lv_bipush (v := 6) hx hb dX2_init_29 (by decide) ?_
  refine znewa (atype := .int) hx hb (hts (.arrayClass .int) (by decide +kernel)) 0 rfl hK hw hS hA 6 (6, .inl (fun _ => 0)) (fun _ => rfl) (by decide) (by decide) (by decide) (Nat.le_of_ble_eq_true rfl) (Nat.le_of_ble_eq_true rfl) dX2_init_31 (fun q4 H hw hS => ?_)
  refine zputF (D := D) (ci := 2) (v := .ref q4) (ty := (.array .int)) hx hb hts hiX2 tyX2 tyX2_ok nmX2 hown hK hw hS 0 rfl rfl 3 (by decide) (hts (.fieldLink RX2 22 "BeardPass$Land" "kinds" "[I") (by decide +kernel)) (fun _ h9 => h9) rfl hname rfl (by decide +kernel) rfl rfl (Nat.le_of_ble_eq_true rfl) dX2_init_33 [(h0, .inr (2, [.ref q1, .ref q2, .ref q3, .ref q4, .null, .null, .null, .null, .null, .int 0, .int 0, .int 0, .int 0])), (q1, .inl (ct 0, 6, .inl (fun _ => 0))), (q2, .inl (ct 0, 6, .inl (fun _ => 0))), (q3, .inl (ct 1, 6, .inr (.inl (fun _ => 0)))), (q4, .inl (ct 0, 6, .inl (fun _ => 0)))] rfl (fun H locs hw hS => ?_)
  refine lv_aload_n hx hb dX2_init_36 rfl (lv_at hl 0 rfl) ?_
  refine lv_bipush (v := 6) hx hb dX2_init_37 (by decide) ?_
  refine znewa (atype := .int) hx hb (hts (.arrayClass .int) (by decide +kernel)) 0 rfl hK hw hS hA 6 (6, .inl (fun _ => 0)) (fun _ => rfl) (by decide) (by decide) (by decide) (Nat.le_of_ble_eq_true rfl) (Nat.le_of_ble_eq_true rfl) dX2_init_39 (fun q5 H hw hS => ?_)
  refine zputF (D := D) (ci := 2) (v := .ref q5) (ty := (.array .int)) hx hb hts hiX2 tyX2 tyX2_ok nmX2 hown hK hw hS 0 rfl rfl 4 (by decide) (hts (.fieldLink RX2 25 "BeardPass$Land" "homes" "[I") (by decide +kernel)) (fun _ h9 => h9) rfl hname rfl (by decide +kernel) rfl rfl (Nat.le_of_ble_eq_true rfl) dX2_init_41 [(h0, .inr (2, [.ref q1, .ref q2, .ref q3, .ref q4, .ref q5, .null, .null, .null, .null, .int 0, .int 0, .int 0, .int 0])), (q1, .inl (ct 0, 6, .inl (fun _ => 0))), (q2, .inl (ct 0, 6, .inl (fun _ => 0))), (q3, .inl (ct 1, 6, .inr (.inl (fun _ => 0)))), (q4, .inl (ct 0, 6, .inl (fun _ => 0))), (q5, .inl (ct 0, 6, .inl (fun _ => 0)))] rfl (fun H locs hw hS => ?_)
  refine lv_aload_n hx hb dX2_init_44 rfl (lv_at hl 0 rfl) ?_
  refine lv_bipush (v := 6) hx hb dX2_init_45 (by decide) ?_
  refine znewa (atype := .int) hx hb (hts (.arrayClass .int) (by decide +kernel)) 0 rfl hK hw hS hA 6 (6, .inl (fun _ => 0)) (fun _ => rfl) (by decide) (by decide) (by decide) (Nat.le_of_ble_eq_true rfl) (Nat.le_of_ble_eq_true rfl) dX2_init_47 (fun q6 H hw hS => ?_)
  refine zputF (D := D) (ci := 2) (v := .ref q6) (ty := (.array .int)) hx hb hts hiX2 tyX2 tyX2_ok nmX2 hown hK hw hS 0 rfl rfl 5 (by decide) (hts (.fieldLink RX2 28 "BeardPass$Land" "beards" "[I") (by decide +kernel)) (fun _ h9 => h9) rfl hname rfl (by decide +kernel) rfl rfl (Nat.le_of_ble_eq_true rfl) dX2_init_49 [(h0, .inr (2, [.ref q1, .ref q2, .ref q3, .ref q4, .ref q5, .ref q6, .null, .null, .null, .int 0, .int 0, .int 0, .int 0])), (q1, .inl (ct 0, 6, .inl (fun _ => 0))), (q2, .inl (ct 0, 6, .inl (fun _ => 0))), (q3, .inl (ct 1, 6, .inr (.inl (fun _ => 0)))), (q4, .inl (ct 0, 6, .inl (fun _ => 0))), (q5, .inl (ct 0, 6, .inl (fun _ => 0))), (q6, .inl (ct 0, 6, .inl (fun _ => 0)))] rfl (fun H locs hw hS => ?_)
  refine lv_aload_n hx hb dX2_init_52 rfl (lv_at hl 0 rfl) ?_
  refine lv_bipush (v := 6) hx hb dX2_init_53 (by decide) ?_
  refine znewa (atype := .int) hx hb (hts (.arrayClass .int) (by decide +kernel)) 0 rfl hK hw hS hA 6 (6, .inl (fun _ => 0)) (fun _ => rfl) (by decide) (by decide) (by decide) (Nat.le_of_ble_eq_true rfl) (Nat.le_of_ble_eq_true rfl) dX2_init_55 (fun q7 H hw hS => ?_)
  refine zputF (D := D) (ci := 2) (v := .ref q7) (ty := (.array .int)) hx hb hts hiX2 tyX2 tyX2_ok nmX2 hown hK hw hS 0 rfl rfl 6 (by decide) (hts (.fieldLink RX2 31 "BeardPass$Land" "purses" "[I") (by decide +kernel)) (fun _ h9 => h9) rfl hname rfl (by decide +kernel) rfl rfl (Nat.le_of_ble_eq_true rfl) dX2_init_57 [(h0, .inr (2, [.ref q1, .ref q2, .ref q3, .ref q4, .ref q5, .ref q6, .ref q7, .null, .null, .int 0, .int 0, .int 0, .int 0])), (q1, .inl (ct 0, 6, .inl (fun _ => 0))), (q2, .inl (ct 0, 6, .inl (fun _ => 0))), (q3, .inl (ct 1, 6, .inr (.inl (fun _ => 0)))), (q4, .inl (ct 0, 6, .inl (fun _ => 0))), (q5, .inl (ct 0, 6, .inl (fun _ => 0))), (q6, .inl (ct 0, 6, .inl (fun _ => 0))), (q7, .inl (ct 0, 6, .inl (fun _ => 0)))] rfl (fun H locs hw hS => ?_)
  refine lv_aload_n hx hb dX2_init_60 rfl (lv_at hl 0 rfl) ?_
  refine lv_bipush (v := 6) hx hb dX2_init_61 (by decide) ?_
  refine znewa (atype := .long) hx hb (hts (.arrayClass .long) (by decide +kernel)) 1 rfl hK hw hS hA 6 (6, .inr (.inl (fun _ => 0))) (fun _ => rfl) (by decide) (by decide) (by decide) (Nat.le_of_ble_eq_true rfl) (Nat.le_of_ble_eq_true rfl) dX2_init_63 (fun q8 H hw hS => ?_)
  refine zputF (D := D) (ci := 2) (v := .ref q8) (ty := (.array .long)) hx hb hts hiX2 tyX2 tyX2_ok nmX2 hown hK hw hS 0 rfl rfl 7 (by decide) (hts (.fieldLink RX2 34 "BeardPass$Land" "personNames" "[J") (by decide +kernel)) (fun _ h9 => h9) rfl hname rfl (by decide +kernel) rfl rfl (Nat.le_of_ble_eq_true rfl) dX2_init_65 [(h0, .inr (2, [.ref q1, .ref q2, .ref q3, .ref q4, .ref q5, .ref q6, .ref q7, .ref q8, .null, .int 0, .int 0, .int 0, .int 0])), (q1, .inl (ct 0, 6, .inl (fun _ => 0))), (q2, .inl (ct 0, 6, .inl (fun _ => 0))), (q3, .inl (ct 1, 6, .inr (.inl (fun _ => 0)))), (q4, .inl (ct 0, 6, .inl (fun _ => 0))), (q5, .inl (ct 0, 6, .inl (fun _ => 0))), (q6, .inl (ct 0, 6, .inl (fun _ => 0))), (q7, .inl (ct 0, 6, .inl (fun _ => 0))), (q8, .inl (ct 1, 6, .inr (.inl (fun _ => 0))))] rfl (fun H locs hw hS => ?_)
  refine lv_aload_n hx hb dX2_init_68 rfl (lv_at hl 0 rfl) ?_
  refine znew (ci := 4) (C := RX4) (T := TX4) (N := 3) hx hb hts hiX4 tyX4 tyX4_ok hown (hts (.classLink RX2 37 RX4) (by decide +kernel)) (hts (.instantiable RX4 3) (by decide +kernel)) (hts (.initialized RX4) (by decide +kernel)) hK hw hS hA rfl [.null, .null, .int 0] rfl (Nat.le_of_ble_eq_true rfl) (Nat.le_of_ble_eq_true rfl) dX2_init_69 (fun q9 H hw hS => ?_)
  refine lv_dup hx hb dX2_init_72 rfl ?_
  refine zcall2 (va_runIN (As := []) (rest := [.ref q9, .ref h0]) ⟨hx, hb, hml, hown, hts⟩ (c_X4_init l D ct q9 H.size) ⟨va_cnB 0 hts gX2_init_X4_init_n39 rfl rfl rfl (hN.1 (RX2, 39, yX4_init, RX11) (List.mem_of_getElem? (i := 1) rfl)) (hts (.initialized RX4) (by decide +kernel)) (by decide +kernel) ⟨Nat.le_of_ble_eq_true rfl, Nat.le_of_ble_eq_true rfl⟩, rfl, hts (.instanceMethod yX4_init) (by decide +kernel)⟩ (zpreS hK hw hS hA zZ.nil hN [9] rfl rfl) rfl rfl hl.1 rfl (lv_room (Nat.le_of_ble_eq_true rfl)) dX2_init_73 ⟨Nat.le_of_ble_eq_true rfl, Nat.le_of_ble_eq_true rfl⟩) hw hS hA [9] [0, 1, 2, 3, 4, 5, 6, 7, 8] rfl rfl (by decide +kernel) (by decide +kernel) (fun u10 H locs hp11 hw hS => ?_)
  refine zfr 76 [.ref q9, .ref h0] rfl rfl ?_
  refine zputF (D := D) (ci := 2) (v := .ref q9) (ty := (.object "BeardPass$Law")) hx hb hts hiX2 tyX2 tyX2_ok nmX2 hown hK hw hS 0 rfl rfl 8 (by decide) (hts (.fieldLink RX2 40 "BeardPass$Land" "law" "LBeardPass$Law;") (by decide +kernel)) (fun _ h9 => h9) rfl hname rfl (by decide +kernel) rfl rfl (Nat.le_of_ble_eq_true rfl) dX2_init_76 [(h0, .inr (2, [.ref q1, .ref q2, .ref q3, .ref q4, .ref q5, .ref q6, .ref q7, .ref q8, .ref q9, .int 0, .int 0, .int 0, .int 0])), (q1, .inl (ct 0, 6, .inl (fun _ => 0))), (q2, .inl (ct 0, 6, .inl (fun _ => 0))), (q3, .inl (ct 1, 6, .inr (.inl (fun _ => 0)))), (q4, .inl (ct 0, 6, .inl (fun _ => 0))), (q5, .inl (ct 0, 6, .inl (fun _ => 0))), (q6, .inl (ct 0, 6, .inl (fun _ => 0))), (q7, .inl (ct 0, 6, .inl (fun _ => 0))), (q8, .inl (ct 1, 6, .inr (.inl (fun _ => 0)))), (q9, .inr (4, [.ref (u10 0), .ref (u10 1), .int 0])), (u10 0, .inl (ct 0, 1000, .inl (fun _ => 0))), (u10 1, .inl (ct 0, 32, .inl (fun _ => 0)))] rfl (fun H locs hw hS => ?_)
  refine lv_aload_n hx hb dX2_init_79 rfl (lv_at hl 0 rfl) ?_
  refine lv_iconst (v := 0) hx hb dX2_init_80 (by decide) ?_
  refine zput (D := D) (ci := 2) (v := .int 0) (ty := .int) hx hb hts hiX2 tyX2 tyX2_ok nmX2 hown hK hw hS 0 rfl rfl 9 (by decide) (hts (.fieldLink RX2 44 "BeardPass$Land" "towns" "I") (by decide +kernel)) (fun _ h9 => h9) rfl (by decide +kernel) rfl rfl (Nat.le_of_ble_eq_true rfl) dX2_init_81 [(h0, .inr (2, [.ref q1, .ref q2, .ref q3, .ref q4, .ref q5, .ref q6, .ref q7, .ref q8, .ref q9, .int 0, .int 0, .int 0, .int 0])), (q1, .inl (ct 0, 6, .inl (fun _ => 0))), (q2, .inl (ct 0, 6, .inl (fun _ => 0))), (q3, .inl (ct 1, 6, .inr (.inl (fun _ => 0)))), (q4, .inl (ct 0, 6, .inl (fun _ => 0))), (q5, .inl (ct 0, 6, .inl (fun _ => 0))), (q6, .inl (ct 0, 6, .inl (fun _ => 0))), (q7, .inl (ct 0, 6, .inl (fun _ => 0))), (q8, .inl (ct 1, 6, .inr (.inl (fun _ => 0)))), (q9, .inr (4, [.ref (u10 0), .ref (u10 1), .int 0])), (u10 0, .inl (ct 0, 1000, .inl (fun _ => 0))), (u10 1, .inl (ct 0, 32, .inl (fun _ => 0)))] rfl (fun H locs hw hS => ?_)
  refine lv_aload_n hx hb dX2_init_84 rfl (lv_at hl 0 rfl) ?_
  refine lv_iconst (v := 0) hx hb dX2_init_85 (by decide) ?_
  refine zput (D := D) (ci := 2) (v := .int 0) (ty := .int) hx hb hts hiX2 tyX2 tyX2_ok nmX2 hown hK hw hS 0 rfl rfl 10 (by decide) (hts (.fieldLink RX2 48 "BeardPass$Land" "persons" "I") (by decide +kernel)) (fun _ h9 => h9) rfl (by decide +kernel) rfl rfl (Nat.le_of_ble_eq_true rfl) dX2_init_86 [(h0, .inr (2, [.ref q1, .ref q2, .ref q3, .ref q4, .ref q5, .ref q6, .ref q7, .ref q8, .ref q9, .int 0, .int 0, .int 0, .int 0])), (q1, .inl (ct 0, 6, .inl (fun _ => 0))), (q2, .inl (ct 0, 6, .inl (fun _ => 0))), (q3, .inl (ct 1, 6, .inr (.inl (fun _ => 0)))), (q4, .inl (ct 0, 6, .inl (fun _ => 0))), (q5, .inl (ct 0, 6, .inl (fun _ => 0))), (q6, .inl (ct 0, 6, .inl (fun _ => 0))), (q7, .inl (ct 0, 6, .inl (fun _ => 0))), (q8, .inl (ct 1, 6, .inr (.inl (fun _ => 0)))), (q9, .inr (4, [.ref (u10 0), .ref (u10 1), .int 0])), (u10 0, .inl (ct 0, 1000, .inl (fun _ => 0))), (u10 1, .inl (ct 0, 32, .inl (fun _ => 0)))] rfl (fun H locs hw hS => ?_)
  refine lv_aload_n hx hb dX2_init_89 rfl (lv_at hl 0 rfl) ?_
  refine lv_iconst (v := 1) hx hb dX2_init_90 (by decide) ?_
  refine zput (D := D) (ci := 2) (v := .int 1) (ty := .int) hx hb hts hiX2 tyX2 tyX2_ok nmX2 hown hK hw hS 0 rfl rfl 11 (by decide) (hts (.fieldLink RX2 51 "BeardPass$Land" "grows" "I") (by decide +kernel)) (fun _ h9 => h9) rfl (by decide +kernel) rfl rfl (Nat.le_of_ble_eq_true rfl) dX2_init_91 [(h0, .inr (2, [.ref q1, .ref q2, .ref q3, .ref q4, .ref q5, .ref q6, .ref q7, .ref q8, .ref q9, .int 0, .int 0, .int 1, .int 0])), (q1, .inl (ct 0, 6, .inl (fun _ => 0))), (q2, .inl (ct 0, 6, .inl (fun _ => 0))), (q3, .inl (ct 1, 6, .inr (.inl (fun _ => 0)))), (q4, .inl (ct 0, 6, .inl (fun _ => 0))), (q5, .inl (ct 0, 6, .inl (fun _ => 0))), (q6, .inl (ct 0, 6, .inl (fun _ => 0))), (q7, .inl (ct 0, 6, .inl (fun _ => 0))), (q8, .inl (ct 1, 6, .inr (.inl (fun _ => 0)))), (q9, .inr (4, [.ref (u10 0), .ref (u10 1), .int 0])), (u10 0, .inl (ct 0, 1000, .inl (fun _ => 0))), (u10 1, .inl (ct 0, 32, .inl (fun _ => 0)))] rfl (fun H locs hw hS => ?_)
  refine lv_aload_n hx hb dX2_init_94 rfl (lv_at hl 0 rfl) ?_
  refine lv_iconst (v := 2) hx hb dX2_init_95 (by decide) ?_
  refine zput (D := D) (ci := 2) (v := .int 2) (ty := .int) hx hb hts hiX2 tyX2 tyX2_ok nmX2 hown hK hw hS 0 rfl rfl 12 (by decide) (hts (.fieldLink RX2 54 "BeardPass$Land" "inch" "I") (by decide +kernel)) (fun _ h9 => h9) rfl (by decide +kernel) rfl rfl (Nat.le_of_ble_eq_true rfl) dX2_init_96 [(h0, .inr (2, [.ref q1, .ref q2, .ref q3, .ref q4, .ref q5, .ref q6, .ref q7, .ref q8, .ref q9, .int 0, .int 0, .int 1, .int 2])), (q1, .inl (ct 0, 6, .inl (fun _ => 0))), (q2, .inl (ct 0, 6, .inl (fun _ => 0))), (q3, .inl (ct 1, 6, .inr (.inl (fun _ => 0)))), (q4, .inl (ct 0, 6, .inl (fun _ => 0))), (q5, .inl (ct 0, 6, .inl (fun _ => 0))), (q6, .inl (ct 0, 6, .inl (fun _ => 0))), (q7, .inl (ct 0, 6, .inl (fun _ => 0))), (q8, .inl (ct 1, 6, .inr (.inl (fun _ => 0)))), (q9, .inr (4, [.ref (u10 0), .ref (u10 1), .int 0])), (u10 0, .inl (ct 0, 1000, .inl (fun _ => 0))), (u10 1, .inl (ct 0, 32, .inl (fun _ => 0)))] rfl (fun H locs hw hS => ?_)
  refine lv_aload_n hx hb dX2_init_99 rfl (lv_at hl 0 rfl) ?_
  refine va_get (D := D) (ci := 2) (v := .ref q9) hx hb hts hiX2 hown hK hw.1 0 rfl rfl 8 (by decide) (hts (.fieldLink RX2 40 "BeardPass$Land" "law" "LBeardPass$Law;") (by decide +kernel)) (fun _ h9 => h9) rfl dX2_init_100 ?_
  refine zcall2 (va_runV (As := []) (rest := []) ⟨hx, hb, hml, hown, hts⟩ (c_X4_untold l D ct q9 (u10 0) (u10 1) 0 (fun _ => 0) H.size) (cwV 0 hts gX2_init_X4_beAsUntold rfl rfl rfl (by decide +kernel) ⟨Nat.le_of_ble_eq_true rfl, Nat.le_of_ble_eq_true rfl⟩) (zpreV hK hw hS hA zZ.nil hN [9, 10] rfl rfl 4 9 rfl rfl) rfl rfl hl.1 rfl (lv_room (Nat.le_of_ble_eq_true rfl)) dX2_init_103 ⟨Nat.le_of_ble_eq_true rfl, Nat.le_of_ble_eq_true rfl⟩) hw hS hA [9, 10] [0, 1, 2, 3, 4, 5, 6, 7, 8, 11] rfl rfl (by decide +kernel) (by decide +kernel) (fun _ H locs hp12 hw hS => ?_)
  refine zfr 106 [] rfl rfl ?_
  exact zvret hx hb hr hlocks (fun j => ([q1, q2, q3, q4, q5, q6, q7, q8, q9, u10 0, u10 1] : List Nat).getD j 0) rfl (trivial) hw [0, 1, 2, 3, 4, 5, 6, 7, 8, 10, 11, 9] rfl (rfl) hS (Nat.le_of_ble_eq_true rfl) (Nat.le_of_ble_eq_true rfl) dX2_init_106

set_option maxHeartbeats 4000000 in
set_option maxRecDepth 100000 in
/-- Ways(land, frontier) -/
theorem c_X10_init (l : Launch) (D : va_G) (ct : Nat → ClassId) (h0 : Nat) (h1 : Nat) (h2 : Nat)  : zC l yX10_init wsX10_init ({ frames := 2, cells := 10, slots := 118, locals := 120 }) D ct [] [.ref h0, .ref h1, .ref h2] [(h0, .inr (9, [.null, .null, .null, .null, .null, .null, .null]))] (S := Nat → Nat) (fun u => none) (fun u => True) (fun u => [(h0, .inr (9, [.ref h1, .ref h2, .ref (u 0), .ref (u 6), .ref (u 7), .ref (u 8), .ref (u 9)])), (u 0, .inr (7, [.ref (u 1), .ref (u 2), .ref (u 3), .ref (u 4), .ref (u 5), .int 0])), (u 1, .inl (ct 0, 6, .inl (fun _ => 0))), (u 2, .inl (ct 0, 6, .inl (fun _ => 0))), (u 3, .inl (ct 0, 6, .inl (fun _ => 0))), (u 4, .inl (ct 0, 6, .inl (fun _ => 0))), (u 5, .inl (ct 0, 6, .inl (fun _ => 0))), (u 6, .inl (ct 0, 64, .inl (fun _ => 0))), (u 7, .inl (ct 0, 6, .inl (fun _ => 0))), (u 8, .inl (ct 0, 6, .inl (fun _ => 0))), (u 9, .inl (ct 0, 6, .inl (fun _ => 0)))]) 10 118 := by
  refine zofW cX10_init 3 none (by decide) rfl (Nat.le_of_ble_eq_true rfl) ?_
  intro p e s m below meth c A hx hb hr hml hts hown hlocks hname hK hA hZ hN H locs hw hS ls hl
  have hown : s.vm.findClass RX10 = some m.cls := hown
  have hl : lv_has ls 3 [(0, .ref h0), (1, .ref h1), (2, .ref h2)] := hl
  have hiX10 : ∀ w ∈ wsX100, w ∈ wsX10_init := by decide +kernel
  have hiX8 : ∀ w ∈ wsX80, w ∈ wsX10_init := by decide +kernel
  refine lv_aload_n hx hb dX10_init_0 rfl (lv_at hl 0 rfl) ?_
  refine W.objInit hx hb hown (hts (.methodLink RX10 3 objectInit) (by decide +kernel)) (hts (.instanceMethod objectInit) (by decide +kernel)) (hts (.code objectInit ⟨#[0xb1]⟩ 1 none) (by decide +kernel)) rfl (by rw [hml]; exact hl.1) rfl dX10_init_1 (Nat.le_of_ble_eq_true rfl) (Nat.le_of_ble_eq_true rfl) ?_
  refine W.eq (g2 := F0 m 4 ls []) rfl ?_
  refine lv_aload_n hx hb dX10_init_4 rfl (lv_at hl 0 rfl) ?_
  refine znew (ci := 7) (C := RX8) (T := TX8) (N := 6) hx hb hts hiX8 tyX8 tyX8_ok hown (hts (.classLink RX10 9 RX8) (by decide +kernel)) (hts (.instantiable RX8 6) (by decide +kernel)) (hts (.initialized RX8) (by decide +kernel)) hK hw hS hA rfl [.null, .null, .null, .null, .null, .int 0] rfl (Nat.le_of_ble_eq_true rfl) (Nat.le_of_ble_eq_true rfl) dX10_init_5 (fun q1 H hw hS => ?_)
  refine lv_dup hx hb dX10_init_8 rfl ?_
  refine zcall2 (va_runIN (As := []) (rest := [.ref q1, .ref h0]) ⟨hx, hb, hml, hown, hts⟩ (c_X8_init l D ct q1 H.size) ⟨va_cnB 0 hts gX10_init_X8_init_n11 rfl rfl rfl (hN.1 (RX10, 11, yX8_init, RX11) (List.mem_of_getElem? (i := 4) rfl)) (hts (.initialized RX8) (by decide +kernel)) (by decide +kernel) ⟨Nat.le_of_ble_eq_true rfl, Nat.le_of_ble_eq_true rfl⟩, rfl, hts (.instanceMethod yX8_init) (by decide +kernel)⟩ (zpreS hK hw hS hA zZ.nil hN [1] rfl rfl) rfl rfl hl.1 rfl (lv_room (Nat.le_of_ble_eq_true rfl)) dX10_init_9 ⟨Nat.le_of_ble_eq_true rfl, Nat.le_of_ble_eq_true rfl⟩) hw hS hA [1] [0] rfl rfl rfl rfl (fun u2 H locs hp3 hw hS => ?_)
  refine zfr 12 [.ref q1, .ref h0] rfl rfl ?_
  refine zputF (D := D) (ci := 9) (v := .ref q1) (ty := (.object "BeardPass$Standing")) hx hb hts hiX10 tyX10 tyX10_ok nmX10 hown hK hw hS 0 rfl rfl 2 (by decide) (hts (.fieldLink RX10 12 "BeardPass$Ways" "ahead" "LBeardPass$Standing;") (by decide +kernel)) (fun _ h9 => h9) rfl hname rfl (by decide +kernel) rfl rfl (Nat.le_of_ble_eq_true rfl) dX10_init_12 [(h0, .inr (9, [.null, .null, .ref q1, .null, .null, .null, .null])), (q1, .inr (7, [.ref (u2 0), .ref (u2 1), .ref (u2 2), .ref (u2 3), .ref (u2 4), .int 0])), (u2 0, .inl (ct 0, 6, .inl (fun _ => 0))), (u2 1, .inl (ct 0, 6, .inl (fun _ => 0))), (u2 2, .inl (ct 0, 6, .inl (fun _ => 0))), (u2 3, .inl (ct 0, 6, .inl (fun _ => 0))), (u2 4, .inl (ct 0, 6, .inl (fun _ => 0)))] rfl (fun H locs hw hS => ?_)
  refine lv_aload_n hx hb dX10_init_15 rfl (lv_at hl 0 rfl) ?_
  refine lv_bipush (v := 64) hx hb dX10_init_16 (by decide) ?_
  refine znewa (atype := .int) hx hb (hts (.arrayClass .int) (by decide +kernel)) 0 rfl hK hw hS hA 64 (64, .inl (fun _ => 0)) (fun _ => rfl) (by decide) (by decide) (by decide) (Nat.le_of_ble_eq_true rfl) (Nat.le_of_ble_eq_true rfl) dX10_init_18 (fun q4 H hw hS => ?_)
  refine zputF (D := D) (ci := 9) (v := .ref q4) (ty := (.array .int)) hx hb hts hiX10 tyX10 tyX10_ok nmX10 hown hK hw hS 0 rfl rfl 3 (by decide) (hts (.fieldLink RX10 18 "BeardPass$Ways" "standsAfter" "[I") (by decide +kernel)) (fun _ h9 => h9) rfl hname rfl (by decide +kernel) rfl rfl (Nat.le_of_ble_eq_true rfl) dX10_init_20 [(h0, .inr (9, [.null, .null, .ref q1, .ref q4, .null, .null, .null])), (q1, .inr (7, [.ref (u2 0), .ref (u2 1), .ref (u2 2), .ref (u2 3), .ref (u2 4), .int 0])), (u2 0, .inl (ct 0, 6, .inl (fun _ => 0))), (u2 1, .inl (ct 0, 6, .inl (fun _ => 0))), (u2 2, .inl (ct 0, 6, .inl (fun _ => 0))), (u2 3, .inl (ct 0, 6, .inl (fun _ => 0))), (u2 4, .inl (ct 0, 6, .inl (fun _ => 0))), (q4, .inl (ct 0, 64, .inl (fun _ => 0)))] rfl (fun H locs hw hS => ?_)
  refine lv_aload_n hx hb dX10_init_23 rfl (lv_at hl 0 rfl) ?_
  refine lv_bipush (v := 6) hx hb dX10_init_24 (by decide) ?_
  refine znewa (atype := .int) hx hb (hts (.arrayClass .int) (by decide +kernel)) 0 rfl hK hw hS hA 6 (6, .inl (fun _ => 0)) (fun _ => rfl) (by decide) (by decide) (by decide) (Nat.le_of_ble_eq_true rfl) (Nat.le_of_ble_eq_true rfl) dX10_init_26 (fun q5 H hw hS => ?_)
  refine zputF (D := D) (ci := 9) (v := .ref q5) (ty := (.array .int)) hx hb hts hiX10 tyX10 tyX10_ok nmX10 hown hK hw hS 0 rfl rfl 4 (by decide) (hts (.fieldLink RX10 22 "BeardPass$Ways" "steps" "[I") (by decide +kernel)) (fun _ h9 => h9) rfl hname rfl (by decide +kernel) rfl rfl (Nat.le_of_ble_eq_true rfl) dX10_init_28 [(h0, .inr (9, [.null, .null, .ref q1, .ref q4, .ref q5, .null, .null])), (q1, .inr (7, [.ref (u2 0), .ref (u2 1), .ref (u2 2), .ref (u2 3), .ref (u2 4), .int 0])), (u2 0, .inl (ct 0, 6, .inl (fun _ => 0))), (u2 1, .inl (ct 0, 6, .inl (fun _ => 0))), (u2 2, .inl (ct 0, 6, .inl (fun _ => 0))), (u2 3, .inl (ct 0, 6, .inl (fun _ => 0))), (u2 4, .inl (ct 0, 6, .inl (fun _ => 0))), (q4, .inl (ct 0, 64, .inl (fun _ => 0))), (q5, .inl (ct 0, 6, .inl (fun _ => 0)))] rfl (fun H locs hw hS => ?_)
  refine lv_aload_n hx hb dX10_init_31 rfl (lv_at hl 0 rfl) ?_
  refine lv_bipush (v := 6) hx hb dX10_init_32 (by decide) ?_
  refine znewa (atype := .int) hx hb (hts (.arrayClass .int) (by decide +kernel)) 0 rfl hK hw hS hA 6 (6, .inl (fun _ => 0)) (fun _ => rfl) (by decide) (by decide) (by decide) (Nat.le_of_ble_eq_true rfl) (Nat.le_of_ble_eq_true rfl) dX10_init_34 (fun q6 H hw hS => ?_)
  refine zputF (D := D) (ci := 9) (v := .ref q6) (ty := (.array .int)) hx hb hts hiX10 tyX10 tyX10_ok nmX10 hown hK hw hS 0 rfl rfl 5 (by decide) (hts (.fieldLink RX10 25 "BeardPass$Ways" "soonest" "[I") (by decide +kernel)) (fun _ h9 => h9) rfl hname rfl (by decide +kernel) rfl rfl (Nat.le_of_ble_eq_true rfl) dX10_init_36 [(h0, .inr (9, [.null, .null, .ref q1, .ref q4, .ref q5, .ref q6, .null])), (q1, .inr (7, [.ref (u2 0), .ref (u2 1), .ref (u2 2), .ref (u2 3), .ref (u2 4), .int 0])), (u2 0, .inl (ct 0, 6, .inl (fun _ => 0))), (u2 1, .inl (ct 0, 6, .inl (fun _ => 0))), (u2 2, .inl (ct 0, 6, .inl (fun _ => 0))), (u2 3, .inl (ct 0, 6, .inl (fun _ => 0))), (u2 4, .inl (ct 0, 6, .inl (fun _ => 0))), (q4, .inl (ct 0, 64, .inl (fun _ => 0))), (q5, .inl (ct 0, 6, .inl (fun _ => 0))), (q6, .inl (ct 0, 6, .inl (fun _ => 0)))] rfl (fun H locs hw hS => ?_)
  refine lv_aload_n hx hb dX10_init_39 rfl (lv_at hl 0 rfl) ?_
  refine lv_bipush (v := 6) hx hb dX10_init_40 (by decide) ?_
  refine znewa (atype := .int) hx hb (hts (.arrayClass .int) (by decide +kernel)) 0 rfl hK hw hS hA 6 (6, .inl (fun _ => 0)) (fun _ => rfl) (by decide) (by decide) (by decide) (Nat.le_of_ble_eq_true rfl) (Nat.le_of_ble_eq_true rfl) dX10_init_42 (fun q7 H hw hS => ?_)
  refine zputF (D := D) (ci := 9) (v := .ref q7) (ty := (.array .int)) hx hb hts hiX10 tyX10 tyX10_ok nmX10 hown hK hw hS 0 rfl rfl 6 (by decide) (hts (.fieldLink RX10 28 "BeardPass$Ways" "latest" "[I") (by decide +kernel)) (fun _ h9 => h9) rfl hname rfl (by decide +kernel) rfl rfl (Nat.le_of_ble_eq_true rfl) dX10_init_44 [(h0, .inr (9, [.null, .null, .ref q1, .ref q4, .ref q5, .ref q6, .ref q7])), (q1, .inr (7, [.ref (u2 0), .ref (u2 1), .ref (u2 2), .ref (u2 3), .ref (u2 4), .int 0])), (u2 0, .inl (ct 0, 6, .inl (fun _ => 0))), (u2 1, .inl (ct 0, 6, .inl (fun _ => 0))), (u2 2, .inl (ct 0, 6, .inl (fun _ => 0))), (u2 3, .inl (ct 0, 6, .inl (fun _ => 0))), (u2 4, .inl (ct 0, 6, .inl (fun _ => 0))), (q4, .inl (ct 0, 64, .inl (fun _ => 0))), (q5, .inl (ct 0, 6, .inl (fun _ => 0))), (q6, .inl (ct 0, 6, .inl (fun _ => 0))), (q7, .inl (ct 0, 6, .inl (fun _ => 0)))] rfl (fun H locs hw hS => ?_)
  refine lv_aload_n hx hb dX10_init_47 rfl (lv_at hl 0 rfl) ?_
  refine lv_aload_n hx hb dX10_init_48 rfl (lv_at hl 1 rfl) ?_
  refine zputF (D := D) (ci := 9) (v := .ref h1) (ty := (.object "BeardPass$Land")) hx hb hts hiX10 tyX10 tyX10_ok nmX10 hown hK hw hS 0 rfl rfl 0 (by decide) (hts (.fieldLink RX10 31 "BeardPass$Ways" "land" "LBeardPass$Land;") (by decide +kernel)) (fun _ h9 => h9) rfl hname rfl (by decide +kernel) rfl rfl (Nat.le_of_ble_eq_true rfl) dX10_init_49 [(h0, .inr (9, [.ref h1, .null, .ref q1, .ref q4, .ref q5, .ref q6, .ref q7])), (q1, .inr (7, [.ref (u2 0), .ref (u2 1), .ref (u2 2), .ref (u2 3), .ref (u2 4), .int 0])), (u2 0, .inl (ct 0, 6, .inl (fun _ => 0))), (u2 1, .inl (ct 0, 6, .inl (fun _ => 0))), (u2 2, .inl (ct 0, 6, .inl (fun _ => 0))), (u2 3, .inl (ct 0, 6, .inl (fun _ => 0))), (u2 4, .inl (ct 0, 6, .inl (fun _ => 0))), (q4, .inl (ct 0, 64, .inl (fun _ => 0))), (q5, .inl (ct 0, 6, .inl (fun _ => 0))), (q6, .inl (ct 0, 6, .inl (fun _ => 0))), (q7, .inl (ct 0, 6, .inl (fun _ => 0)))] rfl (fun H locs hw hS => ?_)
  refine lv_aload_n hx hb dX10_init_52 rfl (lv_at hl 0 rfl) ?_
  refine lv_aload_n hx hb dX10_init_53 rfl (lv_at hl 2 rfl) ?_
  refine zputF (D := D) (ci := 9) (v := .ref h2) (ty := (.object "BeardPass$Frontier")) hx hb hts hiX10 tyX10 tyX10_ok nmX10 hown hK hw hS 0 rfl rfl 1 (by decide) (hts (.fieldLink RX10 35 "BeardPass$Ways" "frontier" "LBeardPass$Frontier;") (by decide +kernel)) (fun _ h9 => h9) rfl hname rfl (by decide +kernel) rfl rfl (Nat.le_of_ble_eq_true rfl) dX10_init_54 [(h0, .inr (9, [.ref h1, .ref h2, .ref q1, .ref q4, .ref q5, .ref q6, .ref q7])), (q1, .inr (7, [.ref (u2 0), .ref (u2 1), .ref (u2 2), .ref (u2 3), .ref (u2 4), .int 0])), (u2 0, .inl (ct 0, 6, .inl (fun _ => 0))), (u2 1, .inl (ct 0, 6, .inl (fun _ => 0))), (u2 2, .inl (ct 0, 6, .inl (fun _ => 0))), (u2 3, .inl (ct 0, 6, .inl (fun _ => 0))), (u2 4, .inl (ct 0, 6, .inl (fun _ => 0))), (q4, .inl (ct 0, 64, .inl (fun _ => 0))), (q5, .inl (ct 0, 6, .inl (fun _ => 0))), (q6, .inl (ct 0, 6, .inl (fun _ => 0))), (q7, .inl (ct 0, 6, .inl (fun _ => 0)))] rfl (fun H locs hw hS => ?_)
  exact zvret hx hb hr hlocks (fun j => ([q1, u2 0, u2 1, u2 2, u2 3, u2 4, q4, q5, q6, q7] : List Nat).getD j 0) rfl (trivial) hw [0, 1, 2, 3, 4, 5, 6, 7, 8, 9, 10] rfl (rfl) hS (Nat.le_of_ble_eq_true rfl) (Nat.le_of_ble_eq_true rfl) dX10_init_57

set_option maxHeartbeats 4000000 in
set_option maxRecDepth 100000 in
/-- Mark() -/
theorem c_X5_init (l : Launch) (D : va_G) (ct : Nat → ClassId) (h0 : Nat)  : zC l yX5_init wsX5_init ({ frames := 2, cells := 11, slots := 162, locals := 120 }) D ct [] [.ref h0] [(h0, .inr (5, [.null, .null, .null, .int 0]))] (S := Nat → Nat) (fun u => none) (fun u => True) (fun u => [(h0, .inr (5, [.ref (u 0), .ref (u 6), .ref (u 10), .int 0])), (u 0, .inr (7, [.ref (u 1), .ref (u 2), .ref (u 3), .ref (u 4), .ref (u 5), .int 0])), (u 1, .inl (ct 0, 6, .inl (fun _ => 0))), (u 2, .inl (ct 0, 6, .inl (fun _ => 0))), (u 3, .inl (ct 0, 6, .inl (fun _ => 0))), (u 4, .inl (ct 0, 6, .inl (fun _ => 0))), (u 5, .inl (ct 0, 6, .inl (fun _ => 0))), (u 6, .inr (1, [.ref (u 7), .ref (u 8), .ref (u 9), .int 0])), (u 7, .inl (ct 0, 40, .inl (fun _ => 0))), (u 8, .inl (ct 0, 40, .inl (fun _ => 0))), (u 9, .inl (ct 0, 40, .inl (fun _ => 0))), (u 10, .inr (6, [.int 2147483647, .int 0]))]) 11 162 := by
  refine zofW cX5_init 1 none (by decide) rfl (Nat.le_of_ble_eq_true rfl) ?_
  intro p e s m below meth c A hx hb hr hml hts hown hlocks hname hK hA hZ hN H locs hw hS ls hl
  have hown : s.vm.findClass RX5 = some m.cls := hown
  have hl : lv_has ls 1 [(0, .ref h0)] := hl
  have hiX1 : ∀ w ∈ wsX10, w ∈ wsX5_init := by decide +kernel
  have hiX5 : ∀ w ∈ wsX50, w ∈ wsX5_init := by decide +kernel
  have hiX6 : ∀ w ∈ wsX60, w ∈ wsX5_init := by decide +kernel
  have hiX8 : ∀ w ∈ wsX80, w ∈ wsX5_init := by decide +kernel
  refine lv_aload_n hx hb dX5_init_0 rfl (lv_at hl 0 rfl) ?_
  refine W.objInit hx hb hown (hts (.methodLink RX5 1 objectInit) (by decide +kernel)) (hts (.instanceMethod objectInit) (by decide +kernel)) (hts (.code objectInit ⟨#[0xb1]⟩ 1 none) (by decide +kernel)) rfl (by rw [hml]; exact hl.1) rfl dX5_init_1 (Nat.le_of_ble_eq_true rfl) (Nat.le_of_ble_eq_true rfl) ?_
  refine W.eq (g2 := F0 m 4 ls []) rfl ?_
  refine lv_aload_n hx hb dX5_init_4 rfl (lv_at hl 0 rfl) ?_
  refine znew (ci := 7) (C := RX8) (T := TX8) (N := 6) hx hb hts hiX8 tyX8 tyX8_ok hown (hts (.classLink RX5 7 RX8) (by decide +kernel)) (hts (.instantiable RX8 6) (by decide +kernel)) (hts (.initialized RX8) (by decide +kernel)) hK hw hS hA rfl [.null, .null, .null, .null, .null, .int 0] rfl (Nat.le_of_ble_eq_true rfl) (Nat.le_of_ble_eq_true rfl) dX5_init_5 (fun q1 H hw hS => ?_)
  refine lv_dup hx hb dX5_init_8 rfl ?_
  refine zcall2 (va_runIN (As := []) (rest := [.ref q1, .ref h0]) ⟨hx, hb, hml, hown, hts⟩ (c_X8_init l D ct q1 H.size) ⟨va_cnB 0 hts gX5_init_X8_init_n9 rfl rfl rfl (hN.1 (RX5, 9, yX8_init, RX11) (List.mem_of_getElem? (i := 8) rfl)) (hts (.initialized RX8) (by decide +kernel)) (by decide +kernel) ⟨Nat.le_of_ble_eq_true rfl, Nat.le_of_ble_eq_true rfl⟩, rfl, hts (.instanceMethod yX8_init) (by decide +kernel)⟩ (zpreS hK hw hS hA zZ.nil hN [1] rfl rfl) rfl rfl hl.1 rfl (lv_room (Nat.le_of_ble_eq_true rfl)) dX5_init_9 ⟨Nat.le_of_ble_eq_true rfl, Nat.le_of_ble_eq_true rfl⟩) hw hS hA [1] [0] rfl rfl rfl rfl (fun u2 H locs hp3 hw hS => ?_)
  refine zfr 12 [.ref q1, .ref h0] rfl rfl ?_
  refine zputF (D := D) (ci := 5) (v := .ref q1) (ty := (.object "BeardPass$Standing")) hx hb hts hiX5 tyX5 tyX5_ok nmX5 hown hK hw hS 0 rfl rfl 0 (by decide) (hts (.fieldLink RX5 10 "BeardPass$Mark" "standing" "LBeardPass$Standing;") (by decide +kernel)) (fun _ h9 => h9) rfl hname rfl (by decide +kernel) rfl rfl (Nat.le_of_ble_eq_true rfl) dX5_init_12 [(h0, .inr (5, [.ref q1, .null, .null, .int 0])), (q1, .inr (7, [.ref (u2 0), .ref (u2 1), .ref (u2 2), .ref (u2 3), .ref (u2 4), .int 0])), (u2 0, .inl (ct 0, 6, .inl (fun _ => 0))), (u2 1, .inl (ct 0, 6, .inl (fun _ => 0))), (u2 2, .inl (ct 0, 6, .inl (fun _ => 0))), (u2 3, .inl (ct 0, 6, .inl (fun _ => 0))), (u2 4, .inl (ct 0, 6, .inl (fun _ => 0)))] rfl (fun H locs hw hS => ?_)
  refine lv_aload_n hx hb dX5_init_15 rfl (lv_at hl 0 rfl) ?_
  refine znew (ci := 1) (C := RX1) (T := TX1) (N := 4) hx hb hts hiX1 tyX1 tyX1_ok hown (hts (.classLink RX5 16 RX1) (by decide +kernel)) (hts (.instantiable RX1 4) (by decide +kernel)) (hts (.initialized RX1) (by decide +kernel)) hK hw hS hA rfl [.null, .null, .null, .int 0] rfl (Nat.le_of_ble_eq_true rfl) (Nat.le_of_ble_eq_true rfl) dX5_init_16 (fun q4 H hw hS => ?_)
  refine lv_dup hx hb dX5_init_19 rfl ?_
  refine zcall2 (va_runIN (As := []) (rest := [.ref q4, .ref h0]) ⟨hx, hb, hml, hown, hts⟩ (c_X1_init l D ct q4 H.size) ⟨va_cnB 0 hts gX5_init_X1_init_n18 rfl rfl rfl (hN.1 (RX5, 18, yX1_init, RX11) (List.mem_of_getElem? (i := 9) rfl)) (hts (.initialized RX1) (by decide +kernel)) (by decide +kernel) ⟨Nat.le_of_ble_eq_true rfl, Nat.le_of_ble_eq_true rfl⟩, rfl, hts (.instanceMethod yX1_init) (by decide +kernel)⟩ (zpreS hK hw hS hA zZ.nil hN [7] rfl rfl) rfl rfl hl.1 rfl (lv_room (Nat.le_of_ble_eq_true rfl)) dX5_init_20 ⟨Nat.le_of_ble_eq_true rfl, Nat.le_of_ble_eq_true rfl⟩) hw hS hA [7] [0, 1, 2, 3, 4, 5, 6] rfl rfl (by decide +kernel) (by decide +kernel) (fun u5 H locs hp6 hw hS => ?_)
  refine zfr 23 [.ref q4, .ref h0] rfl rfl ?_
  refine zputF (D := D) (ci := 5) (v := .ref q4) (ty := (.object "BeardPass$Journey")) hx hb hts hiX5 tyX5 tyX5_ok nmX5 hown hK hw hS 0 rfl rfl 1 (by decide) (hts (.fieldLink RX5 19 "BeardPass$Mark" "plan" "LBeardPass$Journey;") (by decide +kernel)) (fun _ h9 => h9) rfl hname rfl (by decide +kernel) rfl rfl (Nat.le_of_ble_eq_true rfl) dX5_init_23 [(h0, .inr (5, [.ref q1, .ref q4, .null, .int 0])), (q1, .inr (7, [.ref (u2 0), .ref (u2 1), .ref (u2 2), .ref (u2 3), .ref (u2 4), .int 0])), (u2 0, .inl (ct 0, 6, .inl (fun _ => 0))), (u2 1, .inl (ct 0, 6, .inl (fun _ => 0))), (u2 2, .inl (ct 0, 6, .inl (fun _ => 0))), (u2 3, .inl (ct 0, 6, .inl (fun _ => 0))), (u2 4, .inl (ct 0, 6, .inl (fun _ => 0))), (q4, .inr (1, [.ref (u5 0), .ref (u5 1), .ref (u5 2), .int 0])), (u5 0, .inl (ct 0, 40, .inl (fun _ => 0))), (u5 1, .inl (ct 0, 40, .inl (fun _ => 0))), (u5 2, .inl (ct 0, 40, .inl (fun _ => 0)))] rfl (fun H locs hw hS => ?_)
  refine lv_aload_n hx hb dX5_init_26 rfl (lv_at hl 0 rfl) ?_
  refine znew (ci := 6) (C := RX6) (T := TX6) (N := 2) hx hb hts hiX6 tyX6 tyX6_ok hown (hts (.classLink RX5 23 RX6) (by decide +kernel)) (hts (.instantiable RX6 2) (by decide +kernel)) (hts (.initialized RX6) (by decide +kernel)) hK hw hS hA rfl [.int 0, .int 0] rfl (Nat.le_of_ble_eq_true rfl) (Nat.le_of_ble_eq_true rfl) dX5_init_27 (fun q7 H hw hS => ?_)
  refine lv_dup hx hb dX5_init_30 rfl ?_
  refine zcall2 (va_runIN (As := []) (rest := [.ref q7, .ref h0]) ⟨hx, hb, hml, hown, hts⟩ (c_X6_init l D ct q7 H.size) ⟨va_cnB 0 hts gX5_init_X6_init_n25 rfl rfl rfl (hN.1 (RX5, 25, yX6_init, RX11) (List.mem_of_getElem? (i := 10) rfl)) (hts (.initialized RX6) (by decide +kernel)) (by decide +kernel) ⟨Nat.le_of_ble_eq_true rfl, Nat.le_of_ble_eq_true rfl⟩, rfl, hts (.instanceMethod yX6_init) (by decide +kernel)⟩ (zpreS hK hw hS hA zZ.nil hN [11] rfl rfl) rfl rfl hl.1 rfl (lv_room (Nat.le_of_ble_eq_true rfl)) dX5_init_31 ⟨Nat.le_of_ble_eq_true rfl, Nat.le_of_ble_eq_true rfl⟩) hw hS hA [11] [0, 1, 2, 3, 4, 5, 6, 7, 8, 9, 10] rfl rfl (by decide +kernel) (by decide +kernel) (fun _ H locs hp8 hw hS => ?_)
  refine zfr 34 [.ref q7, .ref h0] rfl rfl ?_
  refine zputF (D := D) (ci := 5) (v := .ref q7) (ty := (.object "BeardPass$Sightings")) hx hb hts hiX5 tyX5 tyX5_ok nmX5 hown hK hw hS 0 rfl rfl 2 (by decide) (hts (.fieldLink RX5 26 "BeardPass$Mark" "sightings" "LBeardPass$Sightings;") (by decide +kernel)) (fun _ h9 => h9) rfl hname rfl (by decide +kernel) rfl rfl (Nat.le_of_ble_eq_true rfl) dX5_init_34 [(h0, .inr (5, [.ref q1, .ref q4, .ref q7, .int 0])), (q1, .inr (7, [.ref (u2 0), .ref (u2 1), .ref (u2 2), .ref (u2 3), .ref (u2 4), .int 0])), (u2 0, .inl (ct 0, 6, .inl (fun _ => 0))), (u2 1, .inl (ct 0, 6, .inl (fun _ => 0))), (u2 2, .inl (ct 0, 6, .inl (fun _ => 0))), (u2 3, .inl (ct 0, 6, .inl (fun _ => 0))), (u2 4, .inl (ct 0, 6, .inl (fun _ => 0))), (q4, .inr (1, [.ref (u5 0), .ref (u5 1), .ref (u5 2), .int 0])), (u5 0, .inl (ct 0, 40, .inl (fun _ => 0))), (u5 1, .inl (ct 0, 40, .inl (fun _ => 0))), (u5 2, .inl (ct 0, 40, .inl (fun _ => 0))), (q7, .inr (6, [.int 2147483647, .int 0]))] rfl (fun H locs hw hS => ?_)
  refine lv_aload_n hx hb dX5_init_37 rfl (lv_at hl 0 rfl) ?_
  refine lv_iconst (v := 0) hx hb dX5_init_38 (by decide) ?_
  refine zput (D := D) (ci := 5) (v := .int 0) (ty := .boolean) hx hb hts hiX5 tyX5 tyX5_ok nmX5 hown hK hw hS 0 rfl rfl 3 (by decide) (hts (.fieldLink RX5 30 "BeardPass$Mark" "laid" "Z") (by decide +kernel)) (fun _ h9 => h9) rfl (by decide +kernel) rfl rfl (Nat.le_of_ble_eq_true rfl) dX5_init_39 [(h0, .inr (5, [.ref q1, .ref q4, .ref q7, .int 0])), (q1, .inr (7, [.ref (u2 0), .ref (u2 1), .ref (u2 2), .ref (u2 3), .ref (u2 4), .int 0])), (u2 0, .inl (ct 0, 6, .inl (fun _ => 0))), (u2 1, .inl (ct 0, 6, .inl (fun _ => 0))), (u2 2, .inl (ct 0, 6, .inl (fun _ => 0))), (u2 3, .inl (ct 0, 6, .inl (fun _ => 0))), (u2 4, .inl (ct 0, 6, .inl (fun _ => 0))), (q4, .inr (1, [.ref (u5 0), .ref (u5 1), .ref (u5 2), .int 0])), (u5 0, .inl (ct 0, 40, .inl (fun _ => 0))), (u5 1, .inl (ct 0, 40, .inl (fun _ => 0))), (u5 2, .inl (ct 0, 40, .inl (fun _ => 0))), (q7, .inr (6, [.int 2147483647, .int 0]))] rfl (fun H locs hw hS => ?_)
  exact zvret hx hb hr hlocks (fun j => ([q1, u2 0, u2 1, u2 2, u2 3, u2 4, q4, u5 0, u5 1, u5 2, q7] : List Nat).getD j 0) rfl (trivial) hw [0, 1, 2, 3, 4, 5, 6, 7, 8, 9, 10, 11] rfl (rfl) hS (Nat.le_of_ble_eq_true rfl) (Nat.le_of_ble_eq_true rfl) dX5_init_42

set_option maxHeartbeats 4000000 in
set_option maxRecDepth 100000 in
/-- Tape() -/
theorem c_X9_init (l : Launch) (D : va_G) (ct : Nat → ClassId) (h0 : Nat) (eE : Nat)  : zC l yX9_init wsX9_init ({ frames := 1, cells := 1, slots := 1000, locals := 80 }) D ct [("END", eE)] [.ref h0] [(h0, .inr (8, [.null, .int 0, .int 0, .int 0, .null, .int 0, .long 0, .int 0]))] (S := Nat → Nat) (fun u => none) (fun u => True) (fun u => [(h0, .inr (8, [.ref (u 0), .int 0, .int 0, .int 0, .ref eE, .int 0, .long 0, .int 0])), (u 0, .inl (ct 2, 1000, .inl (fun _ => 0)))]) 1 1000 := by
  refine zofW cX9_init 1 none (by decide) rfl (Nat.le_of_ble_eq_true rfl) ?_
  intro p e s m below meth c A hx hb hr hml hts hown hlocks hname hK hA hZ hN H locs hw hS ls hl
  have hown : s.vm.findClass RX9 = some m.cls := hown
  have hl : lv_has ls 1 [(0, .ref h0)] := hl
  have hiX9 : ∀ w ∈ wsX90, w ∈ wsX9_init := by decide +kernel
  refine lv_aload_n hx hb dX9_init_0 rfl (lv_at hl 0 rfl) ?_
  refine W.objInit hx hb hown (hts (.methodLink RX9 3 objectInit) (by decide +kernel)) (hts (.instanceMethod objectInit) (by decide +kernel)) (hts (.code objectInit ⟨#[0xb1]⟩ 1 none) (by decide +kernel)) rfl (by rw [hml]; exact hl.1) rfl dX9_init_1 (Nat.le_of_ble_eq_true rfl) (Nat.le_of_ble_eq_true rfl) ?_
  refine W.eq (g2 := F0 m 4 ls []) rfl ?_
  refine lv_aload_n hx hb dX9_init_4 rfl (lv_at hl 0 rfl) ?_
  refine lv_sipush (v := 1000) hx hb dX9_init_5 (by decide) ?_
  refine znewa (atype := .char) hx hb (hts (.arrayClass .char) (by decide +kernel)) 2 rfl hK hw hS hA 1000 (1000, .inl (fun _ => 0)) (fun _ => rfl) (by decide) (by decide) (by decide) (Nat.le_of_ble_eq_true rfl) (Nat.le_of_ble_eq_true rfl) dX9_init_8 (fun q1 H hw hS => ?_)
  refine zputF (D := D) (ci := 8) (v := .ref q1) (ty := (.array .char)) hx hb hts hiX9 tyX9 tyX9_ok nmX9 hown hK hw hS 0 rfl rfl 0 (by decide) (hts (.fieldLink RX9 9 "BeardPass$Tape" "signs" "[C") (by decide +kernel)) (fun _ h9 => h9) rfl hname rfl (by decide +kernel) rfl rfl (Nat.le_of_ble_eq_true rfl) dX9_init_10 [(h0, .inr (8, [.ref q1, .int 0, .int 0, .int 0, .null, .int 0, .long 0, .int 0])), (q1, .inl (ct 2, 1000, .inl (fun _ => 0)))] rfl (fun H locs hw hS => ?_)
  refine lv_aload_n hx hb dX9_init_13 rfl (lv_at hl 0 rfl) ?_
  refine lv_iconst (v := 0) hx hb dX9_init_14 (by decide) ?_
  refine zput (D := D) (ci := 8) (v := .int 0) (ty := .int) hx hb hts hiX9 tyX9 tyX9_ok nmX9 hown hK hw hS 0 rfl rfl 1 (by decide) (hts (.fieldLink RX9 15 "BeardPass$Tape" "length" "I") (by decide +kernel)) (fun _ h9 => h9) rfl (by decide +kernel) rfl rfl (Nat.le_of_ble_eq_true rfl) dX9_init_15 [(h0, .inr (8, [.ref q1, .int 0, .int 0, .int 0, .null, .int 0, .long 0, .int 0])), (q1, .inl (ct 2, 1000, .inl (fun _ => 0)))] rfl (fun H locs hw hS => ?_)
  refine lv_aload_n hx hb dX9_init_18 rfl (lv_at hl 0 rfl) ?_
  refine lv_iconst (v := 0) hx hb dX9_init_19 (by decide) ?_
  refine zput (D := D) (ci := 8) (v := .int 0) (ty := .int) hx hb hts hiX9 tyX9 tyX9_ok nmX9 hown hK hw hS 0 rfl rfl 2 (by decide) (hts (.fieldLink RX9 19 "BeardPass$Tape" "place" "I") (by decide +kernel)) (fun _ h9 => h9) rfl (by decide +kernel) rfl rfl (Nat.le_of_ble_eq_true rfl) dX9_init_20 [(h0, .inr (8, [.ref q1, .int 0, .int 0, .int 0, .null, .int 0, .long 0, .int 0])), (q1, .inl (ct 2, 1000, .inl (fun _ => 0)))] rfl (fun H locs hw hS => ?_)
  refine lv_aload_n hx hb dX9_init_23 rfl (lv_at hl 0 rfl) ?_
  refine lv_iconst (v := 0) hx hb dX9_init_24 (by decide) ?_
  refine zput (D := D) (ci := 8) (v := .int 0) (ty := .int) hx hb hts hiX9 tyX9 tyX9_ok nmX9 hown hK hw hS 0 rfl rfl 3 (by decide) (hts (.fieldLink RX9 22 "BeardPass$Tape" "next" "I") (by decide +kernel)) (fun _ h9 => h9) rfl (by decide +kernel) rfl rfl (Nat.le_of_ble_eq_true rfl) dX9_init_25 [(h0, .inr (8, [.ref q1, .int 0, .int 0, .int 0, .null, .int 0, .long 0, .int 0])), (q1, .inl (ct 2, 1000, .inl (fun _ => 0)))] rfl (fun H locs hw hS => ?_)
  refine lv_aload_n hx hb dX9_init_28 rfl (lv_at hl 0 rfl) ?_
  refine va_gets (C := RX7) (n := "END") (d := "LBeardPass$Sort;") (v := .ref eE) hx hb (hZ ("END", eE) (List.mem_of_getElem? (i := 0) rfl)) hS hown (hts (.fieldLink RX9 25 "BeardPass$Sort" "END" "LBeardPass$Sort;") (by decide +kernel)) (fun _ h9 => h9) dX9_init_29 ?_
  refine zput (D := D) (ci := 8) (v := .ref eE) (ty := (.object "BeardPass$Sort")) hx hb hts hiX9 tyX9 tyX9_ok nmX9 hown hK hw hS 0 rfl rfl 4 (by decide) (hts (.fieldLink RX9 31 "BeardPass$Tape" "sort" "LBeardPass$Sort;") (by decide +kernel)) (fun _ h9 => h9) rfl (by decide +kernel) rfl rfl (Nat.le_of_ble_eq_true rfl) dX9_init_32 [(h0, .inr (8, [.ref q1, .int 0, .int 0, .int 0, .ref eE, .int 0, .long 0, .int 0])), (q1, .inl (ct 2, 1000, .inl (fun _ => 0)))] rfl (fun H locs hw hS => ?_)
  refine lv_aload_n hx hb dX9_init_35 rfl (lv_at hl 0 rfl) ?_
  refine lv_iconst (v := 0) hx hb dX9_init_36 (by decide) ?_
  refine zput (D := D) (ci := 8) (v := .int 0) (ty := .int) hx hb hts hiX9 tyX9 tyX9_ok nmX9 hown hK hw hS 0 rfl rfl 5 (by decide) (hts (.fieldLink RX9 34 "BeardPass$Tape" "number" "I") (by decide +kernel)) (fun _ h9 => h9) rfl (by decide +kernel) rfl rfl (Nat.le_of_ble_eq_true rfl) dX9_init_37 [(h0, .inr (8, [.ref q1, .int 0, .int 0, .int 0, .ref eE, .int 0, .long 0, .int 0])), (q1, .inl (ct 2, 1000, .inl (fun _ => 0)))] rfl (fun H locs hw hS => ?_)
  refine lv_aload_n hx hb dX9_init_40 rfl (lv_at hl 0 rfl) ?_
  refine lv_lconst (v := 0) hx hb dX9_init_41 (by decide) ?_
  refine zput (D := D) (ci := 8) (v := .long 0) (ty := .long) hx hb hts hiX9 tyX9 tyX9_ok nmX9 hown hK hw hS 0 rfl rfl 6 (by decide) (hts (.fieldLink RX9 37 "BeardPass$Tape" "word" "J") (by decide +kernel)) (fun _ h9 => h9) rfl (by decide +kernel) rfl rfl (Nat.le_of_ble_eq_true rfl) dX9_init_42 [(h0, .inr (8, [.ref q1, .int 0, .int 0, .int 0, .ref eE, .int 0, .long 0, .int 0])), (q1, .inl (ct 2, 1000, .inl (fun _ => 0)))] rfl (fun H locs hw hS => ?_)
  refine lv_aload_n hx hb dX9_init_45 rfl (lv_at hl 0 rfl) ?_
  refine lv_iconst (v := 0) hx hb dX9_init_46 (by decide) ?_
  refine zput (D := D) (ci := 8) (v := .int 0) (ty := .int) hx hb hts hiX9 tyX9 tyX9_ok nmX9 hown hK hw hS 0 rfl rfl 7 (by decide) (hts (.fieldLink RX9 41 "BeardPass$Tape" "fault" "I") (by decide +kernel)) (fun _ h9 => h9) rfl (by decide +kernel) rfl rfl (Nat.le_of_ble_eq_true rfl) dX9_init_47 [(h0, .inr (8, [.ref q1, .int 0, .int 0, .int 0, .ref eE, .int 0, .long 0, .int 0])), (q1, .inl (ct 2, 1000, .inl (fun _ => 0)))] rfl (fun H locs hw hS => ?_)
  exact zvret hx hb hr hlocks (fun j => ([q1] : List Nat).getD j 0) rfl (trivial) hw [0, 1] rfl (rfl) hS (Nat.le_of_ble_eq_true rfl) (Nat.le_of_ble_eq_true rfl) dX9_init_50
set_option maxHeartbeats 4000000 in
set_option maxRecDepth 100000 in
/-- BeardPassModel(): a new object -/
theorem c_X12_init (l : Launch) (D : va_G) (ct : Nat → ClassId) (h0 : Nat)  : zC l yX12_init wsX12_init ({ frames := 1, cells := 39, slots := 5117, locals := 80 }) D ct [] [.ref h0] [(h0, .inr (11, [.int 0, .int 0, .null, .int 0, .int 0, .int 0, .int 0, .long 0, .int 0, .int 0, .null, .null, .null, .null, .null, .null, .null, .null, .null, .null, .null, .null, .int 0, .int 0, .null, .null, .null, .null, .null, .null, .null, .null, .null, .null, .null, .null, .int 0, .long 0, .null, .null, .null, .null, .null, .null, .null, .null, .null, .null, .null, .null, .null, .int 0, .int 0, .null, .long 0, .int 0, .int 0]))] (S := Nat → Nat) (fun u => none) (fun u => True) (fun u => [(h0, .inr (11, [.int 0, .int 0, .ref (u 0), .int 0, .int 0, .int 0, .int 0, .long 0, .int 0, .int 0, .ref (u 1), .ref (u 2), .ref (u 3), .ref (u 4), .ref (u 5), .ref (u 6), .ref (u 7), .ref (u 8), .ref (u 9), .ref (u 10), .ref (u 11), .ref (u 12), .int 0, .int 0, .ref (u 13), .ref (u 14), .ref (u 15), .ref (u 16), .ref (u 17), .ref (u 18), .ref (u 19), .ref (u 20), .ref (u 21), .ref (u 22), .ref (u 23), .ref (u 24), .int 0, .long 0, .ref (u 25), .ref (u 26), .ref (u 27), .ref (u 28), .ref (u 29), .ref (u 30), .ref (u 31), .ref (u 32), .ref (u 33), .ref (u 34), .ref (u 35), .ref (u 36), .ref (u 37), .int 0, .int 0, .ref (u 38), .long 0, .int 0, .int 0])), (u 0, .inl (ct 0, 1000, .inl (fun _ => 0))), (u 1, .inl (ct 0, 8, .inl (upd (upd (fun _ => 0) 2 1) 3 2))), (u 2, .inl (ct 1, 12, .inr (.inl (fun _ => 0)))), (u 3, .inl (ct 1, 12, .inr (.inl (fun _ => 0)))), (u 4, .inl (ct 0, 12, .inl (fun _ => 0))), (u 5, .inl (ct 0, 12, .inl (fun _ => 0))), (u 6, .inl (ct 0, 12, .inl (fun _ => 0))), (u 7, .inl (ct 0, 12, .inl (fun _ => 0))), (u 8, .inl (ct 0, 12, .inl (fun _ => 0))), (u 9, .inl (ct 0, 12, .inl (fun _ => 0))), (u 10, .inl (ct 0, 2, .inl (fun _ => 0))), (u 11, .inl (ct 0, 2, .inl (fun _ => 0))), (u 12, .inl (ct 0, 2000, .inl (fun _ => 0))), (u 13, .inl (ct 0, 7, .inl (fun _ => 0))), (u 14, .inl (ct 3, 7, .inl (fun _ => 0))), (u 15, .inl (ct 0, 7, .inl (fun _ => 0))), (u 16, .inl (ct 0, 7, .inl (fun _ => 0))), (u 17, .inl (ct 0, 7, .inl (fun _ => 0))), (u 18, .inl (ct 0, 7, .inl (fun _ => 0))), (u 19, .inl (ct 0, 7, .inl (fun _ => 0))), (u 20, .inl (ct 0, 7, .inl (fun _ => 0))), (u 21, .inl (ct 0, 7, .inl (fun _ => 0))), (u 22, .inl (ct 0, 7, .inl (fun _ => 0))), (u 23, .inl (ct 0, 7, .inl (fun _ => 0))), (u 24, .inl (ct 0, 20, .inl (fun _ => 0))), (u 25, .inl (ct 0, 6, .inl (fun _ => 0))), (u 26, .inl (ct 0, 240, .inl (fun _ => 0))), (u 27, .inl (ct 0, 240, .inl (fun _ => 0))), (u 28, .inl (ct 0, 240, .inl (fun _ => 0))), (u 29, .inl (ct 0, 5, .inl (fun _ => 0))), (u 30, .inl (ct 0, 40, .inl (fun _ => 0))), (u 31, .inl (ct 3, 40, .inl (fun _ => 0))), (u 32, .inl (ct 0, 31, .inl (fun _ => 0))), (u 33, .inl (ct 0, 31, .inl (fun _ => 0))), (u 34, .inl (ct 0, 31, .inl (fun _ => 0))), (u 35, .inl (ct 0, 124, .inl (fun _ => 0))), (u 36, .inl (ct 0, 496, .inl (fun _ => 0))), (u 37, .inl (ct 3, 4, .inl (fun _ => 0))), (u 38, .inl (ct 3, 384, .inl (fun _ => 0)))]) 39 5117 := by
  refine zofW cX12_init 1 none (by decide) rfl (Nat.le_of_ble_eq_true rfl) ?_
  intro p e s m below meth c A hx hb hr hml hts hown hlocks hname hK hA hZ hN H locs hw hS ls hl
  have hown : s.vm.findClass RX12 = some m.cls := hown
  have hl : lv_has ls 1 [(0, .ref h0)] := hl
  have hiX12 : ∀ w ∈ wsX120, w ∈ wsX12_init := by decide +kernel
  refine lv_aload_n hx hb dX12_init_0 rfl (lv_at hl 0 rfl) ?_
  refine W.objInit hx hb hown (hts (.methodLink RX12 1 objectInit) (by decide +kernel)) (hts (.instanceMethod objectInit) (by decide +kernel)) (hts (.code objectInit ⟨#[0xb1]⟩ 1 none) (by decide +kernel)) rfl (by rw [hml]; exact hl.1) rfl dX12_init_1 (Nat.le_of_ble_eq_true rfl) (Nat.le_of_ble_eq_true rfl) ?_
  refine W.eq (g2 := F0 m 4 ls []) rfl ?_
  refine lv_aload_n hx hb dX12_init_4 rfl (lv_at hl 0 rfl) ?_
  refine lv_sipush (v := 1000) hx hb dX12_init_5 (by decide) ?_
  refine znewa (atype := .int) hx hb (hts (.arrayClass .int) (by decide +kernel)) 0 rfl hK hw hS hA 1000 (1000, .inl (fun _ => 0)) (fun _ => rfl) (by decide) (by decide) (by decide) (Nat.le_of_ble_eq_true rfl) (Nat.le_of_ble_eq_true rfl) dX12_init_8 (fun q1 H hw hS => ?_)
  refine zputF (D := D) (ci := 11) (v := .ref q1) (ty := (.array .int)) hx hb hts hiX12 tyX12 tyX12_ok nmX12 hown hK hw hS 0 rfl rfl 2 (by decide) (hts (.fieldLink RX12 7 "BeardPassModel" "tape" "[I") (by decide +kernel)) (fun _ h9 => h9) rfl hname rfl (by decide +kernel) rfl rfl (Nat.le_of_ble_eq_true rfl) dX12_init_10 [(h0, .inr (11, [.int 0, .int 0, .ref q1, .int 0, .int 0, .int 0, .int 0, .long 0, .int 0, .int 0, .null, .null, .null, .null, .null, .null, .null, .null, .null, .null, .null, .null, .int 0, .int 0, .null, .null, .null, .null, .null, .null, .null, .null, .null, .null, .null, .null, .int 0, .long 0, .null, .null, .null, .null, .null, .null, .null, .null, .null, .null, .null, .null, .null, .int 0, .int 0, .null, .long 0, .int 0, .int 0])), (q1, .inl (ct 0, 1000, .inl (fun _ => 0)))] rfl (fun H locs hw hS => ?_)
  refine lv_aload_n hx hb dX12_init_13 rfl (lv_at hl 0 rfl) ?_
  refine lv_bipush (v := 8) hx hb dX12_init_14 (by decide) ?_
  refine znewa (atype := .int) hx hb (hts (.arrayClass .int) (by decide +kernel)) 0 rfl hK hw hS hA 8 (8, .inl (fun _ => 0)) (fun _ => rfl) (by decide) (by decide) (by decide) (Nat.le_of_ble_eq_true rfl) (Nat.le_of_ble_eq_true rfl) dX12_init_16 (fun q2 H hw hS => ?_)
  refine zputF (D := D) (ci := 11) (v := .ref q2) (ty := (.array .int)) hx hb hts hiX12 tyX12 tyX12_ok nmX12 hown hK hw hS 0 rfl rfl 10 (by decide) (hts (.fieldLink RX12 13 "BeardPassModel" "land" "[I") (by decide +kernel)) (fun _ h9 => h9) rfl hname rfl (by decide +kernel) rfl rfl (Nat.le_of_ble_eq_true rfl) dX12_init_18 [(h0, .inr (11, [.int 0, .int 0, .ref q1, .int 0, .int 0, .int 0, .int 0, .long 0, .int 0, .int 0, .ref q2, .null, .null, .null, .null, .null, .null, .null, .null, .null, .null, .null, .int 0, .int 0, .null, .null, .null, .null, .null, .null, .null, .null, .null, .null, .null, .null, .int 0, .long 0, .null, .null, .null, .null, .null, .null, .null, .null, .null, .null, .null, .null, .null, .int 0, .int 0, .null, .long 0, .int 0, .int 0])), (q1, .inl (ct 0, 1000, .inl (fun _ => 0))), (q2, .inl (ct 0, 8, .inl (fun _ => 0)))] rfl (fun H locs hw hS => ?_)
  refine lv_aload_n hx hb dX12_init_21 rfl (lv_at hl 0 rfl) ?_
  refine lv_bipush (v := 12) hx hb dX12_init_22 (by decide) ?_
  refine znewa (atype := .long) hx hb (hts (.arrayClass .long) (by decide +kernel)) 1 rfl hK hw hS hA 12 (12, .inr (.inl (fun _ => 0))) (fun _ => rfl) (by decide) (by decide) (by decide) (Nat.le_of_ble_eq_true rfl) (Nat.le_of_ble_eq_true rfl) dX12_init_24 (fun q3 H hw hS => ?_)
  refine zputF (D := D) (ci := 11) (v := .ref q3) (ty := (.array .long)) hx hb hts hiX12 tyX12 tyX12_ok nmX12 hown hK hw hS 0 rfl rfl 11 (by decide) (hts (.fieldLink RX12 16 "BeardPassModel" "townName" "[J") (by decide +kernel)) (fun _ h9 => h9) rfl hname rfl (by decide +kernel) rfl rfl (Nat.le_of_ble_eq_true rfl) dX12_init_26 [(h0, .inr (11, [.int 0, .int 0, .ref q1, .int 0, .int 0, .int 0, .int 0, .long 0, .int 0, .int 0, .ref q2, .ref q3, .null, .null, .null, .null, .null, .null, .null, .null, .null, .null, .int 0, .int 0, .null, .null, .null, .null, .null, .null, .null, .null, .null, .null, .null, .null, .int 0, .long 0, .null, .null, .null, .null, .null, .null, .null, .null, .null, .null, .null, .null, .null, .int 0, .int 0, .null, .long 0, .int 0, .int 0])), (q1, .inl (ct 0, 1000, .inl (fun _ => 0))), (q2, .inl (ct 0, 8, .inl (fun _ => 0))), (q3, .inl (ct 1, 12, .inr (.inl (fun _ => 0))))] rfl (fun H locs hw hS => ?_)
  refine lv_aload_n hx hb dX12_init_29 rfl (lv_at hl 0 rfl) ?_
  refine lv_bipush (v := 12) hx hb dX12_init_30 (by decide) ?_
  refine znewa (atype := .long) hx hb (hts (.arrayClass .long) (by decide +kernel)) 1 rfl hK hw hS hA 12 (12, .inr (.inl (fun _ => 0))) (fun _ => rfl) (by decide) (by decide) (by decide) (Nat.le_of_ble_eq_true rfl) (Nat.le_of_ble_eq_true rfl) dX12_init_32 (fun q4 H hw hS => ?_)
  refine zputF (D := D) (ci := 11) (v := .ref q4) (ty := (.array .long)) hx hb hts hiX12 tyX12 tyX12_ok nmX12 hown hK hw hS 0 rfl rfl 12 (by decide) (hts (.fieldLink RX12 20 "BeardPassModel" "personName" "[J") (by decide +kernel)) (fun _ h9 => h9) rfl hname rfl (by decide +kernel) rfl rfl (Nat.le_of_ble_eq_true rfl) dX12_init_34 [(h0, .inr (11, [.int 0, .int 0, .ref q1, .int 0, .int 0, .int 0, .int 0, .long 0, .int 0, .int 0, .ref q2, .ref q3, .ref q4, .null, .null, .null, .null, .null, .null, .null, .null, .null, .int 0, .int 0, .null, .null, .null, .null, .null, .null, .null, .null, .null, .null, .null, .null, .int 0, .long 0, .null, .null, .null, .null, .null, .null, .null, .null, .null, .null, .null, .null, .null, .int 0, .int 0, .null, .long 0, .int 0, .int 0])), (q1, .inl (ct 0, 1000, .inl (fun _ => 0))), (q2, .inl (ct 0, 8, .inl (fun _ => 0))), (q3, .inl (ct 1, 12, .inr (.inl (fun _ => 0)))), (q4, .inl (ct 1, 12, .inr (.inl (fun _ => 0))))] rfl (fun H locs hw hS => ?_)
  refine lv_aload_n hx hb dX12_init_37 rfl (lv_at hl 0 rfl) ?_
  refine lv_bipush (v := 12) hx hb dX12_init_38 (by decide) ?_
  refine znewa (atype := .int) hx hb (hts (.arrayClass .int) (by decide +kernel)) 0 rfl hK hw hS hA 12 (12, .inl (fun _ => 0)) (fun _ => rfl) (by decide) (by decide) (by decide) (Nat.le_of_ble_eq_true rfl) (Nat.le_of_ble_eq_true rfl) dX12_init_40 (fun q5 H hw hS => ?_)
  refine zputF (D := D) (ci := 11) (v := .ref q5) (ty := (.array .int)) hx hb hts hiX12 tyX12 tyX12_ok nmX12 hown hK hw hS 0 rfl rfl 13 (by decide) (hts (.fieldLink RX12 23 "BeardPassModel" "asks" "[I") (by decide +kernel)) (fun _ h9 => h9) rfl hname rfl (by decide +kernel) rfl rfl (Nat.le_of_ble_eq_true rfl) dX12_init_42 [(h0, .inr (11, [.int 0, .int 0, .ref q1, .int 0, .int 0, .int 0, .int 0, .long 0, .int 0, .int 0, .ref q2, .ref q3, .ref q4, .ref q5, .null, .null, .null, .null, .null, .null, .null, .null, .int 0, .int 0, .null, .null, .null, .null, .null, .null, .null, .null, .null, .null, .null, .null, .int 0, .long 0, .null, .null, .null, .null, .null, .null, .null, .null, .null, .null, .null, .null, .null, .int 0, .int 0, .null, .long 0, .int 0, .int 0])), (q1, .inl (ct 0, 1000, .inl (fun _ => 0))), (q2, .inl (ct 0, 8, .inl (fun _ => 0))), (q3, .inl (ct 1, 12, .inr (.inl (fun _ => 0)))), (q4, .inl (ct 1, 12, .inr (.inl (fun _ => 0)))), (q5, .inl (ct 0, 12, .inl (fun _ => 0)))] rfl (fun H locs hw hS => ?_)
  refine lv_aload_n hx hb dX12_init_45 rfl (lv_at hl 0 rfl) ?_
  refine lv_bipush (v := 12) hx hb dX12_init_46 (by decide) ?_
  refine znewa (atype := .int) hx hb (hts (.arrayClass .int) (by decide +kernel)) 0 rfl hK hw hS hA 12 (12, .inl (fun _ => 0)) (fun _ => rfl) (by decide) (by decide) (by decide) (Nat.le_of_ble_eq_true rfl) (Nat.le_of_ble_eq_true rfl) dX12_init_48 (fun q6 H hw hS => ?_)
  refine zputF (D := D) (ci := 11) (v := .ref q6) (ty := (.array .int)) hx hb hts hiX12 tyX12 tyX12_ok nmX12 hown hK hw hS 0 rfl rfl 14 (by decide) (hts (.fieldLink RX12 26 "BeardPassModel" "roads" "[I") (by decide +kernel)) (fun _ h9 => h9) rfl hname rfl (by decide +kernel) rfl rfl (Nat.le_of_ble_eq_true rfl) dX12_init_50 [(h0, .inr (11, [.int 0, .int 0, .ref q1, .int 0, .int 0, .int 0, .int 0, .long 0, .int 0, .int 0, .ref q2, .ref q3, .ref q4, .ref q5, .ref q6, .null, .null, .null, .null, .null, .null, .null, .int 0, .int 0, .null, .null, .null, .null, .null, .null, .null, .null, .null, .null, .null, .null, .int 0, .long 0, .null, .null, .null, .null, .null, .null, .null, .null, .null, .null, .null, .null, .null, .int 0, .int 0, .null, .long 0, .int 0, .int 0])), (q1, .inl (ct 0, 1000, .inl (fun _ => 0))), (q2, .inl (ct 0, 8, .inl (fun _ => 0))), (q3, .inl (ct 1, 12, .inr (.inl (fun _ => 0)))), (q4, .inl (ct 1, 12, .inr (.inl (fun _ => 0)))), (q5, .inl (ct 0, 12, .inl (fun _ => 0))), (q6, .inl (ct 0, 12, .inl (fun _ => 0)))] rfl (fun H locs hw hS => ?_)
  refine lv_aload_n hx hb dX12_init_53 rfl (lv_at hl 0 rfl) ?_
  refine lv_bipush (v := 12) hx hb dX12_init_54 (by decide) ?_
  refine znewa (atype := .int) hx hb (hts (.arrayClass .int) (by decide +kernel)) 0 rfl hK hw hS hA 12 (12, .inl (fun _ => 0)) (fun _ => rfl) (by decide) (by decide) (by decide) (Nat.le_of_ble_eq_true rfl) (Nat.le_of_ble_eq_true rfl) dX12_init_56 (fun q7 H hw hS => ?_)
  refine zputF (D := D) (ci := 11) (v := .ref q7) (ty := (.array .int)) hx hb hts hiX12 tyX12 tyX12_ok nmX12 hown hK hw hS 0 rfl rfl 15 (by decide) (hts (.fieldLink RX12 29 "BeardPassModel" "kind" "[I") (by decide +kernel)) (fun _ h9 => h9) rfl hname rfl (by decide +kernel) rfl rfl (Nat.le_of_ble_eq_true rfl) dX12_init_58 [(h0, .inr (11, [.int 0, .int 0, .ref q1, .int 0, .int 0, .int 0, .int 0, .long 0, .int 0, .int 0, .ref q2, .ref q3, .ref q4, .ref q5, .ref q6, .ref q7, .null, .null, .null, .null, .null, .null, .int 0, .int 0, .null, .null, .null, .null, .null, .null, .null, .null, .null, .null, .null, .null, .int 0, .long 0, .null, .null, .null, .null, .null, .null, .null, .null, .null, .null, .null, .null, .null, .int 0, .int 0, .null, .long 0, .int 0, .int 0])), (q1, .inl (ct 0, 1000, .inl (fun _ => 0))), (q2, .inl (ct 0, 8, .inl (fun _ => 0))), (q3, .inl (ct 1, 12, .inr (.inl (fun _ => 0)))), (q4, .inl (ct 1, 12, .inr (.inl (fun _ => 0)))), (q5, .inl (ct 0, 12, .inl (fun _ => 0))), (q6, .inl (ct 0, 12, .inl (fun _ => 0))), (q7, .inl (ct 0, 12, .inl (fun _ => 0)))] rfl (fun H locs hw hS => ?_)
  refine lv_aload_n hx hb dX12_init_61 rfl (lv_at hl 0 rfl) ?_
  refine lv_bipush (v := 12) hx hb dX12_init_62 (by decide) ?_
  refine znewa (atype := .int) hx hb (hts (.arrayClass .int) (by decide +kernel)) 0 rfl hK hw hS hA 12 (12, .inl (fun _ => 0)) (fun _ => rfl) (by decide) (by decide) (by decide) (Nat.le_of_ble_eq_true rfl) (Nat.le_of_ble_eq_true rfl) dX12_init_64 (fun q8 H hw hS => ?_)
  refine zputF (D := D) (ci := 11) (v := .ref q8) (ty := (.array .int)) hx hb hts hiX12 tyX12 tyX12_ok nmX12 hown hK hw hS 0 rfl rfl 16 (by decide) (hts (.fieldLink RX12 32 "BeardPassModel" "atTold" "[I") (by decide +kernel)) (fun _ h9 => h9) rfl hname rfl (by decide +kernel) rfl rfl (Nat.le_of_ble_eq_true rfl) dX12_init_66 [(h0, .inr (11, [.int 0, .int 0, .ref q1, .int 0, .int 0, .int 0, .int 0, .long 0, .int 0, .int 0, .ref q2, .ref q3, .ref q4, .ref q5, .ref q6, .ref q7, .ref q8, .null, .null, .null, .null, .null, .int 0, .int 0, .null, .null, .null, .null, .null, .null, .null, .null, .null, .null, .null, .null, .int 0, .long 0, .null, .null, .null, .null, .null, .null, .null, .null, .null, .null, .null, .null, .null, .int 0, .int 0, .null, .long 0, .int 0, .int 0])), (q1, .inl (ct 0, 1000, .inl (fun _ => 0))), (q2, .inl (ct 0, 8, .inl (fun _ => 0))), (q3, .inl (ct 1, 12, .inr (.inl (fun _ => 0)))), (q4, .inl (ct 1, 12, .inr (.inl (fun _ => 0)))), (q5, .inl (ct 0, 12, .inl (fun _ => 0))), (q6, .inl (ct 0, 12, .inl (fun _ => 0))), (q7, .inl (ct 0, 12, .inl (fun _ => 0))), (q8, .inl (ct 0, 12, .inl (fun _ => 0)))] rfl (fun H locs hw hS => ?_)
  refine lv_aload_n hx hb dX12_init_69 rfl (lv_at hl 0 rfl) ?_
  refine lv_bipush (v := 12) hx hb dX12_init_70 (by decide) ?_
  refine znewa (atype := .int) hx hb (hts (.arrayClass .int) (by decide +kernel)) 0 rfl hK hw hS hA 12 (12, .inl (fun _ => 0)) (fun _ => rfl) (by decide) (by decide) (by decide) (Nat.le_of_ble_eq_true rfl) (Nat.le_of_ble_eq_true rfl) dX12_init_72 (fun q9 H hw hS => ?_)
  refine zputF (D := D) (ci := 11) (v := .ref q9) (ty := (.array .int)) hx hb hts hiX12 tyX12 tyX12_ok nmX12 hown hK hw hS 0 rfl rfl 17 (by decide) (hts (.fieldLink RX12 35 "BeardPassModel" "beardTold" "[I") (by decide +kernel)) (fun _ h9 => h9) rfl hname rfl (by decide +kernel) rfl rfl (Nat.le_of_ble_eq_true rfl) dX12_init_74 [(h0, .inr (11, [.int 0, .int 0, .ref q1, .int 0, .int 0, .int 0, .int 0, .long 0, .int 0, .int 0, .ref q2, .ref q3, .ref q4, .ref q5, .ref q6, .ref q7, .ref q8, .ref q9, .null, .null, .null, .null, .int 0, .int 0, .null, .null, .null, .null, .null, .null, .null, .null, .null, .null, .null, .null, .int 0, .long 0, .null, .null, .null, .null, .null, .null, .null, .null, .null, .null, .null, .null, .null, .int 0, .int 0, .null, .long 0, .int 0, .int 0])), (q1, .inl (ct 0, 1000, .inl (fun _ => 0))), (q2, .inl (ct 0, 8, .inl (fun _ => 0))), (q3, .inl (ct 1, 12, .inr (.inl (fun _ => 0)))), (q4, .inl (ct 1, 12, .inr (.inl (fun _ => 0)))), (q5, .inl (ct 0, 12, .inl (fun _ => 0))), (q6, .inl (ct 0, 12, .inl (fun _ => 0))), (q7, .inl (ct 0, 12, .inl (fun _ => 0))), (q8, .inl (ct 0, 12, .inl (fun _ => 0))), (q9, .inl (ct 0, 12, .inl (fun _ => 0)))] rfl (fun H locs hw hS => ?_)
  refine lv_aload_n hx hb dX12_init_77 rfl (lv_at hl 0 rfl) ?_
  refine lv_bipush (v := 12) hx hb dX12_init_78 (by decide) ?_
  refine znewa (atype := .int) hx hb (hts (.arrayClass .int) (by decide +kernel)) 0 rfl hK hw hS hA 12 (12, .inl (fun _ => 0)) (fun _ => rfl) (by decide) (by decide) (by decide) (Nat.le_of_ble_eq_true rfl) (Nat.le_of_ble_eq_true rfl) dX12_init_80 (fun q10 H hw hS => ?_)
  refine zputF (D := D) (ci := 11) (v := .ref q10) (ty := (.array .int)) hx hb hts hiX12 tyX12 tyX12_ok nmX12 hown hK hw hS 0 rfl rfl 18 (by decide) (hts (.fieldLink RX12 38 "BeardPassModel" "purseTold" "[I") (by decide +kernel)) (fun _ h9 => h9) rfl hname rfl (by decide +kernel) rfl rfl (Nat.le_of_ble_eq_true rfl) dX12_init_82 [(h0, .inr (11, [.int 0, .int 0, .ref q1, .int 0, .int 0, .int 0, .int 0, .long 0, .int 0, .int 0, .ref q2, .ref q3, .ref q4, .ref q5, .ref q6, .ref q7, .ref q8, .ref q9, .ref q10, .null, .null, .null, .int 0, .int 0, .null, .null, .null, .null, .null, .null, .null, .null, .null, .null, .null, .null, .int 0, .long 0, .null, .null, .null, .null, .null, .null, .null, .null, .null, .null, .null, .null, .null, .int 0, .int 0, .null, .long 0, .int 0, .int 0])), (q1, .inl (ct 0, 1000, .inl (fun _ => 0))), (q2, .inl (ct 0, 8, .inl (fun _ => 0))), (q3, .inl (ct 1, 12, .inr (.inl (fun _ => 0)))), (q4, .inl (ct 1, 12, .inr (.inl (fun _ => 0)))), (q5, .inl (ct 0, 12, .inl (fun _ => 0))), (q6, .inl (ct 0, 12, .inl (fun _ => 0))), (q7, .inl (ct 0, 12, .inl (fun _ => 0))), (q8, .inl (ct 0, 12, .inl (fun _ => 0))), (q9, .inl (ct 0, 12, .inl (fun _ => 0))), (q10, .inl (ct 0, 12, .inl (fun _ => 0)))] rfl (fun H locs hw hS => ?_)
  refine lv_aload_n hx hb dX12_init_85 rfl (lv_at hl 0 rfl) ?_
  refine lv_iconst (v := 2) hx hb dX12_init_86 (by decide) ?_
  refine znewa (atype := .int) hx hb (hts (.arrayClass .int) (by decide +kernel)) 0 rfl hK hw hS hA 2 (2, .inl (fun _ => 0)) (fun _ => rfl) (by decide) (by decide) (by decide) (Nat.le_of_ble_eq_true rfl) (Nat.le_of_ble_eq_true rfl) dX12_init_87 (fun q11 H hw hS => ?_)
  refine zputF (D := D) (ci := 11) (v := .ref q11) (ty := (.array .int)) hx hb hts hiX12 tyX12 tyX12_ok nmX12 hown hK hw hS 0 rfl rfl 19 (by decide) (hts (.fieldLink RX12 41 "BeardPassModel" "lineFrom" "[I") (by decide +kernel)) (fun _ h9 => h9) rfl hname rfl (by decide +kernel) rfl rfl (Nat.le_of_ble_eq_true rfl) dX12_init_89 [(h0, .inr (11, [.int 0, .int 0, .ref q1, .int 0, .int 0, .int 0, .int 0, .long 0, .int 0, .int 0, .ref q2, .ref q3, .ref q4, .ref q5, .ref q6, .ref q7, .ref q8, .ref q9, .ref q10, .ref q11, .null, .null, .int 0, .int 0, .null, .null, .null, .null, .null, .null, .null, .null, .null, .null, .null, .null, .int 0, .long 0, .null, .null, .null, .null, .null, .null, .null, .null, .null, .null, .null, .null, .null, .int 0, .int 0, .null, .long 0, .int 0, .int 0])), (q1, .inl (ct 0, 1000, .inl (fun _ => 0))), (q2, .inl (ct 0, 8, .inl (fun _ => 0))), (q3, .inl (ct 1, 12, .inr (.inl (fun _ => 0)))), (q4, .inl (ct 1, 12, .inr (.inl (fun _ => 0)))), (q5, .inl (ct 0, 12, .inl (fun _ => 0))), (q6, .inl (ct 0, 12, .inl (fun _ => 0))), (q7, .inl (ct 0, 12, .inl (fun _ => 0))), (q8, .inl (ct 0, 12, .inl (fun _ => 0))), (q9, .inl (ct 0, 12, .inl (fun _ => 0))), (q10, .inl (ct 0, 12, .inl (fun _ => 0))), (q11, .inl (ct 0, 2, .inl (fun _ => 0)))] rfl (fun H locs hw hS => ?_)
  refine lv_aload_n hx hb dX12_init_92 rfl (lv_at hl 0 rfl) ?_
  refine lv_iconst (v := 2) hx hb dX12_init_93 (by decide) ?_
  refine znewa (atype := .int) hx hb (hts (.arrayClass .int) (by decide +kernel)) 0 rfl hK hw hS hA 2 (2, .inl (fun _ => 0)) (fun _ => rfl) (by decide) (by decide) (by decide) (Nat.le_of_ble_eq_true rfl) (Nat.le_of_ble_eq_true rfl) dX12_init_94 (fun q12 H hw hS => ?_)
  refine zputF (D := D) (ci := 11) (v := .ref q12) (ty := (.array .int)) hx hb hts hiX12 tyX12 tyX12_ok nmX12 hown hK hw hS 0 rfl rfl 20 (by decide) (hts (.fieldLink RX12 44 "BeardPassModel" "lineTo" "[I") (by decide +kernel)) (fun _ h9 => h9) rfl hname rfl (by decide +kernel) rfl rfl (Nat.le_of_ble_eq_true rfl) dX12_init_96 [(h0, .inr (11, [.int 0, .int 0, .ref q1, .int 0, .int 0, .int 0, .int 0, .long 0, .int 0, .int 0, .ref q2, .ref q3, .ref q4, .ref q5, .ref q6, .ref q7, .ref q8, .ref q9, .ref q10, .ref q11, .ref q12, .null, .int 0, .int 0, .null, .null, .null, .null, .null, .null, .null, .null, .null, .null, .null, .null, .int 0, .long 0, .null, .null, .null, .null, .null, .null, .null, .null, .null, .null, .null, .null, .null, .int 0, .int 0, .null, .long 0, .int 0, .int 0])), (q1, .inl (ct 0, 1000, .inl (fun _ => 0))), (q2, .inl (ct 0, 8, .inl (fun _ => 0))), (q3, .inl (ct 1, 12, .inr (.inl (fun _ => 0)))), (q4, .inl (ct 1, 12, .inr (.inl (fun _ => 0)))), (q5, .inl (ct 0, 12, .inl (fun _ => 0))), (q6, .inl (ct 0, 12, .inl (fun _ => 0))), (q7, .inl (ct 0, 12, .inl (fun _ => 0))), (q8, .inl (ct 0, 12, .inl (fun _ => 0))), (q9, .inl (ct 0, 12, .inl (fun _ => 0))), (q10, .inl (ct 0, 12, .inl (fun _ => 0))), (q11, .inl (ct 0, 2, .inl (fun _ => 0))), (q12, .inl (ct 0, 2, .inl (fun _ => 0)))] rfl (fun H locs hw hS => ?_)
  refine lv_aload_n hx hb dX12_init_99 rfl (lv_at hl 0 rfl) ?_
  refine lv_sipush (v := 2000) hx hb dX12_init_100 (by decide) ?_
  refine znewa (atype := .int) hx hb (hts (.arrayClass .int) (by decide +kernel)) 0 rfl hK hw hS hA 2000 (2000, .inl (fun _ => 0)) (fun _ => rfl) (by decide) (by decide) (by decide) (Nat.le_of_ble_eq_true rfl) (Nat.le_of_ble_eq_true rfl) dX12_init_103 (fun q13 H hw hS => ?_)
  refine zputF (D := D) (ci := 11) (v := .ref q13) (ty := (.array .int)) hx hb hts hiX12 tyX12 tyX12_ok nmX12 hown hK hw hS 0 rfl rfl 21 (by decide) (hts (.fieldLink RX12 47 "BeardPassModel" "codes" "[I") (by decide +kernel)) (fun _ h9 => h9) rfl hname rfl (by decide +kernel) rfl rfl (Nat.le_of_ble_eq_true rfl) dX12_init_105 [(h0, .inr (11, [.int 0, .int 0, .ref q1, .int 0, .int 0, .int 0, .int 0, .long 0, .int 0, .int 0, .ref q2, .ref q3, .ref q4, .ref q5, .ref q6, .ref q7, .ref q8, .ref q9, .ref q10, .ref q11, .ref q12, .ref q13, .int 0, .int 0, .null, .null, .null, .null, .null, .null, .null, .null, .null, .null, .null, .null, .int 0, .long 0, .null, .null, .null, .null, .null, .null, .null, .null, .null, .null, .null, .null, .null, .int 0, .int 0, .null, .long 0, .int 0, .int 0])), (q1, .inl (ct 0, 1000, .inl (fun _ => 0))), (q2, .inl (ct 0, 8, .inl (fun _ => 0))), (q3, .inl (ct 1, 12, .inr (.inl (fun _ => 0)))), (q4, .inl (ct 1, 12, .inr (.inl (fun _ => 0)))), (q5, .inl (ct 0, 12, .inl (fun _ => 0))), (q6, .inl (ct 0, 12, .inl (fun _ => 0))), (q7, .inl (ct 0, 12, .inl (fun _ => 0))), (q8, .inl (ct 0, 12, .inl (fun _ => 0))), (q9, .inl (ct 0, 12, .inl (fun _ => 0))), (q10, .inl (ct 0, 12, .inl (fun _ => 0))), (q11, .inl (ct 0, 2, .inl (fun _ => 0))), (q12, .inl (ct 0, 2, .inl (fun _ => 0))), (q13, .inl (ct 0, 2000, .inl (fun _ => 0)))] rfl (fun H locs hw hS => ?_)
  refine lv_aload_n hx hb dX12_init_108 rfl (lv_at hl 0 rfl) ?_
  refine lv_bipush (v := 7) hx hb dX12_init_109 (by decide) ?_
  refine znewa (atype := .int) hx hb (hts (.arrayClass .int) (by decide +kernel)) 0 rfl hK hw hS hA 7 (7, .inl (fun _ => 0)) (fun _ => rfl) (by decide) (by decide) (by decide) (Nat.le_of_ble_eq_true rfl) (Nat.le_of_ble_eq_true rfl) dX12_init_111 (fun q14 H hw hS => ?_)
  refine zputF (D := D) (ci := 11) (v := .ref q14) (ty := (.array .int)) hx hb hts hiX12 tyX12 tyX12_ok nmX12 hown hK hw hS 0 rfl rfl 24 (by decide) (hts (.fieldLink RX12 50 "BeardPassModel" "opened" "[I") (by decide +kernel)) (fun _ h9 => h9) rfl hname rfl (by decide +kernel) rfl rfl (Nat.le_of_ble_eq_true rfl) dX12_init_113 [(h0, .inr (11, [.int 0, .int 0, .ref q1, .int 0, .int 0, .int 0, .int 0, .long 0, .int 0, .int 0, .ref q2, .ref q3, .ref q4, .ref q5, .ref q6, .ref q7, .ref q8, .ref q9, .ref q10, .ref q11, .ref q12, .ref q13, .int 0, .int 0, .ref q14, .null, .null, .null, .null, .null, .null, .null, .null, .null, .null, .null, .int 0, .long 0, .null, .null, .null, .null, .null, .null, .null, .null, .null, .null, .null, .null, .null, .int 0, .int 0, .null, .long 0, .int 0, .int 0])), (q1, .inl (ct 0, 1000, .inl (fun _ => 0))), (q2, .inl (ct 0, 8, .inl (fun _ => 0))), (q3, .inl (ct 1, 12, .inr (.inl (fun _ => 0)))), (q4, .inl (ct 1, 12, .inr (.inl (fun _ => 0)))), (q5, .inl (ct 0, 12, .inl (fun _ => 0))), (q6, .inl (ct 0, 12, .inl (fun _ => 0))), (q7, .inl (ct 0, 12, .inl (fun _ => 0))), (q8, .inl (ct 0, 12, .inl (fun _ => 0))), (q9, .inl (ct 0, 12, .inl (fun _ => 0))), (q10, .inl (ct 0, 12, .inl (fun _ => 0))), (q11, .inl (ct 0, 2, .inl (fun _ => 0))), (q12, .inl (ct 0, 2, .inl (fun _ => 0))), (q13, .inl (ct 0, 2000, .inl (fun _ => 0))), (q14, .inl (ct 0, 7, .inl (fun _ => 0)))] rfl (fun H locs hw hS => ?_)
  refine lv_aload_n hx hb dX12_init_116 rfl (lv_at hl 0 rfl) ?_
  refine lv_bipush (v := 7) hx hb dX12_init_117 (by decide) ?_
  refine znewa (atype := .boolean) hx hb (hts (.arrayClass .boolean) (by decide +kernel)) 3 rfl hK hw hS hA 7 (7, .inl (fun _ => 0)) (fun _ => rfl) (by decide) (by decide) (by decide) (Nat.le_of_ble_eq_true rfl) (Nat.le_of_ble_eq_true rfl) dX12_init_119 (fun q15 H hw hS => ?_)
  refine zputF (D := D) (ci := 11) (v := .ref q15) (ty := (.array .boolean)) hx hb hts hiX12 tyX12 tyX12_ok nmX12 hown hK hw hS 0 rfl rfl 25 (by decide) (hts (.fieldLink RX12 53 "BeardPassModel" "compared" "[Z") (by decide +kernel)) (fun _ h9 => h9) rfl hname rfl (by decide +kernel) rfl rfl (Nat.le_of_ble_eq_true rfl) dX12_init_121 [(h0, .inr (11, [.int 0, .int 0, .ref q1, .int 0, .int 0, .int 0, .int 0, .long 0, .int 0, .int 0, .ref q2, .ref q3, .ref q4, .ref q5, .ref q6, .ref q7, .ref q8, .ref q9, .ref q10, .ref q11, .ref q12, .ref q13, .int 0, .int 0, .ref q14, .ref q15, .null, .null, .null, .null, .null, .null, .null, .null, .null, .null, .int 0, .long 0, .null, .null, .null, .null, .null, .null, .null, .null, .null, .null, .null, .null, .null, .int 0, .int 0, .null, .long 0, .int 0, .int 0])), (q1, .inl (ct 0, 1000, .inl (fun _ => 0))), (q2, .inl (ct 0, 8, .inl (fun _ => 0))), (q3, .inl (ct 1, 12, .inr (.inl (fun _ => 0)))), (q4, .inl (ct 1, 12, .inr (.inl (fun _ => 0)))), (q5, .inl (ct 0, 12, .inl (fun _ => 0))), (q6, .inl (ct 0, 12, .inl (fun _ => 0))), (q7, .inl (ct 0, 12, .inl (fun _ => 0))), (q8, .inl (ct 0, 12, .inl (fun _ => 0))), (q9, .inl (ct 0, 12, .inl (fun _ => 0))), (q10, .inl (ct 0, 12, .inl (fun _ => 0))), (q11, .inl (ct 0, 2, .inl (fun _ => 0))), (q12, .inl (ct 0, 2, .inl (fun _ => 0))), (q13, .inl (ct 0, 2000, .inl (fun _ => 0))), (q14, .inl (ct 0, 7, .inl (fun _ => 0))), (q15, .inl (ct 3, 7, .inl (fun _ => 0)))] rfl (fun H locs hw hS => ?_)
  refine lv_aload_n hx hb dX12_init_124 rfl (lv_at hl 0 rfl) ?_
  refine lv_bipush (v := 7) hx hb dX12_init_125 (by decide) ?_
  refine znewa (atype := .int) hx hb (hts (.arrayClass .int) (by decide +kernel)) 0 rfl hK hw hS hA 7 (7, .inl (fun _ => 0)) (fun _ => rfl) (by decide) (by decide) (by decide) (Nat.le_of_ble_eq_true rfl) (Nat.le_of_ble_eq_true rfl) dX12_init_127 (fun q16 H hw hS => ?_)
  refine zputF (D := D) (ci := 11) (v := .ref q16) (ty := (.array .int)) hx hb hts hiX12 tyX12 tyX12_ok nmX12 hown hK hw hS 0 rfl rfl 26 (by decide) (hts (.fieldLink RX12 57 "BeardPassModel" "kept" "[I") (by decide +kernel)) (fun _ h9 => h9) rfl hname rfl (by decide +kernel) rfl rfl (Nat.le_of_ble_eq_true rfl) dX12_init_129 [(h0, .inr (11, [.int 0, .int 0, .ref q1, .int 0, .int 0, .int 0, .int 0, .long 0, .int 0, .int 0, .ref q2, .ref q3, .ref q4, .ref q5, .ref q6, .ref q7, .ref q8, .ref q9, .ref q10, .ref q11, .ref q12, .ref q13, .int 0, .int 0, .ref q14, .ref q15, .ref q16, .null, .null, .null, .null, .null, .null, .null, .null, .null, .int 0, .long 0, .null, .null, .null, .null, .null, .null, .null, .null, .null, .null, .null, .null, .null, .int 0, .int 0, .null, .long 0, .int 0, .int 0])), (q1, .inl (ct 0, 1000, .inl (fun _ => 0))), (q2, .inl (ct 0, 8, .inl (fun _ => 0))), (q3, .inl (ct 1, 12, .inr (.inl (fun _ => 0)))), (q4, .inl (ct 1, 12, .inr (.inl (fun _ => 0)))), (q5, .inl (ct 0, 12, .inl (fun _ => 0))), (q6, .inl (ct 0, 12, .inl (fun _ => 0))), (q7, .inl (ct 0, 12, .inl (fun _ => 0))), (q8, .inl (ct 0, 12, .inl (fun _ => 0))), (q9, .inl (ct 0, 12, .inl (fun _ => 0))), (q10, .inl (ct 0, 12, .inl (fun _ => 0))), (q11, .inl (ct 0, 2, .inl (fun _ => 0))), (q12, .inl (ct 0, 2, .inl (fun _ => 0))), (q13, .inl (ct 0, 2000, .inl (fun _ => 0))), (q14, .inl (ct 0, 7, .inl (fun _ => 0))), (q15, .inl (ct 3, 7, .inl (fun _ => 0))), (q16, .inl (ct 0, 7, .inl (fun _ => 0)))] rfl (fun H locs hw hS => ?_)
  refine lv_aload_n hx hb dX12_init_132 rfl (lv_at hl 0 rfl) ?_
  refine lv_bipush (v := 7) hx hb dX12_init_133 (by decide) ?_
  refine znewa (atype := .int) hx hb (hts (.arrayClass .int) (by decide +kernel)) 0 rfl hK hw hS hA 7 (7, .inl (fun _ => 0)) (fun _ => rfl) (by decide) (by decide) (by decide) (Nat.le_of_ble_eq_true rfl) (Nat.le_of_ble_eq_true rfl) dX12_init_135 (fun q17 H hw hS => ?_)
  refine zputF (D := D) (ci := 11) (v := .ref q17) (ty := (.array .int)) hx hb hts hiX12 tyX12 tyX12_ok nmX12 hown hK hw hS 0 rfl rfl 27 (by decide) (hts (.fieldLink RX12 60 "BeardPassModel" "keptBy" "[I") (by decide +kernel)) (fun _ h9 => h9) rfl hname rfl (by decide +kernel) rfl rfl (Nat.le_of_ble_eq_true rfl) dX12_init_137 [(h0, .inr (11, [.int 0, .int 0, .ref q1, .int 0, .int 0, .int 0, .int 0, .long 0, .int 0, .int 0, .ref q2, .ref q3, .ref q4, .ref q5, .ref q6, .ref q7, .ref q8, .ref q9, .ref q10, .ref q11, .ref q12, .ref q13, .int 0, .int 0, .ref q14, .ref q15, .ref q16, .ref q17, .null, .null, .null, .null, .null, .null, .null, .null, .int 0, .long 0, .null, .null, .null, .null, .null, .null, .null, .null, .null, .null, .null, .null, .null, .int 0, .int 0, .null, .long 0, .int 0, .int 0])), (q1, .inl (ct 0, 1000, .inl (fun _ => 0))), (q2, .inl (ct 0, 8, .inl (fun _ => 0))), (q3, .inl (ct 1, 12, .inr (.inl (fun _ => 0)))), (q4, .inl (ct 1, 12, .inr (.inl (fun _ => 0)))), (q5, .inl (ct 0, 12, .inl (fun _ => 0))), (q6, .inl (ct 0, 12, .inl (fun _ => 0))), (q7, .inl (ct 0, 12, .inl (fun _ => 0))), (q8, .inl (ct 0, 12, .inl (fun _ => 0))), (q9, .inl (ct 0, 12, .inl (fun _ => 0))), (q10, .inl (ct 0, 12, .inl (fun _ => 0))), (q11, .inl (ct 0, 2, .inl (fun _ => 0))), (q12, .inl (ct 0, 2, .inl (fun _ => 0))), (q13, .inl (ct 0, 2000, .inl (fun _ => 0))), (q14, .inl (ct 0, 7, .inl (fun _ => 0))), (q15, .inl (ct 3, 7, .inl (fun _ => 0))), (q16, .inl (ct 0, 7, .inl (fun _ => 0))), (q17, .inl (ct 0, 7, .inl (fun _ => 0)))] rfl (fun H locs hw hS => ?_)
  refine lv_aload_n hx hb dX12_init_140 rfl (lv_at hl 0 rfl) ?_
  refine lv_bipush (v := 7) hx hb dX12_init_141 (by decide) ?_
  refine znewa (atype := .int) hx hb (hts (.arrayClass .int) (by decide +kernel)) 0 rfl hK hw hS hA 7 (7, .inl (fun _ => 0)) (fun _ => rfl) (by decide) (by decide) (by decide) (Nat.le_of_ble_eq_true rfl) (Nat.le_of_ble_eq_true rfl) dX12_init_143 (fun q18 H hw hS => ?_)
  refine zputF (D := D) (ci := 11) (v := .ref q18) (ty := (.array .int)) hx hb hts hiX12 tyX12 tyX12_ok nmX12 hown hK hw hS 0 rfl rfl 28 (by decide) (hts (.fieldLink RX12 63 "BeardPassModel" "ahead" "[I") (by decide +kernel)) (fun _ h9 => h9) rfl hname rfl (by decide +kernel) rfl rfl (Nat.le_of_ble_eq_true rfl) dX12_init_145 [(h0, .inr (11, [.int 0, .int 0, .ref q1, .int 0, .int 0, .int 0, .int 0, .long 0, .int 0, .int 0, .ref q2, .ref q3, .ref q4, .ref q5, .ref q6, .ref q7, .ref q8, .ref q9, .ref q10, .ref q11, .ref q12, .ref q13, .int 0, .int 0, .ref q14, .ref q15, .ref q16, .ref q17, .ref q18, .null, .null, .null, .null, .null, .null, .null, .int 0, .long 0, .null, .null, .null, .null, .null, .null, .null, .null, .null, .null, .null, .null, .null, .int 0, .int 0, .null, .long 0, .int 0, .int 0])), (q1, .inl (ct 0, 1000, .inl (fun _ => 0))), (q2, .inl (ct 0, 8, .inl (fun _ => 0))), (q3, .inl (ct 1, 12, .inr (.inl (fun _ => 0)))), (q4, .inl (ct 1, 12, .inr (.inl (fun _ => 0)))), (q5, .inl (ct 0, 12, .inl (fun _ => 0))), (q6, .inl (ct 0, 12, .inl (fun _ => 0))), (q7, .inl (ct 0, 12, .inl (fun _ => 0))), (q8, .inl (ct 0, 12, .inl (fun _ => 0))), (q9, .inl (ct 0, 12, .inl (fun _ => 0))), (q10, .inl (ct 0, 12, .inl (fun _ => 0))), (q11, .inl (ct 0, 2, .inl (fun _ => 0))), (q12, .inl (ct 0, 2, .inl (fun _ => 0))), (q13, .inl (ct 0, 2000, .inl (fun _ => 0))), (q14, .inl (ct 0, 7, .inl (fun _ => 0))), (q15, .inl (ct 3, 7, .inl (fun _ => 0))), (q16, .inl (ct 0, 7, .inl (fun _ => 0))), (q17, .inl (ct 0, 7, .inl (fun _ => 0))), (q18, .inl (ct 0, 7, .inl (fun _ => 0)))] rfl (fun H locs hw hS => ?_)
  refine lv_aload_n hx hb dX12_init_148 rfl (lv_at hl 0 rfl) ?_
  refine lv_bipush (v := 7) hx hb dX12_init_149 (by decide) ?_
  refine znewa (atype := .int) hx hb (hts (.arrayClass .int) (by decide +kernel)) 0 rfl hK hw hS hA 7 (7, .inl (fun _ => 0)) (fun _ => rfl) (by decide) (by decide) (by decide) (Nat.le_of_ble_eq_true rfl) (Nat.le_of_ble_eq_true rfl) dX12_init_151 (fun q19 H hw hS => ?_)
  refine zputF (D := D) (ci := 11) (v := .ref q19) (ty := (.array .int)) hx hb hts hiX12 tyX12 tyX12_ok nmX12 hown hK hw hS 0 rfl rfl 29 (by decide) (hts (.fieldLink RX12 66 "BeardPassModel" "against" "[I") (by decide +kernel)) (fun _ h9 => h9) rfl hname rfl (by decide +kernel) rfl rfl (Nat.le_of_ble_eq_true rfl) dX12_init_153 [(h0, .inr (11, [.int 0, .int 0, .ref q1, .int 0, .int 0, .int 0, .int 0, .long 0, .int 0, .int 0, .ref q2, .ref q3, .ref q4, .ref q5, .ref q6, .ref q7, .ref q8, .ref q9, .ref q10, .ref q11, .ref q12, .ref q13, .int 0, .int 0, .ref q14, .ref q15, .ref q16, .ref q17, .ref q18, .ref q19, .null, .null, .null, .null, .null, .null, .int 0, .long 0, .null, .null, .null, .null, .null, .null, .null, .null, .null, .null, .null, .null, .null, .int 0, .int 0, .null, .long 0, .int 0, .int 0])), (q1, .inl (ct 0, 1000, .inl (fun _ => 0))), (q2, .inl (ct 0, 8, .inl (fun _ => 0))), (q3, .inl (ct 1, 12, .inr (.inl (fun _ => 0)))), (q4, .inl (ct 1, 12, .inr (.inl (fun _ => 0)))), (q5, .inl (ct 0, 12, .inl (fun _ => 0))), (q6, .inl (ct 0, 12, .inl (fun _ => 0))), (q7, .inl (ct 0, 12, .inl (fun _ => 0))), (q8, .inl (ct 0, 12, .inl (fun _ => 0))), (q9, .inl (ct 0, 12, .inl (fun _ => 0))), (q10, .inl (ct 0, 12, .inl (fun _ => 0))), (q11, .inl (ct 0, 2, .inl (fun _ => 0))), (q12, .inl (ct 0, 2, .inl (fun _ => 0))), (q13, .inl (ct 0, 2000, .inl (fun _ => 0))), (q14, .inl (ct 0, 7, .inl (fun _ => 0))), (q15, .inl (ct 3, 7, .inl (fun _ => 0))), (q16, .inl (ct 0, 7, .inl (fun _ => 0))), (q17, .inl (ct 0, 7, .inl (fun _ => 0))), (q18, .inl (ct 0, 7, .inl (fun _ => 0))), (q19, .inl (ct 0, 7, .inl (fun _ => 0)))] rfl (fun H locs hw hS => ?_)
  refine lv_aload_n hx hb dX12_init_156 rfl (lv_at hl 0 rfl) ?_
  refine lv_bipush (v := 7) hx hb dX12_init_157 (by decide) ?_
  refine znewa (atype := .int) hx hb (hts (.arrayClass .int) (by decide +kernel)) 0 rfl hK hw hS hA 7 (7, .inl (fun _ => 0)) (fun _ => rfl) (by decide) (by decide) (by decide) (Nat.le_of_ble_eq_true rfl) (Nat.le_of_ble_eq_true rfl) dX12_init_159 (fun q20 H hw hS => ?_)
  refine zputF (D := D) (ci := 11) (v := .ref q20) (ty := (.array .int)) hx hb hts hiX12 tyX12 tyX12_ok nmX12 hown hK hw hS 0 rfl rfl 30 (by decide) (hts (.fieldLink RX12 69 "BeardPassModel" "sum" "[I") (by decide +kernel)) (fun _ h9 => h9) rfl hname rfl (by decide +kernel) rfl rfl (Nat.le_of_ble_eq_true rfl) dX12_init_161 [(h0, .inr (11, [.int 0, .int 0, .ref q1, .int 0, .int 0, .int 0, .int 0, .long 0, .int 0, .int 0, .ref q2, .ref q3, .ref q4, .ref q5, .ref q6, .ref q7, .ref q8, .ref q9, .ref q10, .ref q11, .ref q12, .ref q13, .int 0, .int 0, .ref q14, .ref q15, .ref q16, .ref q17, .ref q18, .ref q19, .ref q20, .null, .null, .null, .null, .null, .int 0, .long 0, .null, .null, .null, .null, .null, .null, .null, .null, .null, .null, .null, .null, .null, .int 0, .int 0, .null, .long 0, .int 0, .int 0])), (q1, .inl (ct 0, 1000, .inl (fun _ => 0))), (q2, .inl (ct 0, 8, .inl (fun _ => 0))), (q3, .inl (ct 1, 12, .inr (.inl (fun _ => 0)))), (q4, .inl (ct 1, 12, .inr (.inl (fun _ => 0)))), (q5, .inl (ct 0, 12, .inl (fun _ => 0))), (q6, .inl (ct 0, 12, .inl (fun _ => 0))), (q7, .inl (ct 0, 12, .inl (fun _ => 0))), (q8, .inl (ct 0, 12, .inl (fun _ => 0))), (q9, .inl (ct 0, 12, .inl (fun _ => 0))), (q10, .inl (ct 0, 12, .inl (fun _ => 0))), (q11, .inl (ct 0, 2, .inl (fun _ => 0))), (q12, .inl (ct 0, 2, .inl (fun _ => 0))), (q13, .inl (ct 0, 2000, .inl (fun _ => 0))), (q14, .inl (ct 0, 7, .inl (fun _ => 0))), (q15, .inl (ct 3, 7, .inl (fun _ => 0))), (q16, .inl (ct 0, 7, .inl (fun _ => 0))), (q17, .inl (ct 0, 7, .inl (fun _ => 0))), (q18, .inl (ct 0, 7, .inl (fun _ => 0))), (q19, .inl (ct 0, 7, .inl (fun _ => 0))), (q20, .inl (ct 0, 7, .inl (fun _ => 0)))] rfl (fun H locs hw hS => ?_)
  refine lv_aload_n hx hb dX12_init_164 rfl (lv_at hl 0 rfl) ?_
  refine lv_bipush (v := 7) hx hb dX12_init_165 (by decide) ?_
  refine znewa (atype := .int) hx hb (hts (.arrayClass .int) (by decide +kernel)) 0 rfl hK hw hS hA 7 (7, .inl (fun _ => 0)) (fun _ => rfl) (by decide) (by decide) (by decide) (Nat.le_of_ble_eq_true rfl) (Nat.le_of_ble_eq_true rfl) dX12_init_167 (fun q21 H hw hS => ?_)
  refine zputF (D := D) (ci := 11) (v := .ref q21) (ty := (.array .int)) hx hb hts hiX12 tyX12 tyX12_ok nmX12 hown hK hw hS 0 rfl rfl 31 (by decide) (hts (.fieldLink RX12 72 "BeardPassModel" "sumBy" "[I") (by decide +kernel)) (fun _ h9 => h9) rfl hname rfl (by decide +kernel) rfl rfl (Nat.le_of_ble_eq_true rfl) dX12_init_169 [(h0, .inr (11, [.int 0, .int 0, .ref q1, .int 0, .int 0, .int 0, .int 0, .long 0, .int 0, .int 0, .ref q2, .ref q3, .ref q4, .ref q5, .ref q6, .ref q7, .ref q8, .ref q9, .ref q10, .ref q11, .ref q12, .ref q13, .int 0, .int 0, .ref q14, .ref q15, .ref q16, .ref q17, .ref q18, .ref q19, .ref q20, .ref q21, .null, .null, .null, .null, .int 0, .long 0, .null, .null, .null, .null, .null, .null, .null, .null, .null, .null, .null, .null, .null, .int 0, .int 0, .null, .long 0, .int 0, .int 0])), (q1, .inl (ct 0, 1000, .inl (fun _ => 0))), (q2, .inl (ct 0, 8, .inl (fun _ => 0))), (q3, .inl (ct 1, 12, .inr (.inl (fun _ => 0)))), (q4, .inl (ct 1, 12, .inr (.inl (fun _ => 0)))), (q5, .inl (ct 0, 12, .inl (fun _ => 0))), (q6, .inl (ct 0, 12, .inl (fun _ => 0))), (q7, .inl (ct 0, 12, .inl (fun _ => 0))), (q8, .inl (ct 0, 12, .inl (fun _ => 0))), (q9, .inl (ct 0, 12, .inl (fun _ => 0))), (q10, .inl (ct 0, 12, .inl (fun _ => 0))), (q11, .inl (ct 0, 2, .inl (fun _ => 0))), (q12, .inl (ct 0, 2, .inl (fun _ => 0))), (q13, .inl (ct 0, 2000, .inl (fun _ => 0))), (q14, .inl (ct 0, 7, .inl (fun _ => 0))), (q15, .inl (ct 3, 7, .inl (fun _ => 0))), (q16, .inl (ct 0, 7, .inl (fun _ => 0))), (q17, .inl (ct 0, 7, .inl (fun _ => 0))), (q18, .inl (ct 0, 7, .inl (fun _ => 0))), (q19, .inl (ct 0, 7, .inl (fun _ => 0))), (q20, .inl (ct 0, 7, .inl (fun _ => 0))), (q21, .inl (ct 0, 7, .inl (fun _ => 0)))] rfl (fun H locs hw hS => ?_)
  refine lv_aload_n hx hb dX12_init_172 rfl (lv_at hl 0 rfl) ?_
  refine lv_bipush (v := 7) hx hb dX12_init_173 (by decide) ?_
  refine znewa (atype := .int) hx hb (hts (.arrayClass .int) (by decide +kernel)) 0 rfl hK hw hS hA 7 (7, .inl (fun _ => 0)) (fun _ => rfl) (by decide) (by decide) (by decide) (Nat.le_of_ble_eq_true rfl) (Nat.le_of_ble_eq_true rfl) dX12_init_175 (fun q22 H hw hS => ?_)
  refine zputF (D := D) (ci := 11) (v := .ref q22) (ty := (.array .int)) hx hb hts hiX12 tyX12 tyX12_ok nmX12 hown hK hw hS 0 rfl rfl 32 (by decide) (hts (.fieldLink RX12 75 "BeardPassModel" "term" "[I") (by decide +kernel)) (fun _ h9 => h9) rfl hname rfl (by decide +kernel) rfl rfl (Nat.le_of_ble_eq_true rfl) dX12_init_177 [(h0, .inr (11, [.int 0, .int 0, .ref q1, .int 0, .int 0, .int 0, .int 0, .long 0, .int 0, .int 0, .ref q2, .ref q3, .ref q4, .ref q5, .ref q6, .ref q7, .ref q8, .ref q9, .ref q10, .ref q11, .ref q12, .ref q13, .int 0, .int 0, .ref q14, .ref q15, .ref q16, .ref q17, .ref q18, .ref q19, .ref q20, .ref q21, .ref q22, .null, .null, .null, .int 0, .long 0, .null, .null, .null, .null, .null, .null, .null, .null, .null, .null, .null, .null, .null, .int 0, .int 0, .null, .long 0, .int 0, .int 0])), (q1, .inl (ct 0, 1000, .inl (fun _ => 0))), (q2, .inl (ct 0, 8, .inl (fun _ => 0))), (q3, .inl (ct 1, 12, .inr (.inl (fun _ => 0)))), (q4, .inl (ct 1, 12, .inr (.inl (fun _ => 0)))), (q5, .inl (ct 0, 12, .inl (fun _ => 0))), (q6, .inl (ct 0, 12, .inl (fun _ => 0))), (q7, .inl (ct 0, 12, .inl (fun _ => 0))), (q8, .inl (ct 0, 12, .inl (fun _ => 0))), (q9, .inl (ct 0, 12, .inl (fun _ => 0))), (q10, .inl (ct 0, 12, .inl (fun _ => 0))), (q11, .inl (ct 0, 2, .inl (fun _ => 0))), (q12, .inl (ct 0, 2, .inl (fun _ => 0))), (q13, .inl (ct 0, 2000, .inl (fun _ => 0))), (q14, .inl (ct 0, 7, .inl (fun _ => 0))), (q15, .inl (ct 3, 7, .inl (fun _ => 0))), (q16, .inl (ct 0, 7, .inl (fun _ => 0))), (q17, .inl (ct 0, 7, .inl (fun _ => 0))), (q18, .inl (ct 0, 7, .inl (fun _ => 0))), (q19, .inl (ct 0, 7, .inl (fun _ => 0))), (q20, .inl (ct 0, 7, .inl (fun _ => 0))), (q21, .inl (ct 0, 7, .inl (fun _ => 0))), (q22, .inl (ct 0, 7, .inl (fun _ => 0)))] rfl (fun H locs hw hS => ?_)
  refine lv_aload_n hx hb dX12_init_180 rfl (lv_at hl 0 rfl) ?_
  refine lv_bipush (v := 7) hx hb dX12_init_181 (by decide) ?_
  refine znewa (atype := .int) hx hb (hts (.arrayClass .int) (by decide +kernel)) 0 rfl hK hw hS hA 7 (7, .inl (fun _ => 0)) (fun _ => rfl) (by decide) (by decide) (by decide) (Nat.le_of_ble_eq_true rfl) (Nat.le_of_ble_eq_true rfl) dX12_init_183 (fun q23 H hw hS => ?_)
  refine zputF (D := D) (ci := 11) (v := .ref q23) (ty := (.array .int)) hx hb hts hiX12 tyX12 tyX12_ok nmX12 hown hK hw hS 0 rfl rfl 33 (by decide) (hts (.fieldLink RX12 78 "BeardPassModel" "termBy" "[I") (by decide +kernel)) (fun _ h9 => h9) rfl hname rfl (by decide +kernel) rfl rfl (Nat.le_of_ble_eq_true rfl) dX12_init_185 [(h0, .inr (11, [.int 0, .int 0, .ref q1, .int 0, .int 0, .int 0, .int 0, .long 0, .int 0, .int 0, .ref q2, .ref q3, .ref q4, .ref q5, .ref q6, .ref q7, .ref q8, .ref q9, .ref q10, .ref q11, .ref q12, .ref q13, .int 0, .int 0, .ref q14, .ref q15, .ref q16, .ref q17, .ref q18, .ref q19, .ref q20, .ref q21, .ref q22, .ref q23, .null, .null, .int 0, .long 0, .null, .null, .null, .null, .null, .null, .null, .null, .null, .null, .null, .null, .null, .int 0, .int 0, .null, .long 0, .int 0, .int 0])), (q1, .inl (ct 0, 1000, .inl (fun _ => 0))), (q2, .inl (ct 0, 8, .inl (fun _ => 0))), (q3, .inl (ct 1, 12, .inr (.inl (fun _ => 0)))), (q4, .inl (ct 1, 12, .inr (.inl (fun _ => 0)))), (q5, .inl (ct 0, 12, .inl (fun _ => 0))), (q6, .inl (ct 0, 12, .inl (fun _ => 0))), (q7, .inl (ct 0, 12, .inl (fun _ => 0))), (q8, .inl (ct 0, 12, .inl (fun _ => 0))), (q9, .inl (ct 0, 12, .inl (fun _ => 0))), (q10, .inl (ct 0, 12, .inl (fun _ => 0))), (q11, .inl (ct 0, 2, .inl (fun _ => 0))), (q12, .inl (ct 0, 2, .inl (fun _ => 0))), (q13, .inl (ct 0, 2000, .inl (fun _ => 0))), (q14, .inl (ct 0, 7, .inl (fun _ => 0))), (q15, .inl (ct 3, 7, .inl (fun _ => 0))), (q16, .inl (ct 0, 7, .inl (fun _ => 0))), (q17, .inl (ct 0, 7, .inl (fun _ => 0))), (q18, .inl (ct 0, 7, .inl (fun _ => 0))), (q19, .inl (ct 0, 7, .inl (fun _ => 0))), (q20, .inl (ct 0, 7, .inl (fun _ => 0))), (q21, .inl (ct 0, 7, .inl (fun _ => 0))), (q22, .inl (ct 0, 7, .inl (fun _ => 0))), (q23, .inl (ct 0, 7, .inl (fun _ => 0)))] rfl (fun H locs hw hS => ?_)
  refine lv_aload_n hx hb dX12_init_188 rfl (lv_at hl 0 rfl) ?_
  refine lv_bipush (v := 7) hx hb dX12_init_189 (by decide) ?_
  refine znewa (atype := .int) hx hb (hts (.arrayClass .int) (by decide +kernel)) 0 rfl hK hw hS hA 7 (7, .inl (fun _ => 0)) (fun _ => rfl) (by decide) (by decide) (by decide) (Nat.le_of_ble_eq_true rfl) (Nat.le_of_ble_eq_true rfl) dX12_init_191 (fun q24 H hw hS => ?_)
  refine zputF (D := D) (ci := 11) (v := .ref q24) (ty := (.array .int)) hx hb hts hiX12 tyX12 tyX12_ok nmX12 hown hK hw hS 0 rfl rfl 34 (by decide) (hts (.fieldLink RX12 81 "BeardPassModel" "byNot" "[I") (by decide +kernel)) (fun _ h9 => h9) rfl hname rfl (by decide +kernel) rfl rfl (Nat.le_of_ble_eq_true rfl) dX12_init_193 [(h0, .inr (11, [.int 0, .int 0, .ref q1, .int 0, .int 0, .int 0, .int 0, .long 0, .int 0, .int 0, .ref q2, .ref q3, .ref q4, .ref q5, .ref q6, .ref q7, .ref q8, .ref q9, .ref q10, .ref q11, .ref q12, .ref q13, .int 0, .int 0, .ref q14, .ref q15, .ref q16, .ref q17, .ref q18, .ref q19, .ref q20, .ref q21, .ref q22, .ref q23, .ref q24, .null, .int 0, .long 0, .null, .null, .null, .null, .null, .null, .null, .null, .null, .null, .null, .null, .null, .int 0, .int 0, .null, .long 0, .int 0, .int 0])), (q1, .inl (ct 0, 1000, .inl (fun _ => 0))), (q2, .inl (ct 0, 8, .inl (fun _ => 0))), (q3, .inl (ct 1, 12, .inr (.inl (fun _ => 0)))), (q4, .inl (ct 1, 12, .inr (.inl (fun _ => 0)))), (q5, .inl (ct 0, 12, .inl (fun _ => 0))), (q6, .inl (ct 0, 12, .inl (fun _ => 0))), (q7, .inl (ct 0, 12, .inl (fun _ => 0))), (q8, .inl (ct 0, 12, .inl (fun _ => 0))), (q9, .inl (ct 0, 12, .inl (fun _ => 0))), (q10, .inl (ct 0, 12, .inl (fun _ => 0))), (q11, .inl (ct 0, 2, .inl (fun _ => 0))), (q12, .inl (ct 0, 2, .inl (fun _ => 0))), (q13, .inl (ct 0, 2000, .inl (fun _ => 0))), (q14, .inl (ct 0, 7, .inl (fun _ => 0))), (q15, .inl (ct 3, 7, .inl (fun _ => 0))), (q16, .inl (ct 0, 7, .inl (fun _ => 0))), (q17, .inl (ct 0, 7, .inl (fun _ => 0))), (q18, .inl (ct 0, 7, .inl (fun _ => 0))), (q19, .inl (ct 0, 7, .inl (fun _ => 0))), (q20, .inl (ct 0, 7, .inl (fun _ => 0))), (q21, .inl (ct 0, 7, .inl (fun _ => 0))), (q22, .inl (ct 0, 7, .inl (fun _ => 0))), (q23, .inl (ct 0, 7, .inl (fun _ => 0))), (q24, .inl (ct 0, 7, .inl (fun _ => 0)))] rfl (fun H locs hw hS => ?_)
  refine lv_aload_n hx hb dX12_init_196 rfl (lv_at hl 0 rfl) ?_
  refine lv_bipush (v := 20) hx hb dX12_init_197 (by decide) ?_
  refine znewa (atype := .int) hx hb (hts (.arrayClass .int) (by decide +kernel)) 0 rfl hK hw hS hA 20 (20, .inl (fun _ => 0)) (fun _ => rfl) (by decide) (by decide) (by decide) (Nat.le_of_ble_eq_true rfl) (Nat.le_of_ble_eq_true rfl) dX12_init_199 (fun q25 H hw hS => ?_)
  refine zputF (D := D) (ci := 11) (v := .ref q25) (ty := (.array .int)) hx hb hts hiX12 tyX12 tyX12_ok nmX12 hown hK hw hS 0 rfl rfl 35 (by decide) (hts (.fieldLink RX12 84 "BeardPassModel" "valueOf" "[I") (by decide +kernel)) (fun _ h9 => h9) rfl hname rfl (by decide +kernel) rfl rfl (Nat.le_of_ble_eq_true rfl) dX12_init_201 [(h0, .inr (11, [.int 0, .int 0, .ref q1, .int 0, .int 0, .int 0, .int 0, .long 0, .int 0, .int 0, .ref q2, .ref q3, .ref q4, .ref q5, .ref q6, .ref q7, .ref q8, .ref q9, .ref q10, .ref q11, .ref q12, .ref q13, .int 0, .int 0, .ref q14, .ref q15, .ref q16, .ref q17, .ref q18, .ref q19, .ref q20, .ref q21, .ref q22, .ref q23, .ref q24, .ref q25, .int 0, .long 0, .null, .null, .null, .null, .null, .null, .null, .null, .null, .null, .null, .null, .null, .int 0, .int 0, .null, .long 0, .int 0, .int 0])), (q1, .inl (ct 0, 1000, .inl (fun _ => 0))), (q2, .inl (ct 0, 8, .inl (fun _ => 0))), (q3, .inl (ct 1, 12, .inr (.inl (fun _ => 0)))), (q4, .inl (ct 1, 12, .inr (.inl (fun _ => 0)))), (q5, .inl (ct 0, 12, .inl (fun _ => 0))), (q6, .inl (ct 0, 12, .inl (fun _ => 0))), (q7, .inl (ct 0, 12, .inl (fun _ => 0))), (q8, .inl (ct 0, 12, .inl (fun _ => 0))), (q9, .inl (ct 0, 12, .inl (fun _ => 0))), (q10, .inl (ct 0, 12, .inl (fun _ => 0))), (q11, .inl (ct 0, 2, .inl (fun _ => 0))), (q12, .inl (ct 0, 2, .inl (fun _ => 0))), (q13, .inl (ct 0, 2000, .inl (fun _ => 0))), (q14, .inl (ct 0, 7, .inl (fun _ => 0))), (q15, .inl (ct 3, 7, .inl (fun _ => 0))), (q16, .inl (ct 0, 7, .inl (fun _ => 0))), (q17, .inl (ct 0, 7, .inl (fun _ => 0))), (q18, .inl (ct 0, 7, .inl (fun _ => 0))), (q19, .inl (ct 0, 7, .inl (fun _ => 0))), (q20, .inl (ct 0, 7, .inl (fun _ => 0))), (q21, .inl (ct 0, 7, .inl (fun _ => 0))), (q22, .inl (ct 0, 7, .inl (fun _ => 0))), (q23, .inl (ct 0, 7, .inl (fun _ => 0))), (q24, .inl (ct 0, 7, .inl (fun _ => 0))), (q25, .inl (ct 0, 20, .inl (fun _ => 0)))] rfl (fun H locs hw hS => ?_)
  refine lv_aload_n hx hb dX12_init_204 rfl (lv_at hl 0 rfl) ?_
  refine lv_bipush (v := 6) hx hb dX12_init_205 (by decide) ?_
  refine znewa (atype := .int) hx hb (hts (.arrayClass .int) (by decide +kernel)) 0 rfl hK hw hS hA 6 (6, .inl (fun _ => 0)) (fun _ => rfl) (by decide) (by decide) (by decide) (Nat.le_of_ble_eq_true rfl) (Nat.le_of_ble_eq_true rfl) dX12_init_207 (fun q26 H hw hS => ?_)
  refine zputF (D := D) (ci := 11) (v := .ref q26) (ty := (.array .int)) hx hb hts hiX12 tyX12 tyX12_ok nmX12 hown hK hw hS 0 rfl rfl 38 (by decide) (hts (.fieldLink RX12 87 "BeardPassModel" "lines" "[I") (by decide +kernel)) (fun _ h9 => h9) rfl hname rfl (by decide +kernel) rfl rfl (Nat.le_of_ble_eq_true rfl) dX12_init_209 [(h0, .inr (11, [.int 0, .int 0, .ref q1, .int 0, .int 0, .int 0, .int 0, .long 0, .int 0, .int 0, .ref q2, .ref q3, .ref q4, .ref q5, .ref q6, .ref q7, .ref q8, .ref q9, .ref q10, .ref q11, .ref q12, .ref q13, .int 0, .int 0, .ref q14, .ref q15, .ref q16, .ref q17, .ref q18, .ref q19, .ref q20, .ref q21, .ref q22, .ref q23, .ref q24, .ref q25, .int 0, .long 0, .ref q26, .null, .null, .null, .null, .null, .null, .null, .null, .null, .null, .null, .null, .int 0, .int 0, .null, .long 0, .int 0, .int 0])), (q1, .inl (ct 0, 1000, .inl (fun _ => 0))), (q2, .inl (ct 0, 8, .inl (fun _ => 0))), (q3, .inl (ct 1, 12, .inr (.inl (fun _ => 0)))), (q4, .inl (ct 1, 12, .inr (.inl (fun _ => 0)))), (q5, .inl (ct 0, 12, .inl (fun _ => 0))), (q6, .inl (ct 0, 12, .inl (fun _ => 0))), (q7, .inl (ct 0, 12, .inl (fun _ => 0))), (q8, .inl (ct 0, 12, .inl (fun _ => 0))), (q9, .inl (ct 0, 12, .inl (fun _ => 0))), (q10, .inl (ct 0, 12, .inl (fun _ => 0))), (q11, .inl (ct 0, 2, .inl (fun _ => 0))), (q12, .inl (ct 0, 2, .inl (fun _ => 0))), (q13, .inl (ct 0, 2000, .inl (fun _ => 0))), (q14, .inl (ct 0, 7, .inl (fun _ => 0))), (q15, .inl (ct 3, 7, .inl (fun _ => 0))), (q16, .inl (ct 0, 7, .inl (fun _ => 0))), (q17, .inl (ct 0, 7, .inl (fun _ => 0))), (q18, .inl (ct 0, 7, .inl (fun _ => 0))), (q19, .inl (ct 0, 7, .inl (fun _ => 0))), (q20, .inl (ct 0, 7, .inl (fun _ => 0))), (q21, .inl (ct 0, 7, .inl (fun _ => 0))), (q22, .inl (ct 0, 7, .inl (fun _ => 0))), (q23, .inl (ct 0, 7, .inl (fun _ => 0))), (q24, .inl (ct 0, 7, .inl (fun _ => 0))), (q25, .inl (ct 0, 20, .inl (fun _ => 0))), (q26, .inl (ct 0, 6, .inl (fun _ => 0)))] rfl (fun H locs hw hS => ?_)
  refine lv_aload_n hx hb dX12_init_212 rfl (lv_at hl 0 rfl) ?_
  refine lv_sipush (v := 240) hx hb dX12_init_213 (by decide) ?_
  refine znewa (atype := .int) hx hb (hts (.arrayClass .int) (by decide +kernel)) 0 rfl hK hw hS hA 240 (240, .inl (fun _ => 0)) (fun _ => rfl) (by decide) (by decide) (by decide) (Nat.le_of_ble_eq_true rfl) (Nat.le_of_ble_eq_true rfl) dX12_init_216 (fun q27 H hw hS => ?_)
  refine zputF (D := D) (ci := 11) (v := .ref q27) (ty := (.array .int)) hx hb hts hiX12 tyX12 tyX12_ok nmX12 hown hK hw hS 0 rfl rfl 39 (by decide) (hts (.fieldLink RX12 90 "BeardPassModel" "lineWhat" "[I") (by decide +kernel)) (fun _ h9 => h9) rfl hname rfl (by decide +kernel) rfl rfl (Nat.le_of_ble_eq_true rfl) dX12_init_218 [(h0, .inr (11, [.int 0, .int 0, .ref q1, .int 0, .int 0, .int 0, .int 0, .long 0, .int 0, .int 0, .ref q2, .ref q3, .ref q4, .ref q5, .ref q6, .ref q7, .ref q8, .ref q9, .ref q10, .ref q11, .ref q12, .ref q13, .int 0, .int 0, .ref q14, .ref q15, .ref q16, .ref q17, .ref q18, .ref q19, .ref q20, .ref q21, .ref q22, .ref q23, .ref q24, .ref q25, .int 0, .long 0, .ref q26, .ref q27, .null, .null, .null, .null, .null, .null, .null, .null, .null, .null, .null, .int 0, .int 0, .null, .long 0, .int 0, .int 0])), (q1, .inl (ct 0, 1000, .inl (fun _ => 0))), (q2, .inl (ct 0, 8, .inl (fun _ => 0))), (q3, .inl (ct 1, 12, .inr (.inl (fun _ => 0)))), (q4, .inl (ct 1, 12, .inr (.inl (fun _ => 0)))), (q5, .inl (ct 0, 12, .inl (fun _ => 0))), (q6, .inl (ct 0, 12, .inl (fun _ => 0))), (q7, .inl (ct 0, 12, .inl (fun _ => 0))), (q8, .inl (ct 0, 12, .inl (fun _ => 0))), (q9, .inl (ct 0, 12, .inl (fun _ => 0))), (q10, .inl (ct 0, 12, .inl (fun _ => 0))), (q11, .inl (ct 0, 2, .inl (fun _ => 0))), (q12, .inl (ct 0, 2, .inl (fun _ => 0))), (q13, .inl (ct 0, 2000, .inl (fun _ => 0))), (q14, .inl (ct 0, 7, .inl (fun _ => 0))), (q15, .inl (ct 3, 7, .inl (fun _ => 0))), (q16, .inl (ct 0, 7, .inl (fun _ => 0))), (q17, .inl (ct 0, 7, .inl (fun _ => 0))), (q18, .inl (ct 0, 7, .inl (fun _ => 0))), (q19, .inl (ct 0, 7, .inl (fun _ => 0))), (q20, .inl (ct 0, 7, .inl (fun _ => 0))), (q21, .inl (ct 0, 7, .inl (fun _ => 0))), (q22, .inl (ct 0, 7, .inl (fun _ => 0))), (q23, .inl (ct 0, 7, .inl (fun _ => 0))), (q24, .inl (ct 0, 7, .inl (fun _ => 0))), (q25, .inl (ct 0, 20, .inl (fun _ => 0))), (q26, .inl (ct 0, 6, .inl (fun _ => 0))), (q27, .inl (ct 0, 240, .inl (fun _ => 0)))] rfl (fun H locs hw hS => ?_)
  refine lv_aload_n hx hb dX12_init_221 rfl (lv_at hl 0 rfl) ?_
  refine lv_sipush (v := 240) hx hb dX12_init_222 (by decide) ?_
  refine znewa (atype := .int) hx hb (hts (.arrayClass .int) (by decide +kernel)) 0 rfl hK hw hS hA 240 (240, .inl (fun _ => 0)) (fun _ => rfl) (by decide) (by decide) (by decide) (Nat.le_of_ble_eq_true rfl) (Nat.le_of_ble_eq_true rfl) dX12_init_225 (fun q28 H hw hS => ?_)
  refine zputF (D := D) (ci := 11) (v := .ref q28) (ty := (.array .int)) hx hb hts hiX12 tyX12 tyX12_ok nmX12 hown hK hw hS 0 rfl rfl 40 (by decide) (hts (.fieldLink RX12 93 "BeardPassModel" "lineA" "[I") (by decide +kernel)) (fun _ h9 => h9) rfl hname rfl (by decide +kernel) rfl rfl (Nat.le_of_ble_eq_true rfl) dX12_init_227 [(h0, .inr (11, [.int 0, .int 0, .ref q1, .int 0, .int 0, .int 0, .int 0, .long 0, .int 0, .int 0, .ref q2, .ref q3, .ref q4, .ref q5, .ref q6, .ref q7, .ref q8, .ref q9, .ref q10, .ref q11, .ref q12, .ref q13, .int 0, .int 0, .ref q14, .ref q15, .ref q16, .ref q17, .ref q18, .ref q19, .ref q20, .ref q21, .ref q22, .ref q23, .ref q24, .ref q25, .int 0, .long 0, .ref q26, .ref q27, .ref q28, .null, .null, .null, .null, .null, .null, .null, .null, .null, .null, .int 0, .int 0, .null, .long 0, .int 0, .int 0])), (q1, .inl (ct 0, 1000, .inl (fun _ => 0))), (q2, .inl (ct 0, 8, .inl (fun _ => 0))), (q3, .inl (ct 1, 12, .inr (.inl (fun _ => 0)))), (q4, .inl (ct 1, 12, .inr (.inl (fun _ => 0)))), (q5, .inl (ct 0, 12, .inl (fun _ => 0))), (q6, .inl (ct 0, 12, .inl (fun _ => 0))), (q7, .inl (ct 0, 12, .inl (fun _ => 0))), (q8, .inl (ct 0, 12, .inl (fun _ => 0))), (q9, .inl (ct 0, 12, .inl (fun _ => 0))), (q10, .inl (ct 0, 12, .inl (fun _ => 0))), (q11, .inl (ct 0, 2, .inl (fun _ => 0))), (q12, .inl (ct 0, 2, .inl (fun _ => 0))), (q13, .inl (ct 0, 2000, .inl (fun _ => 0))), (q14, .inl (ct 0, 7, .inl (fun _ => 0))), (q15, .inl (ct 3, 7, .inl (fun _ => 0))), (q16, .inl (ct 0, 7, .inl (fun _ => 0))), (q17, .inl (ct 0, 7, .inl (fun _ => 0))), (q18, .inl (ct 0, 7, .inl (fun _ => 0))), (q19, .inl (ct 0, 7, .inl (fun _ => 0))), (q20, .inl (ct 0, 7, .inl (fun _ => 0))), (q21, .inl (ct 0, 7, .inl (fun _ => 0))), (q22, .inl (ct 0, 7, .inl (fun _ => 0))), (q23, .inl (ct 0, 7, .inl (fun _ => 0))), (q24, .inl (ct 0, 7, .inl (fun _ => 0))), (q25, .inl (ct 0, 20, .inl (fun _ => 0))), (q26, .inl (ct 0, 6, .inl (fun _ => 0))), (q27, .inl (ct 0, 240, .inl (fun _ => 0))), (q28, .inl (ct 0, 240, .inl (fun _ => 0)))] rfl (fun H locs hw hS => ?_)
  refine lv_aload_n hx hb dX12_init_230 rfl (lv_at hl 0 rfl) ?_
  refine lv_sipush (v := 240) hx hb dX12_init_231 (by decide) ?_
  refine znewa (atype := .int) hx hb (hts (.arrayClass .int) (by decide +kernel)) 0 rfl hK hw hS hA 240 (240, .inl (fun _ => 0)) (fun _ => rfl) (by decide) (by decide) (by decide) (Nat.le_of_ble_eq_true rfl) (Nat.le_of_ble_eq_true rfl) dX12_init_234 (fun q29 H hw hS => ?_)
  refine zputF (D := D) (ci := 11) (v := .ref q29) (ty := (.array .int)) hx hb hts hiX12 tyX12 tyX12_ok nmX12 hown hK hw hS 0 rfl rfl 41 (by decide) (hts (.fieldLink RX12 96 "BeardPassModel" "lineB" "[I") (by decide +kernel)) (fun _ h9 => h9) rfl hname rfl (by decide +kernel) rfl rfl (Nat.le_of_ble_eq_true rfl) dX12_init_236 [(h0, .inr (11, [.int 0, .int 0, .ref q1, .int 0, .int 0, .int 0, .int 0, .long 0, .int 0, .int 0, .ref q2, .ref q3, .ref q4, .ref q5, .ref q6, .ref q7, .ref q8, .ref q9, .ref q10, .ref q11, .ref q12, .ref q13, .int 0, .int 0, .ref q14, .ref q15, .ref q16, .ref q17, .ref q18, .ref q19, .ref q20, .ref q21, .ref q22, .ref q23, .ref q24, .ref q25, .int 0, .long 0, .ref q26, .ref q27, .ref q28, .ref q29, .null, .null, .null, .null, .null, .null, .null, .null, .null, .int 0, .int 0, .null, .long 0, .int 0, .int 0])), (q1, .inl (ct 0, 1000, .inl (fun _ => 0))), (q2, .inl (ct 0, 8, .inl (fun _ => 0))), (q3, .inl (ct 1, 12, .inr (.inl (fun _ => 0)))), (q4, .inl (ct 1, 12, .inr (.inl (fun _ => 0)))), (q5, .inl (ct 0, 12, .inl (fun _ => 0))), (q6, .inl (ct 0, 12, .inl (fun _ => 0))), (q7, .inl (ct 0, 12, .inl (fun _ => 0))), (q8, .inl (ct 0, 12, .inl (fun _ => 0))), (q9, .inl (ct 0, 12, .inl (fun _ => 0))), (q10, .inl (ct 0, 12, .inl (fun _ => 0))), (q11, .inl (ct 0, 2, .inl (fun _ => 0))), (q12, .inl (ct 0, 2, .inl (fun _ => 0))), (q13, .inl (ct 0, 2000, .inl (fun _ => 0))), (q14, .inl (ct 0, 7, .inl (fun _ => 0))), (q15, .inl (ct 3, 7, .inl (fun _ => 0))), (q16, .inl (ct 0, 7, .inl (fun _ => 0))), (q17, .inl (ct 0, 7, .inl (fun _ => 0))), (q18, .inl (ct 0, 7, .inl (fun _ => 0))), (q19, .inl (ct 0, 7, .inl (fun _ => 0))), (q20, .inl (ct 0, 7, .inl (fun _ => 0))), (q21, .inl (ct 0, 7, .inl (fun _ => 0))), (q22, .inl (ct 0, 7, .inl (fun _ => 0))), (q23, .inl (ct 0, 7, .inl (fun _ => 0))), (q24, .inl (ct 0, 7, .inl (fun _ => 0))), (q25, .inl (ct 0, 20, .inl (fun _ => 0))), (q26, .inl (ct 0, 6, .inl (fun _ => 0))), (q27, .inl (ct 0, 240, .inl (fun _ => 0))), (q28, .inl (ct 0, 240, .inl (fun _ => 0))), (q29, .inl (ct 0, 240, .inl (fun _ => 0)))] rfl (fun H locs hw hS => ?_)
  refine lv_aload_n hx hb dX12_init_239 rfl (lv_at hl 0 rfl) ?_
  refine lv_iconst (v := 5) hx hb dX12_init_240 (by decide) ?_
  refine znewa (atype := .int) hx hb (hts (.arrayClass .int) (by decide +kernel)) 0 rfl hK hw hS hA 5 (5, .inl (fun _ => 0)) (fun _ => rfl) (by decide) (by decide) (by decide) (Nat.le_of_ble_eq_true rfl) (Nat.le_of_ble_eq_true rfl) dX12_init_241 (fun q30 H hw hS => ?_)
  refine zputF (D := D) (ci := 11) (v := .ref q30) (ty := (.array .int)) hx hb hts hiX12 tyX12 tyX12_ok nmX12 hown hK hw hS 0 rfl rfl 42 (by decide) (hts (.fieldLink RX12 99 "BeardPassModel" "seens" "[I") (by decide +kernel)) (fun _ h9 => h9) rfl hname rfl (by decide +kernel) rfl rfl (Nat.le_of_ble_eq_true rfl) dX12_init_243 [(h0, .inr (11, [.int 0, .int 0, .ref q1, .int 0, .int 0, .int 0, .int 0, .long 0, .int 0, .int 0, .ref q2, .ref q3, .ref q4, .ref q5, .ref q6, .ref q7, .ref q8, .ref q9, .ref q10, .ref q11, .ref q12, .ref q13, .int 0, .int 0, .ref q14, .ref q15, .ref q16, .ref q17, .ref q18, .ref q19, .ref q20, .ref q21, .ref q22, .ref q23, .ref q24, .ref q25, .int 0, .long 0, .ref q26, .ref q27, .ref q28, .ref q29, .ref q30, .null, .null, .null, .null, .null, .null, .null, .null, .int 0, .int 0, .null, .long 0, .int 0, .int 0])), (q1, .inl (ct 0, 1000, .inl (fun _ => 0))), (q2, .inl (ct 0, 8, .inl (fun _ => 0))), (q3, .inl (ct 1, 12, .inr (.inl (fun _ => 0)))), (q4, .inl (ct 1, 12, .inr (.inl (fun _ => 0)))), (q5, .inl (ct 0, 12, .inl (fun _ => 0))), (q6, .inl (ct 0, 12, .inl (fun _ => 0))), (q7, .inl (ct 0, 12, .inl (fun _ => 0))), (q8, .inl (ct 0, 12, .inl (fun _ => 0))), (q9, .inl (ct 0, 12, .inl (fun _ => 0))), (q10, .inl (ct 0, 12, .inl (fun _ => 0))), (q11, .inl (ct 0, 2, .inl (fun _ => 0))), (q12, .inl (ct 0, 2, .inl (fun _ => 0))), (q13, .inl (ct 0, 2000, .inl (fun _ => 0))), (q14, .inl (ct 0, 7, .inl (fun _ => 0))), (q15, .inl (ct 3, 7, .inl (fun _ => 0))), (q16, .inl (ct 0, 7, .inl (fun _ => 0))), (q17, .inl (ct 0, 7, .inl (fun _ => 0))), (q18, .inl (ct 0, 7, .inl (fun _ => 0))), (q19, .inl (ct 0, 7, .inl (fun _ => 0))), (q20, .inl (ct 0, 7, .inl (fun _ => 0))), (q21, .inl (ct 0, 7, .inl (fun _ => 0))), (q22, .inl (ct 0, 7, .inl (fun _ => 0))), (q23, .inl (ct 0, 7, .inl (fun _ => 0))), (q24, .inl (ct 0, 7, .inl (fun _ => 0))), (q25, .inl (ct 0, 20, .inl (fun _ => 0))), (q26, .inl (ct 0, 6, .inl (fun _ => 0))), (q27, .inl (ct 0, 240, .inl (fun _ => 0))), (q28, .inl (ct 0, 240, .inl (fun _ => 0))), (q29, .inl (ct 0, 240, .inl (fun _ => 0))), (q30, .inl (ct 0, 5, .inl (fun _ => 0)))] rfl (fun H locs hw hS => ?_)
  refine lv_aload_n hx hb dX12_init_246 rfl (lv_at hl 0 rfl) ?_
  refine lv_bipush (v := 40) hx hb dX12_init_247 (by decide) ?_
  refine znewa (atype := .int) hx hb (hts (.arrayClass .int) (by decide +kernel)) 0 rfl hK hw hS hA 40 (40, .inl (fun _ => 0)) (fun _ => rfl) (by decide) (by decide) (by decide) (Nat.le_of_ble_eq_true rfl) (Nat.le_of_ble_eq_true rfl) dX12_init_249 (fun q31 H hw hS => ?_)
  refine zputF (D := D) (ci := 11) (v := .ref q31) (ty := (.array .int)) hx hb hts hiX12 tyX12 tyX12_ok nmX12 hown hK hw hS 0 rfl rfl 43 (by decide) (hts (.fieldLink RX12 102 "BeardPassModel" "seenTown" "[I") (by decide +kernel)) (fun _ h9 => h9) rfl hname rfl (by decide +kernel) rfl rfl (Nat.le_of_ble_eq_true rfl) dX12_init_251 [(h0, .inr (11, [.int 0, .int 0, .ref q1, .int 0, .int 0, .int 0, .int 0, .long 0, .int 0, .int 0, .ref q2, .ref q3, .ref q4, .ref q5, .ref q6, .ref q7, .ref q8, .ref q9, .ref q10, .ref q11, .ref q12, .ref q13, .int 0, .int 0, .ref q14, .ref q15, .ref q16, .ref q17, .ref q18, .ref q19, .ref q20, .ref q21, .ref q22, .ref q23, .ref q24, .ref q25, .int 0, .long 0, .ref q26, .ref q27, .ref q28, .ref q29, .ref q30, .ref q31, .null, .null, .null, .null, .null, .null, .null, .int 0, .int 0, .null, .long 0, .int 0, .int 0])), (q1, .inl (ct 0, 1000, .inl (fun _ => 0))), (q2, .inl (ct 0, 8, .inl (fun _ => 0))), (q3, .inl (ct 1, 12, .inr (.inl (fun _ => 0)))), (q4, .inl (ct 1, 12, .inr (.inl (fun _ => 0)))), (q5, .inl (ct 0, 12, .inl (fun _ => 0))), (q6, .inl (ct 0, 12, .inl (fun _ => 0))), (q7, .inl (ct 0, 12, .inl (fun _ => 0))), (q8, .inl (ct 0, 12, .inl (fun _ => 0))), (q9, .inl (ct 0, 12, .inl (fun _ => 0))), (q10, .inl (ct 0, 12, .inl (fun _ => 0))), (q11, .inl (ct 0, 2, .inl (fun _ => 0))), (q12, .inl (ct 0, 2, .inl (fun _ => 0))), (q13, .inl (ct 0, 2000, .inl (fun _ => 0))), (q14, .inl (ct 0, 7, .inl (fun _ => 0))), (q15, .inl (ct 3, 7, .inl (fun _ => 0))), (q16, .inl (ct 0, 7, .inl (fun _ => 0))), (q17, .inl (ct 0, 7, .inl (fun _ => 0))), (q18, .inl (ct 0, 7, .inl (fun _ => 0))), (q19, .inl (ct 0, 7, .inl (fun _ => 0))), (q20, .inl (ct 0, 7, .inl (fun _ => 0))), (q21, .inl (ct 0, 7, .inl (fun _ => 0))), (q22, .inl (ct 0, 7, .inl (fun _ => 0))), (q23, .inl (ct 0, 7, .inl (fun _ => 0))), (q24, .inl (ct 0, 7, .inl (fun _ => 0))), (q25, .inl (ct 0, 20, .inl (fun _ => 0))), (q26, .inl (ct 0, 6, .inl (fun _ => 0))), (q27, .inl (ct 0, 240, .inl (fun _ => 0))), (q28, .inl (ct 0, 240, .inl (fun _ => 0))), (q29, .inl (ct 0, 240, .inl (fun _ => 0))), (q30, .inl (ct 0, 5, .inl (fun _ => 0))), (q31, .inl (ct 0, 40, .inl (fun _ => 0)))] rfl (fun H locs hw hS => ?_)
  refine lv_aload_n hx hb dX12_init_254 rfl (lv_at hl 0 rfl) ?_
  refine lv_bipush (v := 40) hx hb dX12_init_255 (by decide) ?_
  refine znewa (atype := .boolean) hx hb (hts (.arrayClass .boolean) (by decide +kernel)) 3 rfl hK hw hS hA 40 (40, .inl (fun _ => 0)) (fun _ => rfl) (by decide) (by decide) (by decide) (Nat.le_of_ble_eq_true rfl) (Nat.le_of_ble_eq_true rfl) dX12_init_257 (fun q32 H hw hS => ?_)
  refine zputF (D := D) (ci := 11) (v := .ref q32) (ty := (.array .boolean)) hx hb hts hiX12 tyX12 tyX12_ok nmX12 hown hK hw hS 0 rfl rfl 44 (by decide) (hts (.fieldLink RX12 105 "BeardPassModel" "seenLet" "[Z") (by decide +kernel)) (fun _ h9 => h9) rfl hname rfl (by decide +kernel) rfl rfl (Nat.le_of_ble_eq_true rfl) dX12_init_259 [(h0, .inr (11, [.int 0, .int 0, .ref q1, .int 0, .int 0, .int 0, .int 0, .long 0, .int 0, .int 0, .ref q2, .ref q3, .ref q4, .ref q5, .ref q6, .ref q7, .ref q8, .ref q9, .ref q10, .ref q11, .ref q12, .ref q13, .int 0, .int 0, .ref q14, .ref q15, .ref q16, .ref q17, .ref q18, .ref q19, .ref q20, .ref q21, .ref q22, .ref q23, .ref q24, .ref q25, .int 0, .long 0, .ref q26, .ref q27, .ref q28, .ref q29, .ref q30, .ref q31, .ref q32, .null, .null, .null, .null, .null, .null, .int 0, .int 0, .null, .long 0, .int 0, .int 0])), (q1, .inl (ct 0, 1000, .inl (fun _ => 0))), (q2, .inl (ct 0, 8, .inl (fun _ => 0))), (q3, .inl (ct 1, 12, .inr (.inl (fun _ => 0)))), (q4, .inl (ct 1, 12, .inr (.inl (fun _ => 0)))), (q5, .inl (ct 0, 12, .inl (fun _ => 0))), (q6, .inl (ct 0, 12, .inl (fun _ => 0))), (q7, .inl (ct 0, 12, .inl (fun _ => 0))), (q8, .inl (ct 0, 12, .inl (fun _ => 0))), (q9, .inl (ct 0, 12, .inl (fun _ => 0))), (q10, .inl (ct 0, 12, .inl (fun _ => 0))), (q11, .inl (ct 0, 2, .inl (fun _ => 0))), (q12, .inl (ct 0, 2, .inl (fun _ => 0))), (q13, .inl (ct 0, 2000, .inl (fun _ => 0))), (q14, .inl (ct 0, 7, .inl (fun _ => 0))), (q15, .inl (ct 3, 7, .inl (fun _ => 0))), (q16, .inl (ct 0, 7, .inl (fun _ => 0))), (q17, .inl (ct 0, 7, .inl (fun _ => 0))), (q18, .inl (ct 0, 7, .inl (fun _ => 0))), (q19, .inl (ct 0, 7, .inl (fun _ => 0))), (q20, .inl (ct 0, 7, .inl (fun _ => 0))), (q21, .inl (ct 0, 7, .inl (fun _ => 0))), (q22, .inl (ct 0, 7, .inl (fun _ => 0))), (q23, .inl (ct 0, 7, .inl (fun _ => 0))), (q24, .inl (ct 0, 7, .inl (fun _ => 0))), (q25, .inl (ct 0, 20, .inl (fun _ => 0))), (q26, .inl (ct 0, 6, .inl (fun _ => 0))), (q27, .inl (ct 0, 240, .inl (fun _ => 0))), (q28, .inl (ct 0, 240, .inl (fun _ => 0))), (q29, .inl (ct 0, 240, .inl (fun _ => 0))), (q30, .inl (ct 0, 5, .inl (fun _ => 0))), (q31, .inl (ct 0, 40, .inl (fun _ => 0))), (q32, .inl (ct 3, 40, .inl (fun _ => 0)))] rfl (fun H locs hw hS => ?_)
  refine lv_aload_n hx hb dX12_init_262 rfl (lv_at hl 0 rfl) ?_
  refine lv_bipush (v := 31) hx hb dX12_init_263 (by decide) ?_
  refine znewa (atype := .int) hx hb (hts (.arrayClass .int) (by decide +kernel)) 0 rfl hK hw hS hA 31 (31, .inl (fun _ => 0)) (fun _ => rfl) (by decide) (by decide) (by decide) (Nat.le_of_ble_eq_true rfl) (Nat.le_of_ble_eq_true rfl) dX12_init_265 (fun q33 H hw hS => ?_)
  refine zputF (D := D) (ci := 11) (v := .ref q33) (ty := (.array .int)) hx hb hts hiX12 tyX12 tyX12_ok nmX12 hown hK hw hS 0 rfl rfl 45 (by decide) (hts (.fieldLink RX12 108 "BeardPassModel" "s" "[I") (by decide +kernel)) (fun _ h9 => h9) rfl hname rfl (by decide +kernel) rfl rfl (Nat.le_of_ble_eq_true rfl) dX12_init_267 [(h0, .inr (11, [.int 0, .int 0, .ref q1, .int 0, .int 0, .int 0, .int 0, .long 0, .int 0, .int 0, .ref q2, .ref q3, .ref q4, .ref q5, .ref q6, .ref q7, .ref q8, .ref q9, .ref q10, .ref q11, .ref q12, .ref q13, .int 0, .int 0, .ref q14, .ref q15, .ref q16, .ref q17, .ref q18, .ref q19, .ref q20, .ref q21, .ref q22, .ref q23, .ref q24, .ref q25, .int 0, .long 0, .ref q26, .ref q27, .ref q28, .ref q29, .ref q30, .ref q31, .ref q32, .ref q33, .null, .null, .null, .null, .null, .int 0, .int 0, .null, .long 0, .int 0, .int 0])), (q1, .inl (ct 0, 1000, .inl (fun _ => 0))), (q2, .inl (ct 0, 8, .inl (fun _ => 0))), (q3, .inl (ct 1, 12, .inr (.inl (fun _ => 0)))), (q4, .inl (ct 1, 12, .inr (.inl (fun _ => 0)))), (q5, .inl (ct 0, 12, .inl (fun _ => 0))), (q6, .inl (ct 0, 12, .inl (fun _ => 0))), (q7, .inl (ct 0, 12, .inl (fun _ => 0))), (q8, .inl (ct 0, 12, .inl (fun _ => 0))), (q9, .inl (ct 0, 12, .inl (fun _ => 0))), (q10, .inl (ct 0, 12, .inl (fun _ => 0))), (q11, .inl (ct 0, 2, .inl (fun _ => 0))), (q12, .inl (ct 0, 2, .inl (fun _ => 0))), (q13, .inl (ct 0, 2000, .inl (fun _ => 0))), (q14, .inl (ct 0, 7, .inl (fun _ => 0))), (q15, .inl (ct 3, 7, .inl (fun _ => 0))), (q16, .inl (ct 0, 7, .inl (fun _ => 0))), (q17, .inl (ct 0, 7, .inl (fun _ => 0))), (q18, .inl (ct 0, 7, .inl (fun _ => 0))), (q19, .inl (ct 0, 7, .inl (fun _ => 0))), (q20, .inl (ct 0, 7, .inl (fun _ => 0))), (q21, .inl (ct 0, 7, .inl (fun _ => 0))), (q22, .inl (ct 0, 7, .inl (fun _ => 0))), (q23, .inl (ct 0, 7, .inl (fun _ => 0))), (q24, .inl (ct 0, 7, .inl (fun _ => 0))), (q25, .inl (ct 0, 20, .inl (fun _ => 0))), (q26, .inl (ct 0, 6, .inl (fun _ => 0))), (q27, .inl (ct 0, 240, .inl (fun _ => 0))), (q28, .inl (ct 0, 240, .inl (fun _ => 0))), (q29, .inl (ct 0, 240, .inl (fun _ => 0))), (q30, .inl (ct 0, 5, .inl (fun _ => 0))), (q31, .inl (ct 0, 40, .inl (fun _ => 0))), (q32, .inl (ct 3, 40, .inl (fun _ => 0))), (q33, .inl (ct 0, 31, .inl (fun _ => 0)))] rfl (fun H locs hw hS => ?_)
  refine lv_aload_n hx hb dX12_init_270 rfl (lv_at hl 0 rfl) ?_
  refine lv_bipush (v := 31) hx hb dX12_init_271 (by decide) ?_
  refine znewa (atype := .int) hx hb (hts (.arrayClass .int) (by decide +kernel)) 0 rfl hK hw hS hA 31 (31, .inl (fun _ => 0)) (fun _ => rfl) (by decide) (by decide) (by decide) (Nat.le_of_ble_eq_true rfl) (Nat.le_of_ble_eq_true rfl) dX12_init_273 (fun q34 H hw hS => ?_)
  refine zputF (D := D) (ci := 11) (v := .ref q34) (ty := (.array .int)) hx hb hts hiX12 tyX12 tyX12_ok nmX12 hown hK hw hS 0 rfl rfl 46 (by decide) (hts (.fieldLink RX12 111 "BeardPassModel" "aside" "[I") (by decide +kernel)) (fun _ h9 => h9) rfl hname rfl (by decide +kernel) rfl rfl (Nat.le_of_ble_eq_true rfl) dX12_init_275 [(h0, .inr (11, [.int 0, .int 0, .ref q1, .int 0, .int 0, .int 0, .int 0, .long 0, .int 0, .int 0, .ref q2, .ref q3, .ref q4, .ref q5, .ref q6, .ref q7, .ref q8, .ref q9, .ref q10, .ref q11, .ref q12, .ref q13, .int 0, .int 0, .ref q14, .ref q15, .ref q16, .ref q17, .ref q18, .ref q19, .ref q20, .ref q21, .ref q22, .ref q23, .ref q24, .ref q25, .int 0, .long 0, .ref q26, .ref q27, .ref q28, .ref q29, .ref q30, .ref q31, .ref q32, .ref q33, .ref q34, .null, .null, .null, .null, .int 0, .int 0, .null, .long 0, .int 0, .int 0])), (q1, .inl (ct 0, 1000, .inl (fun _ => 0))), (q2, .inl (ct 0, 8, .inl (fun _ => 0))), (q3, .inl (ct 1, 12, .inr (.inl (fun _ => 0)))), (q4, .inl (ct 1, 12, .inr (.inl (fun _ => 0)))), (q5, .inl (ct 0, 12, .inl (fun _ => 0))), (q6, .inl (ct 0, 12, .inl (fun _ => 0))), (q7, .inl (ct 0, 12, .inl (fun _ => 0))), (q8, .inl (ct 0, 12, .inl (fun _ => 0))), (q9, .inl (ct 0, 12, .inl (fun _ => 0))), (q10, .inl (ct 0, 12, .inl (fun _ => 0))), (q11, .inl (ct 0, 2, .inl (fun _ => 0))), (q12, .inl (ct 0, 2, .inl (fun _ => 0))), (q13, .inl (ct 0, 2000, .inl (fun _ => 0))), (q14, .inl (ct 0, 7, .inl (fun _ => 0))), (q15, .inl (ct 3, 7, .inl (fun _ => 0))), (q16, .inl (ct 0, 7, .inl (fun _ => 0))), (q17, .inl (ct 0, 7, .inl (fun _ => 0))), (q18, .inl (ct 0, 7, .inl (fun _ => 0))), (q19, .inl (ct 0, 7, .inl (fun _ => 0))), (q20, .inl (ct 0, 7, .inl (fun _ => 0))), (q21, .inl (ct 0, 7, .inl (fun _ => 0))), (q22, .inl (ct 0, 7, .inl (fun _ => 0))), (q23, .inl (ct 0, 7, .inl (fun _ => 0))), (q24, .inl (ct 0, 7, .inl (fun _ => 0))), (q25, .inl (ct 0, 20, .inl (fun _ => 0))), (q26, .inl (ct 0, 6, .inl (fun _ => 0))), (q27, .inl (ct 0, 240, .inl (fun _ => 0))), (q28, .inl (ct 0, 240, .inl (fun _ => 0))), (q29, .inl (ct 0, 240, .inl (fun _ => 0))), (q30, .inl (ct 0, 5, .inl (fun _ => 0))), (q31, .inl (ct 0, 40, .inl (fun _ => 0))), (q32, .inl (ct 3, 40, .inl (fun _ => 0))), (q33, .inl (ct 0, 31, .inl (fun _ => 0))), (q34, .inl (ct 0, 31, .inl (fun _ => 0)))] rfl (fun H locs hw hS => ?_)
  refine lv_aload_n hx hb dX12_init_278 rfl (lv_at hl 0 rfl) ?_
  refine lv_bipush (v := 31) hx hb dX12_init_279 (by decide) ?_
  refine znewa (atype := .int) hx hb (hts (.arrayClass .int) (by decide +kernel)) 0 rfl hK hw hS hA 31 (31, .inl (fun _ => 0)) (fun _ => rfl) (by decide) (by decide) (by decide) (Nat.le_of_ble_eq_true rfl) (Nat.le_of_ble_eq_true rfl) dX12_init_281 (fun q35 H hw hS => ?_)
  refine zputF (D := D) (ci := 11) (v := .ref q35) (ty := (.array .int)) hx hb hts hiX12 tyX12 tyX12_ok nmX12 hown hK hw hS 0 rfl rfl 47 (by decide) (hts (.fieldLink RX12 114 "BeardPassModel" "before" "[I") (by decide +kernel)) (fun _ h9 => h9) rfl hname rfl (by decide +kernel) rfl rfl (Nat.le_of_ble_eq_true rfl) dX12_init_283 [(h0, .inr (11, [.int 0, .int 0, .ref q1, .int 0, .int 0, .int 0, .int 0, .long 0, .int 0, .int 0, .ref q2, .ref q3, .ref q4, .ref q5, .ref q6, .ref q7, .ref q8, .ref q9, .ref q10, .ref q11, .ref q12, .ref q13, .int 0, .int 0, .ref q14, .ref q15, .ref q16, .ref q17, .ref q18, .ref q19, .ref q20, .ref q21, .ref q22, .ref q23, .ref q24, .ref q25, .int 0, .long 0, .ref q26, .ref q27, .ref q28, .ref q29, .ref q30, .ref q31, .ref q32, .ref q33, .ref q34, .ref q35, .null, .null, .null, .int 0, .int 0, .null, .long 0, .int 0, .int 0])), (q1, .inl (ct 0, 1000, .inl (fun _ => 0))), (q2, .inl (ct 0, 8, .inl (fun _ => 0))), (q3, .inl (ct 1, 12, .inr (.inl (fun _ => 0)))), (q4, .inl (ct 1, 12, .inr (.inl (fun _ => 0)))), (q5, .inl (ct 0, 12, .inl (fun _ => 0))), (q6, .inl (ct 0, 12, .inl (fun _ => 0))), (q7, .inl (ct 0, 12, .inl (fun _ => 0))), (q8, .inl (ct 0, 12, .inl (fun _ => 0))), (q9, .inl (ct 0, 12, .inl (fun _ => 0))), (q10, .inl (ct 0, 12, .inl (fun _ => 0))), (q11, .inl (ct 0, 2, .inl (fun _ => 0))), (q12, .inl (ct 0, 2, .inl (fun _ => 0))), (q13, .inl (ct 0, 2000, .inl (fun _ => 0))), (q14, .inl (ct 0, 7, .inl (fun _ => 0))), (q15, .inl (ct 3, 7, .inl (fun _ => 0))), (q16, .inl (ct 0, 7, .inl (fun _ => 0))), (q17, .inl (ct 0, 7, .inl (fun _ => 0))), (q18, .inl (ct 0, 7, .inl (fun _ => 0))), (q19, .inl (ct 0, 7, .inl (fun _ => 0))), (q20, .inl (ct 0, 7, .inl (fun _ => 0))), (q21, .inl (ct 0, 7, .inl (fun _ => 0))), (q22, .inl (ct 0, 7, .inl (fun _ => 0))), (q23, .inl (ct 0, 7, .inl (fun _ => 0))), (q24, .inl (ct 0, 7, .inl (fun _ => 0))), (q25, .inl (ct 0, 20, .inl (fun _ => 0))), (q26, .inl (ct 0, 6, .inl (fun _ => 0))), (q27, .inl (ct 0, 240, .inl (fun _ => 0))), (q28, .inl (ct 0, 240, .inl (fun _ => 0))), (q29, .inl (ct 0, 240, .inl (fun _ => 0))), (q30, .inl (ct 0, 5, .inl (fun _ => 0))), (q31, .inl (ct 0, 40, .inl (fun _ => 0))), (q32, .inl (ct 3, 40, .inl (fun _ => 0))), (q33, .inl (ct 0, 31, .inl (fun _ => 0))), (q34, .inl (ct 0, 31, .inl (fun _ => 0))), (q35, .inl (ct 0, 31, .inl (fun _ => 0)))] rfl (fun H locs hw hS => ?_)
  refine lv_aload_n hx hb dX12_init_286 rfl (lv_at hl 0 rfl) ?_
  refine lv_bipush (v := 124) hx hb dX12_init_287 (by decide) ?_
  refine znewa (atype := .int) hx hb (hts (.arrayClass .int) (by decide +kernel)) 0 rfl hK hw hS hA 124 (124, .inl (fun _ => 0)) (fun _ => rfl) (by decide) (by decide) (by decide) (Nat.le_of_ble_eq_true rfl) (Nat.le_of_ble_eq_true rfl) dX12_init_289 (fun q36 H hw hS => ?_)
  refine zputF (D := D) (ci := 11) (v := .ref q36) (ty := (.array .int)) hx hb hts hiX12 tyX12 tyX12_ok nmX12 hown hK hw hS 0 rfl rfl 48 (by decide) (hts (.fieldLink RX12 117 "BeardPassModel" "marked" "[I") (by decide +kernel)) (fun _ h9 => h9) rfl hname rfl (by decide +kernel) rfl rfl (Nat.le_of_ble_eq_true rfl) dX12_init_291 [(h0, .inr (11, [.int 0, .int 0, .ref q1, .int 0, .int 0, .int 0, .int 0, .long 0, .int 0, .int 0, .ref q2, .ref q3, .ref q4, .ref q5, .ref q6, .ref q7, .ref q8, .ref q9, .ref q10, .ref q11, .ref q12, .ref q13, .int 0, .int 0, .ref q14, .ref q15, .ref q16, .ref q17, .ref q18, .ref q19, .ref q20, .ref q21, .ref q22, .ref q23, .ref q24, .ref q25, .int 0, .long 0, .ref q26, .ref q27, .ref q28, .ref q29, .ref q30, .ref q31, .ref q32, .ref q33, .ref q34, .ref q35, .ref q36, .null, .null, .int 0, .int 0, .null, .long 0, .int 0, .int 0])), (q1, .inl (ct 0, 1000, .inl (fun _ => 0))), (q2, .inl (ct 0, 8, .inl (fun _ => 0))), (q3, .inl (ct 1, 12, .inr (.inl (fun _ => 0)))), (q4, .inl (ct 1, 12, .inr (.inl (fun _ => 0)))), (q5, .inl (ct 0, 12, .inl (fun _ => 0))), (q6, .inl (ct 0, 12, .inl (fun _ => 0))), (q7, .inl (ct 0, 12, .inl (fun _ => 0))), (q8, .inl (ct 0, 12, .inl (fun _ => 0))), (q9, .inl (ct 0, 12, .inl (fun _ => 0))), (q10, .inl (ct 0, 12, .inl (fun _ => 0))), (q11, .inl (ct 0, 2, .inl (fun _ => 0))), (q12, .inl (ct 0, 2, .inl (fun _ => 0))), (q13, .inl (ct 0, 2000, .inl (fun _ => 0))), (q14, .inl (ct 0, 7, .inl (fun _ => 0))), (q15, .inl (ct 3, 7, .inl (fun _ => 0))), (q16, .inl (ct 0, 7, .inl (fun _ => 0))), (q17, .inl (ct 0, 7, .inl (fun _ => 0))), (q18, .inl (ct 0, 7, .inl (fun _ => 0))), (q19, .inl (ct 0, 7, .inl (fun _ => 0))), (q20, .inl (ct 0, 7, .inl (fun _ => 0))), (q21, .inl (ct 0, 7, .inl (fun _ => 0))), (q22, .inl (ct 0, 7, .inl (fun _ => 0))), (q23, .inl (ct 0, 7, .inl (fun _ => 0))), (q24, .inl (ct 0, 7, .inl (fun _ => 0))), (q25, .inl (ct 0, 20, .inl (fun _ => 0))), (q26, .inl (ct 0, 6, .inl (fun _ => 0))), (q27, .inl (ct 0, 240, .inl (fun _ => 0))), (q28, .inl (ct 0, 240, .inl (fun _ => 0))), (q29, .inl (ct 0, 240, .inl (fun _ => 0))), (q30, .inl (ct 0, 5, .inl (fun _ => 0))), (q31, .inl (ct 0, 40, .inl (fun _ => 0))), (q32, .inl (ct 3, 40, .inl (fun _ => 0))), (q33, .inl (ct 0, 31, .inl (fun _ => 0))), (q34, .inl (ct 0, 31, .inl (fun _ => 0))), (q35, .inl (ct 0, 31, .inl (fun _ => 0))), (q36, .inl (ct 0, 124, .inl (fun _ => 0)))] rfl (fun H locs hw hS => ?_)
  refine lv_aload_n hx hb dX12_init_294 rfl (lv_at hl 0 rfl) ?_
  refine lv_sipush (v := 496) hx hb dX12_init_295 (by decide) ?_
  refine znewa (atype := .int) hx hb (hts (.arrayClass .int) (by decide +kernel)) 0 rfl hK hw hS hA 496 (496, .inl (fun _ => 0)) (fun _ => rfl) (by decide) (by decide) (by decide) (Nat.le_of_ble_eq_true rfl) (Nat.le_of_ble_eq_true rfl) dX12_init_298 (fun q37 H hw hS => ?_)
  refine zputF (D := D) (ci := 11) (v := .ref q37) (ty := (.array .int)) hx hb hts hiX12 tyX12 tyX12_ok nmX12 hown hK hw hS 0 rfl rfl 49 (by decide) (hts (.fieldLink RX12 120 "BeardPassModel" "undone" "[I") (by decide +kernel)) (fun _ h9 => h9) rfl hname rfl (by decide +kernel) rfl rfl (Nat.le_of_ble_eq_true rfl) dX12_init_300 [(h0, .inr (11, [.int 0, .int 0, .ref q1, .int 0, .int 0, .int 0, .int 0, .long 0, .int 0, .int 0, .ref q2, .ref q3, .ref q4, .ref q5, .ref q6, .ref q7, .ref q8, .ref q9, .ref q10, .ref q11, .ref q12, .ref q13, .int 0, .int 0, .ref q14, .ref q15, .ref q16, .ref q17, .ref q18, .ref q19, .ref q20, .ref q21, .ref q22, .ref q23, .ref q24, .ref q25, .int 0, .long 0, .ref q26, .ref q27, .ref q28, .ref q29, .ref q30, .ref q31, .ref q32, .ref q33, .ref q34, .ref q35, .ref q36, .ref q37, .null, .int 0, .int 0, .null, .long 0, .int 0, .int 0])), (q1, .inl (ct 0, 1000, .inl (fun _ => 0))), (q2, .inl (ct 0, 8, .inl (fun _ => 0))), (q3, .inl (ct 1, 12, .inr (.inl (fun _ => 0)))), (q4, .inl (ct 1, 12, .inr (.inl (fun _ => 0)))), (q5, .inl (ct 0, 12, .inl (fun _ => 0))), (q6, .inl (ct 0, 12, .inl (fun _ => 0))), (q7, .inl (ct 0, 12, .inl (fun _ => 0))), (q8, .inl (ct 0, 12, .inl (fun _ => 0))), (q9, .inl (ct 0, 12, .inl (fun _ => 0))), (q10, .inl (ct 0, 12, .inl (fun _ => 0))), (q11, .inl (ct 0, 2, .inl (fun _ => 0))), (q12, .inl (ct 0, 2, .inl (fun _ => 0))), (q13, .inl (ct 0, 2000, .inl (fun _ => 0))), (q14, .inl (ct 0, 7, .inl (fun _ => 0))), (q15, .inl (ct 3, 7, .inl (fun _ => 0))), (q16, .inl (ct 0, 7, .inl (fun _ => 0))), (q17, .inl (ct 0, 7, .inl (fun _ => 0))), (q18, .inl (ct 0, 7, .inl (fun _ => 0))), (q19, .inl (ct 0, 7, .inl (fun _ => 0))), (q20, .inl (ct 0, 7, .inl (fun _ => 0))), (q21, .inl (ct 0, 7, .inl (fun _ => 0))), (q22, .inl (ct 0, 7, .inl (fun _ => 0))), (q23, .inl (ct 0, 7, .inl (fun _ => 0))), (q24, .inl (ct 0, 7, .inl (fun _ => 0))), (q25, .inl (ct 0, 20, .inl (fun _ => 0))), (q26, .inl (ct 0, 6, .inl (fun _ => 0))), (q27, .inl (ct 0, 240, .inl (fun _ => 0))), (q28, .inl (ct 0, 240, .inl (fun _ => 0))), (q29, .inl (ct 0, 240, .inl (fun _ => 0))), (q30, .inl (ct 0, 5, .inl (fun _ => 0))), (q31, .inl (ct 0, 40, .inl (fun _ => 0))), (q32, .inl (ct 3, 40, .inl (fun _ => 0))), (q33, .inl (ct 0, 31, .inl (fun _ => 0))), (q34, .inl (ct 0, 31, .inl (fun _ => 0))), (q35, .inl (ct 0, 31, .inl (fun _ => 0))), (q36, .inl (ct 0, 124, .inl (fun _ => 0))), (q37, .inl (ct 0, 496, .inl (fun _ => 0)))] rfl (fun H locs hw hS => ?_)
  refine lv_aload_n hx hb dX12_init_303 rfl (lv_at hl 0 rfl) ?_
  refine lv_iconst (v := 4) hx hb dX12_init_304 (by decide) ?_
  refine znewa (atype := .boolean) hx hb (hts (.arrayClass .boolean) (by decide +kernel)) 3 rfl hK hw hS hA 4 (4, .inl (fun _ => 0)) (fun _ => rfl) (by decide) (by decide) (by decide) (Nat.le_of_ble_eq_true rfl) (Nat.le_of_ble_eq_true rfl) dX12_init_305 (fun q38 H hw hS => ?_)
  refine zputF (D := D) (ci := 11) (v := .ref q38) (ty := (.array .boolean)) hx hb hts hiX12 tyX12 tyX12_ok nmX12 hown hK hw hS 0 rfl rfl 50 (by decide) (hts (.fieldLink RX12 123 "BeardPassModel" "isLaid" "[Z") (by decide +kernel)) (fun _ h9 => h9) rfl hname rfl (by decide +kernel) rfl rfl (Nat.le_of_ble_eq_true rfl) dX12_init_307 [(h0, .inr (11, [.int 0, .int 0, .ref q1, .int 0, .int 0, .int 0, .int 0, .long 0, .int 0, .int 0, .ref q2, .ref q3, .ref q4, .ref q5, .ref q6, .ref q7, .ref q8, .ref q9, .ref q10, .ref q11, .ref q12, .ref q13, .int 0, .int 0, .ref q14, .ref q15, .ref q16, .ref q17, .ref q18, .ref q19, .ref q20, .ref q21, .ref q22, .ref q23, .ref q24, .ref q25, .int 0, .long 0, .ref q26, .ref q27, .ref q28, .ref q29, .ref q30, .ref q31, .ref q32, .ref q33, .ref q34, .ref q35, .ref q36, .ref q37, .ref q38, .int 0, .int 0, .null, .long 0, .int 0, .int 0])), (q1, .inl (ct 0, 1000, .inl (fun _ => 0))), (q2, .inl (ct 0, 8, .inl (fun _ => 0))), (q3, .inl (ct 1, 12, .inr (.inl (fun _ => 0)))), (q4, .inl (ct 1, 12, .inr (.inl (fun _ => 0)))), (q5, .inl (ct 0, 12, .inl (fun _ => 0))), (q6, .inl (ct 0, 12, .inl (fun _ => 0))), (q7, .inl (ct 0, 12, .inl (fun _ => 0))), (q8, .inl (ct 0, 12, .inl (fun _ => 0))), (q9, .inl (ct 0, 12, .inl (fun _ => 0))), (q10, .inl (ct 0, 12, .inl (fun _ => 0))), (q11, .inl (ct 0, 2, .inl (fun _ => 0))), (q12, .inl (ct 0, 2, .inl (fun _ => 0))), (q13, .inl (ct 0, 2000, .inl (fun _ => 0))), (q14, .inl (ct 0, 7, .inl (fun _ => 0))), (q15, .inl (ct 3, 7, .inl (fun _ => 0))), (q16, .inl (ct 0, 7, .inl (fun _ => 0))), (q17, .inl (ct 0, 7, .inl (fun _ => 0))), (q18, .inl (ct 0, 7, .inl (fun _ => 0))), (q19, .inl (ct 0, 7, .inl (fun _ => 0))), (q20, .inl (ct 0, 7, .inl (fun _ => 0))), (q21, .inl (ct 0, 7, .inl (fun _ => 0))), (q22, .inl (ct 0, 7, .inl (fun _ => 0))), (q23, .inl (ct 0, 7, .inl (fun _ => 0))), (q24, .inl (ct 0, 7, .inl (fun _ => 0))), (q25, .inl (ct 0, 20, .inl (fun _ => 0))), (q26, .inl (ct 0, 6, .inl (fun _ => 0))), (q27, .inl (ct 0, 240, .inl (fun _ => 0))), (q28, .inl (ct 0, 240, .inl (fun _ => 0))), (q29, .inl (ct 0, 240, .inl (fun _ => 0))), (q30, .inl (ct 0, 5, .inl (fun _ => 0))), (q31, .inl (ct 0, 40, .inl (fun _ => 0))), (q32, .inl (ct 3, 40, .inl (fun _ => 0))), (q33, .inl (ct 0, 31, .inl (fun _ => 0))), (q34, .inl (ct 0, 31, .inl (fun _ => 0))), (q35, .inl (ct 0, 31, .inl (fun _ => 0))), (q36, .inl (ct 0, 124, .inl (fun _ => 0))), (q37, .inl (ct 0, 496, .inl (fun _ => 0))), (q38, .inl (ct 3, 4, .inl (fun _ => 0)))] rfl (fun H locs hw hS => ?_)
  refine lv_aload_n hx hb dX12_init_310 rfl (lv_at hl 0 rfl) ?_
  refine lv_sipush (v := 384) hx hb dX12_init_311 (by decide) ?_
  refine znewa (atype := .boolean) hx hb (hts (.arrayClass .boolean) (by decide +kernel)) 3 rfl hK hw hS hA 384 (384, .inl (fun _ => 0)) (fun _ => rfl) (by decide) (by decide) (by decide) (Nat.le_of_ble_eq_true rfl) (Nat.le_of_ble_eq_true rfl) dX12_init_314 (fun q39 H hw hS => ?_)
  refine zputF (D := D) (ci := 11) (v := .ref q39) (ty := (.array .boolean)) hx hb hts hiX12 tyX12 tyX12_ok nmX12 hown hK hw hS 0 rfl rfl 53 (by decide) (hts (.fieldLink RX12 126 "BeardPassModel" "stands" "[Z") (by decide +kernel)) (fun _ h9 => h9) rfl hname rfl (by decide +kernel) rfl rfl (Nat.le_of_ble_eq_true rfl) dX12_init_316 [(h0, .inr (11, [.int 0, .int 0, .ref q1, .int 0, .int 0, .int 0, .int 0, .long 0, .int 0, .int 0, .ref q2, .ref q3, .ref q4, .ref q5, .ref q6, .ref q7, .ref q8, .ref q9, .ref q10, .ref q11, .ref q12, .ref q13, .int 0, .int 0, .ref q14, .ref q15, .ref q16, .ref q17, .ref q18, .ref q19, .ref q20, .ref q21, .ref q22, .ref q23, .ref q24, .ref q25, .int 0, .long 0, .ref q26, .ref q27, .ref q28, .ref q29, .ref q30, .ref q31, .ref q32, .ref q33, .ref q34, .ref q35, .ref q36, .ref q37, .ref q38, .int 0, .int 0, .ref q39, .long 0, .int 0, .int 0])), (q1, .inl (ct 0, 1000, .inl (fun _ => 0))), (q2, .inl (ct 0, 8, .inl (fun _ => 0))), (q3, .inl (ct 1, 12, .inr (.inl (fun _ => 0)))), (q4, .inl (ct 1, 12, .inr (.inl (fun _ => 0)))), (q5, .inl (ct 0, 12, .inl (fun _ => 0))), (q6, .inl (ct 0, 12, .inl (fun _ => 0))), (q7, .inl (ct 0, 12, .inl (fun _ => 0))), (q8, .inl (ct 0, 12, .inl (fun _ => 0))), (q9, .inl (ct 0, 12, .inl (fun _ => 0))), (q10, .inl (ct 0, 12, .inl (fun _ => 0))), (q11, .inl (ct 0, 2, .inl (fun _ => 0))), (q12, .inl (ct 0, 2, .inl (fun _ => 0))), (q13, .inl (ct 0, 2000, .inl (fun _ => 0))), (q14, .inl (ct 0, 7, .inl (fun _ => 0))), (q15, .inl (ct 3, 7, .inl (fun _ => 0))), (q16, .inl (ct 0, 7, .inl (fun _ => 0))), (q17, .inl (ct 0, 7, .inl (fun _ => 0))), (q18, .inl (ct 0, 7, .inl (fun _ => 0))), (q19, .inl (ct 0, 7, .inl (fun _ => 0))), (q20, .inl (ct 0, 7, .inl (fun _ => 0))), (q21, .inl (ct 0, 7, .inl (fun _ => 0))), (q22, .inl (ct 0, 7, .inl (fun _ => 0))), (q23, .inl (ct 0, 7, .inl (fun _ => 0))), (q24, .inl (ct 0, 7, .inl (fun _ => 0))), (q25, .inl (ct 0, 20, .inl (fun _ => 0))), (q26, .inl (ct 0, 6, .inl (fun _ => 0))), (q27, .inl (ct 0, 240, .inl (fun _ => 0))), (q28, .inl (ct 0, 240, .inl (fun _ => 0))), (q29, .inl (ct 0, 240, .inl (fun _ => 0))), (q30, .inl (ct 0, 5, .inl (fun _ => 0))), (q31, .inl (ct 0, 40, .inl (fun _ => 0))), (q32, .inl (ct 3, 40, .inl (fun _ => 0))), (q33, .inl (ct 0, 31, .inl (fun _ => 0))), (q34, .inl (ct 0, 31, .inl (fun _ => 0))), (q35, .inl (ct 0, 31, .inl (fun _ => 0))), (q36, .inl (ct 0, 124, .inl (fun _ => 0))), (q37, .inl (ct 0, 496, .inl (fun _ => 0))), (q38, .inl (ct 3, 4, .inl (fun _ => 0))), (q39, .inl (ct 3, 384, .inl (fun _ => 0)))] rfl (fun H locs hw hS => ?_)
  refine lv_aload_n hx hb dX12_init_319 rfl (lv_at hl 0 rfl) ?_
  refine va_get (D := D) (ci := 11) (v := .ref q2) hx hb hts hiX12 hown hK hw.1 0 rfl rfl 10 (by decide) (hts (.fieldLink RX12 13 "BeardPassModel" "land" "[I") (by decide +kernel)) (fun _ h9 => h9) rfl dX12_init_320 ?_
  refine lv_iconst (v := 2) hx hb dX12_init_323 (by decide) ?_
  refine lv_iconst (v := 1) hx hb dX12_init_324 (by decide) ?_
  refine ziast hx hb hK hw hS 2 rfl 2 (by decide) (by decide) (by decide) dX12_init_325 [(h0, .inr (11, [.int 0, .int 0, .ref q1, .int 0, .int 0, .int 0, .int 0, .long 0, .int 0, .int 0, .ref q2, .ref q3, .ref q4, .ref q5, .ref q6, .ref q7, .ref q8, .ref q9, .ref q10, .ref q11, .ref q12, .ref q13, .int 0, .int 0, .ref q14, .ref q15, .ref q16, .ref q17, .ref q18, .ref q19, .ref q20, .ref q21, .ref q22, .ref q23, .ref q24, .ref q25, .int 0, .long 0, .ref q26, .ref q27, .ref q28, .ref q29, .ref q30, .ref q31, .ref q32, .ref q33, .ref q34, .ref q35, .ref q36, .ref q37, .ref q38, .int 0, .int 0, .ref q39, .long 0, .int 0, .int 0])), (q1, .inl (ct 0, 1000, .inl (fun _ => 0))), (q2, .inl (ct 0, 8, .inl (upd (fun _ => 0) 2 1))), (q3, .inl (ct 1, 12, .inr (.inl (fun _ => 0)))), (q4, .inl (ct 1, 12, .inr (.inl (fun _ => 0)))), (q5, .inl (ct 0, 12, .inl (fun _ => 0))), (q6, .inl (ct 0, 12, .inl (fun _ => 0))), (q7, .inl (ct 0, 12, .inl (fun _ => 0))), (q8, .inl (ct 0, 12, .inl (fun _ => 0))), (q9, .inl (ct 0, 12, .inl (fun _ => 0))), (q10, .inl (ct 0, 12, .inl (fun _ => 0))), (q11, .inl (ct 0, 2, .inl (fun _ => 0))), (q12, .inl (ct 0, 2, .inl (fun _ => 0))), (q13, .inl (ct 0, 2000, .inl (fun _ => 0))), (q14, .inl (ct 0, 7, .inl (fun _ => 0))), (q15, .inl (ct 3, 7, .inl (fun _ => 0))), (q16, .inl (ct 0, 7, .inl (fun _ => 0))), (q17, .inl (ct 0, 7, .inl (fun _ => 0))), (q18, .inl (ct 0, 7, .inl (fun _ => 0))), (q19, .inl (ct 0, 7, .inl (fun _ => 0))), (q20, .inl (ct 0, 7, .inl (fun _ => 0))), (q21, .inl (ct 0, 7, .inl (fun _ => 0))), (q22, .inl (ct 0, 7, .inl (fun _ => 0))), (q23, .inl (ct 0, 7, .inl (fun _ => 0))), (q24, .inl (ct 0, 7, .inl (fun _ => 0))), (q25, .inl (ct 0, 20, .inl (fun _ => 0))), (q26, .inl (ct 0, 6, .inl (fun _ => 0))), (q27, .inl (ct 0, 240, .inl (fun _ => 0))), (q28, .inl (ct 0, 240, .inl (fun _ => 0))), (q29, .inl (ct 0, 240, .inl (fun _ => 0))), (q30, .inl (ct 0, 5, .inl (fun _ => 0))), (q31, .inl (ct 0, 40, .inl (fun _ => 0))), (q32, .inl (ct 3, 40, .inl (fun _ => 0))), (q33, .inl (ct 0, 31, .inl (fun _ => 0))), (q34, .inl (ct 0, 31, .inl (fun _ => 0))), (q35, .inl (ct 0, 31, .inl (fun _ => 0))), (q36, .inl (ct 0, 124, .inl (fun _ => 0))), (q37, .inl (ct 0, 496, .inl (fun _ => 0))), (q38, .inl (ct 3, 4, .inl (fun _ => 0))), (q39, .inl (ct 3, 384, .inl (fun _ => 0)))] rfl (fun H locs hw hS => ?_)
  refine lv_aload_n hx hb dX12_init_326 rfl (lv_at hl 0 rfl) ?_
  refine va_get (D := D) (ci := 11) (v := .ref q2) hx hb hts hiX12 hown hK hw.1 0 rfl rfl 10 (by decide) (hts (.fieldLink RX12 13 "BeardPassModel" "land" "[I") (by decide +kernel)) (fun _ h9 => h9) rfl dX12_init_327 ?_
  refine lv_iconst (v := 3) hx hb dX12_init_330 (by decide) ?_
  refine lv_iconst (v := 2) hx hb dX12_init_331 (by decide) ?_
  refine ziast hx hb hK hw hS 2 rfl 3 (by decide) (by decide) (by decide) dX12_init_332 [(h0, .inr (11, [.int 0, .int 0, .ref q1, .int 0, .int 0, .int 0, .int 0, .long 0, .int 0, .int 0, .ref q2, .ref q3, .ref q4, .ref q5, .ref q6, .ref q7, .ref q8, .ref q9, .ref q10, .ref q11, .ref q12, .ref q13, .int 0, .int 0, .ref q14, .ref q15, .ref q16, .ref q17, .ref q18, .ref q19, .ref q20, .ref q21, .ref q22, .ref q23, .ref q24, .ref q25, .int 0, .long 0, .ref q26, .ref q27, .ref q28, .ref q29, .ref q30, .ref q31, .ref q32, .ref q33, .ref q34, .ref q35, .ref q36, .ref q37, .ref q38, .int 0, .int 0, .ref q39, .long 0, .int 0, .int 0])), (q1, .inl (ct 0, 1000, .inl (fun _ => 0))), (q2, .inl (ct 0, 8, .inl (upd (upd (fun _ => 0) 2 1) 3 2))), (q3, .inl (ct 1, 12, .inr (.inl (fun _ => 0)))), (q4, .inl (ct 1, 12, .inr (.inl (fun _ => 0)))), (q5, .inl (ct 0, 12, .inl (fun _ => 0))), (q6, .inl (ct 0, 12, .inl (fun _ => 0))), (q7, .inl (ct 0, 12, .inl (fun _ => 0))), (q8, .inl (ct 0, 12, .inl (fun _ => 0))), (q9, .inl (ct 0, 12, .inl (fun _ => 0))), (q10, .inl (ct 0, 12, .inl (fun _ => 0))), (q11, .inl (ct 0, 2, .inl (fun _ => 0))), (q12, .inl (ct 0, 2, .inl (fun _ => 0))), (q13, .inl (ct 0, 2000, .inl (fun _ => 0))), (q14, .inl (ct 0, 7, .inl (fun _ => 0))), (q15, .inl (ct 3, 7, .inl (fun _ => 0))), (q16, .inl (ct 0, 7, .inl (fun _ => 0))), (q17, .inl (ct 0, 7, .inl (fun _ => 0))), (q18, .inl (ct 0, 7, .inl (fun _ => 0))), (q19, .inl (ct 0, 7, .inl (fun _ => 0))), (q20, .inl (ct 0, 7, .inl (fun _ => 0))), (q21, .inl (ct 0, 7, .inl (fun _ => 0))), (q22, .inl (ct 0, 7, .inl (fun _ => 0))), (q23, .inl (ct 0, 7, .inl (fun _ => 0))), (q24, .inl (ct 0, 7, .inl (fun _ => 0))), (q25, .inl (ct 0, 20, .inl (fun _ => 0))), (q26, .inl (ct 0, 6, .inl (fun _ => 0))), (q27, .inl (ct 0, 240, .inl (fun _ => 0))), (q28, .inl (ct 0, 240, .inl (fun _ => 0))), (q29, .inl (ct 0, 240, .inl (fun _ => 0))), (q30, .inl (ct 0, 5, .inl (fun _ => 0))), (q31, .inl (ct 0, 40, .inl (fun _ => 0))), (q32, .inl (ct 3, 40, .inl (fun _ => 0))), (q33, .inl (ct 0, 31, .inl (fun _ => 0))), (q34, .inl (ct 0, 31, .inl (fun _ => 0))), (q35, .inl (ct 0, 31, .inl (fun _ => 0))), (q36, .inl (ct 0, 124, .inl (fun _ => 0))), (q37, .inl (ct 0, 496, .inl (fun _ => 0))), (q38, .inl (ct 3, 4, .inl (fun _ => 0))), (q39, .inl (ct 3, 384, .inl (fun _ => 0)))] rfl (fun H locs hw hS => ?_)
  exact zvret hx hb hr hlocks (fun j => ([q1, q2, q3, q4, q5, q6, q7, q8, q9, q10, q11, q12, q13, q14, q15, q16, q17, q18, q19, q20, q21, q22, q23, q24, q25, q26, q27, q28, q29, q30, q31, q32, q33, q34, q35, q36, q37, q38, q39] : List Nat).getD j 0) rfl (trivial) hw [0, 1, 2, 3, 4, 5, 6, 7, 8, 9, 10, 11, 12, 13, 14, 15, 16, 17, 18, 19, 20, 21, 22, 23, 24, 25, 26, 27, 28, 29, 30, 31, 32, 33, 34, 35, 36, 37, 38, 39] rfl (rfl) hS (Nat.le_of_ble_eq_true rfl) (Nat.le_of_ble_eq_true rfl) dX12_init_333
section
section SCV
variable {p : Program} {l : Launch} {e : Env} {R : Room} {s : State} {m : MethodId} {args : Array Value} {below : List Frame} {meth : Method} {c : Code} {H : Heap} {locs : List Loc} {cells slots : Nat} {Q : State → Prop}
variable {cc : ByteArray} {pc : Nat} {ls : Array Slot} {rest st0 : List Value} {D : va_G} {ct : Nat → ClassId} {A : Nat → Prop}
variable {wl : va_W}
theorem zrg (wl : va_W) : (List.range wl.length).map (fun i => wl[i]?) = wl.map some := by
  apply List.ext_getElem?
  intro k
  rw [List.getElem?_map, List.getElem?_map]
  by_cases h : k < wl.length
  · simp [h]
  · rw [List.getElem?_eq_none (by simpa using h), List.getElem?_eq_none (by simpa using h)]; rfl
theorem scall0 {S : Type} {rv : S → Option Value} {post : S → Prop} {y0 : MethodName} {bytes : ByteArray} {maxL nL n index : Nat} {ret : Option FieldType} {wt : List Cond} {rm : Room} {Ts : List Cond} {own : String} {As : List Value} (fx : CallFix p m c cc nL s args Ts own) (hM : zC l y0 wt rm D ct [] As [] rv post (fun _ => []) 0 0) (cw : CallB R s args own index y0 bytes maxL ret wt rm 0 0 n ∧ (Cond.static y0).before args s = true) (hw : zPD D A wl H) (hS : va_S A s.heap H locs) (hA : ∀ q, s.heap.size ≤ q → A q) (hK : va_K D vwCl (zT ct) s) (hN : zN s) (hn0 : va_nd (List.range wl.length) = true) (hn : As.length = n) (hsize : ls.size = nL) (hstack : st0 = As.reverse ++ rest) (hW : (rest.map fun v => v.category).sum ≤ 8) (hdg : decode cc pc = .ok (.invokestatic index, 3))
    (kk : ∀ (u : S) (H1 : Heap) (locs1 : List Loc), post u → zPD D A wl H1 → va_S A s.heap H1 locs1 → W p l e R s m args below meth c H1 locs1 0 0 Q (F0 m (pc + 3) ls ((rv u).toList ++ rest))) : W p l e R s m args below meth c H locs 0 0 Q (F0 m pc ls st0) := by
  refine zcall (wr := wl) (va_runS fx (hM H.size) cw (zpreS hK hw hS hA zZ.nil hN [] rfl rfl) rfl hn hsize hstack (lv_room hW) hdg ⟨Nat.zero_le _, Nat.zero_le _⟩) hw hS hA [] (List.range wl.length) rfl (zrg wl) hn0 (fun _ _ h => nomatch h) (fun u H1 l1 hp hz hs => kk u H1 l1 hp ?_ hs)
  rw [List.append_nil] at hz
  exact hz
theorem scallE {S : Type} {rv : S → Option Value} {post : S → Prop} {y0 : MethodName} {bytes : ByteArray} {maxL nL n index : Nat} {ret : Option FieldType} {wt : List Cond} {rm : Room} {Ts : List Cond} {own : String} {As : List Value} (fx : CallFix p m c cc nL s args Ts own) (hM : zC l y0 wt rm D ct [] As [] rv post (fun _ => []) 0 0) (cw : CallB R s args own index y0 bytes maxL ret wt rm 0 0 n ∧ (Cond.static y0).before args s = true) (hw : zPD D A wl H) (hS : va_S A s.heap H locs) (hA : ∀ q, s.heap.size ≤ q → A q) (hK : va_K D vwCl (zT ct) s) (hN : zN s) (hn0 : va_nd (List.range wl.length) = true) (hn : As.length = n) (hsize : ls.size = nL) (hstack : st0 = As.reverse ++ rest) (hW : (rest.map fun v => v.category).sum ≤ 8) (hdg : decode cc pc = .ok (.invokestatic index, 3)) (pc2 : Nat) (h2 : pc + 3 = pc2)
    (kk : ∀ (u : S) (H1 : Heap) (locs1 : List Loc), post u → zPD D A wl H1 → va_S A s.heap H1 locs1 → W p l e R s m args below meth c H1 locs1 0 0 Q (F0 m pc2 ls ((rv u).toList ++ rest))) : W p l e R s m args below meth c H locs 0 0 Q (F0 m pc ls st0) := by
  subst h2
  exact scall0 fx hM cw hw hS hA hK hN hn0 hn hsize hstack hW hdg kk
end SCV
end
theorem zg08d00_dec_0 : zCj cX12_within [(0, .iload_n 0, 1), (1, .iload_n 1, 1), (2, .if_icmp .lt 12, 3), (5, .iload_n 0, 1), (6, .iload_n 2, 1), (7, .if_icmp .gt 7, 3), (10, .iconst 1, 1), (11, .goto 4, 3), (14, .iconst 0, 1), (15, .ireturn, 1)] := zCo _ 0 (by decide +kernel)
theorem dX12_within_0 : decode cX12_within 0 = .ok (.iload_n 0, 1) := zc1 zg08d00_dec_0
theorem dX12_within_1 : decode cX12_within 1 = .ok (.iload_n 1, 1) := zc1 (zc2 zg08d00_dec_0)
theorem dX12_within_2 : decode cX12_within 2 = .ok (.if_icmp .lt 12, 3) := zc1 (zc2 (zc2 zg08d00_dec_0))
theorem dX12_within_5 : decode cX12_within 5 = .ok (.iload_n 0, 1) := zc1 (zc2 (zc2 (zc2 zg08d00_dec_0)))
theorem dX12_within_6 : decode cX12_within 6 = .ok (.iload_n 2, 1) := zc1 (zc2 (zc2 (zc2 (zc2 zg08d00_dec_0))))
theorem dX12_within_7 : decode cX12_within 7 = .ok (.if_icmp .gt 7, 3) := zc1 (zc2 (zc2 (zc2 (zc2 (zc2 zg08d00_dec_0)))))
theorem dX12_within_10 : decode cX12_within 10 = .ok (.iconst 1, 1) := zc1 (zc2 (zc2 (zc2 (zc2 (zc2 (zc2 zg08d00_dec_0))))))
theorem dX12_within_11 : decode cX12_within 11 = .ok (.goto 4, 3) := zc1 (zc2 (zc2 (zc2 (zc2 (zc2 (zc2 (zc2 zg08d00_dec_0)))))))
theorem dX12_within_14 : decode cX12_within 14 = .ok (.iconst 0, 1) := zc1 (zc2 (zc2 (zc2 (zc2 (zc2 (zc2 (zc2 (zc2 zg08d00_dec_0))))))))
theorem dX12_within_15 : decode cX12_within 15 = .ok (.ireturn, 1) := zc1 (zc2 (zc2 (zc2 (zc2 (zc2 (zc2 (zc2 (zc2 (zc2 zg08d00_dec_0)))))))))
theorem zg08d00_dec_1 : zCj cX12_bits [(0, .iconst 0, 1), (1, .istore_n 1, 1), (2, .iconst 0, 1), (3, .istore_n 2, 1), (4, .iload_n 2, 1), (5, .bipush 6, 2), (7, .if_icmp .ge 17, 3), (10, .iload_n 1, 1), (11, .iload_n 0, 1), (12, .iload_n 2, 1)] := zCo _ 0 (by decide +kernel)
theorem dX12_bits_0 : decode cX12_bits 0 = .ok (.iconst 0, 1) := zc1 zg08d00_dec_1
theorem dX12_bits_1 : decode cX12_bits 1 = .ok (.istore_n 1, 1) := zc1 (zc2 zg08d00_dec_1)
theorem dX12_bits_2 : decode cX12_bits 2 = .ok (.iconst 0, 1) := zc1 (zc2 (zc2 zg08d00_dec_1))
theorem dX12_bits_3 : decode cX12_bits 3 = .ok (.istore_n 2, 1) := zc1 (zc2 (zc2 (zc2 zg08d00_dec_1)))
theorem dX12_bits_4 : decode cX12_bits 4 = .ok (.iload_n 2, 1) := zc1 (zc2 (zc2 (zc2 (zc2 zg08d00_dec_1))))
theorem dX12_bits_5 : decode cX12_bits 5 = .ok (.bipush 6, 2) := zc1 (zc2 (zc2 (zc2 (zc2 (zc2 zg08d00_dec_1)))))
theorem dX12_bits_7 : decode cX12_bits 7 = .ok (.if_icmp .ge 17, 3) := zc1 (zc2 (zc2 (zc2 (zc2 (zc2 (zc2 zg08d00_dec_1))))))
theorem dX12_bits_10 : decode cX12_bits 10 = .ok (.iload_n 1, 1) := zc1 (zc2 (zc2 (zc2 (zc2 (zc2 (zc2 (zc2 zg08d00_dec_1)))))))
theorem dX12_bits_11 : decode cX12_bits 11 = .ok (.iload_n 0, 1) := zc1 (zc2 (zc2 (zc2 (zc2 (zc2 (zc2 (zc2 (zc2 zg08d00_dec_1))))))))
theorem dX12_bits_12 : decode cX12_bits 12 = .ok (.iload_n 2, 1) := zc1 (zc2 (zc2 (zc2 (zc2 (zc2 (zc2 (zc2 (zc2 (zc2 zg08d00_dec_1)))))))))
theorem zg08d00_dec_2 : zCj cX12_bits [(13, .ishr, 1), (14, .iconst 1, 1), (15, .iand, 1), (16, .iadd, 1), (17, .istore_n 1, 1), (18, .iinc 2 1, 3), (21, .goto (-17), 3), (24, .iload_n 1, 1), (25, .ireturn, 1)] := zCo _ 13 (by decide +kernel)
theorem dX12_bits_13 : decode cX12_bits 13 = .ok (.ishr, 1) := zc1 zg08d00_dec_2
theorem dX12_bits_14 : decode cX12_bits 14 = .ok (.iconst 1, 1) := zc1 (zc2 zg08d00_dec_2)
theorem dX12_bits_15 : decode cX12_bits 15 = .ok (.iand, 1) := zc1 (zc2 (zc2 zg08d00_dec_2))
theorem dX12_bits_16 : decode cX12_bits 16 = .ok (.iadd, 1) := zc1 (zc2 (zc2 (zc2 zg08d00_dec_2)))
theorem dX12_bits_17 : decode cX12_bits 17 = .ok (.istore_n 1, 1) := zc1 (zc2 (zc2 (zc2 (zc2 zg08d00_dec_2))))
theorem dX12_bits_18 : decode cX12_bits 18 = .ok (.iinc 2 1, 3) := zc1 (zc2 (zc2 (zc2 (zc2 (zc2 zg08d00_dec_2)))))
theorem dX12_bits_21 : decode cX12_bits 21 = .ok (.goto (-17), 3) := zc1 (zc2 (zc2 (zc2 (zc2 (zc2 (zc2 zg08d00_dec_2))))))
theorem dX12_bits_24 : decode cX12_bits 24 = .ok (.iload_n 1, 1) := zc1 (zc2 (zc2 (zc2 (zc2 (zc2 (zc2 (zc2 zg08d00_dec_2)))))))
theorem dX12_bits_25 : decode cX12_bits 25 = .ok (.ireturn, 1) := zc1 (zc2 (zc2 (zc2 (zc2 (zc2 (zc2 (zc2 (zc2 zg08d00_dec_2))))))))
theorem zg08d00_dec_3 : zCj cX12_feed [(0, .aload_n 0, 1), (1, .iconst 0, 1), (2, .putfield 129, 3), (5, .iconst 0, 1), (6, .istore 7, 2), (8, .iload 7, 2), (10, .bipush 24, 2), (12, .if_icmp .ge 108, 3), (15, .iload 7, 2), (17, .bipush 8, 2)] := zCo _ 0 (by decide +kernel)
theorem dX12_feed_0 : decode cX12_feed 0 = .ok (.aload_n 0, 1) := zc1 zg08d00_dec_3
theorem dX12_feed_1 : decode cX12_feed 1 = .ok (.iconst 0, 1) := zc1 (zc2 zg08d00_dec_3)
theorem dX12_feed_2 : decode cX12_feed 2 = .ok (.putfield 129, 3) := zc1 (zc2 (zc2 zg08d00_dec_3))
theorem dX12_feed_5 : decode cX12_feed 5 = .ok (.iconst 0, 1) := zc1 (zc2 (zc2 (zc2 zg08d00_dec_3)))
theorem dX12_feed_6 : decode cX12_feed 6 = .ok (.istore 7, 2) := zc1 (zc2 (zc2 (zc2 (zc2 zg08d00_dec_3))))
theorem dX12_feed_8 : decode cX12_feed 8 = .ok (.iload 7, 2) := zc1 (zc2 (zc2 (zc2 (zc2 (zc2 zg08d00_dec_3)))))
theorem dX12_feed_10 : decode cX12_feed 10 = .ok (.bipush 24, 2) := zc1 (zc2 (zc2 (zc2 (zc2 (zc2 (zc2 zg08d00_dec_3))))))
theorem dX12_feed_12 : decode cX12_feed 12 = .ok (.if_icmp .ge 108, 3) := zc1 (zc2 (zc2 (zc2 (zc2 (zc2 (zc2 (zc2 zg08d00_dec_3)))))))
theorem dX12_feed_15 : decode cX12_feed 15 = .ok (.iload 7, 2) := zc1 (zc2 (zc2 (zc2 (zc2 (zc2 (zc2 (zc2 (zc2 zg08d00_dec_3))))))))
theorem dX12_feed_17 : decode cX12_feed 17 = .ok (.bipush 8, 2) := zc1 (zc2 (zc2 (zc2 (zc2 (zc2 (zc2 (zc2 (zc2 (zc2 zg08d00_dec_3)))))))))
theorem zg08d00_dec_4 : zCj cX12_feed [(19, .if_icmp .ge 7, 3), (22, .lload_n 1, 1), (23, .goto 16, 3), (26, .iload 7, 2), (28, .bipush 16, 2), (30, .if_icmp .ge 7, 3), (33, .lload_n 3, 1), (34, .goto 5, 3), (37, .lload 5, 2), (39, .lstore 8, 2)] := zCo _ 19 (by decide +kernel)
theorem dX12_feed_19 : decode cX12_feed 19 = .ok (.if_icmp .ge 7, 3) := zc1 zg08d00_dec_4
theorem dX12_feed_22 : decode cX12_feed 22 = .ok (.lload_n 1, 1) := zc1 (zc2 zg08d00_dec_4)
theorem dX12_feed_23 : decode cX12_feed 23 = .ok (.goto 16, 3) := zc1 (zc2 (zc2 zg08d00_dec_4))
theorem dX12_feed_26 : decode cX12_feed 26 = .ok (.iload 7, 2) := zc1 (zc2 (zc2 (zc2 zg08d00_dec_4)))
theorem dX12_feed_28 : decode cX12_feed 28 = .ok (.bipush 16, 2) := zc1 (zc2 (zc2 (zc2 (zc2 zg08d00_dec_4))))
theorem dX12_feed_30 : decode cX12_feed 30 = .ok (.if_icmp .ge 7, 3) := zc1 (zc2 (zc2 (zc2 (zc2 (zc2 zg08d00_dec_4)))))
theorem dX12_feed_33 : decode cX12_feed 33 = .ok (.lload_n 3, 1) := zc1 (zc2 (zc2 (zc2 (zc2 (zc2 (zc2 zg08d00_dec_4))))))
theorem dX12_feed_34 : decode cX12_feed 34 = .ok (.goto 5, 3) := zc1 (zc2 (zc2 (zc2 (zc2 (zc2 (zc2 (zc2 zg08d00_dec_4)))))))
theorem dX12_feed_37 : decode cX12_feed 37 = .ok (.lload 5, 2) := zc1 (zc2 (zc2 (zc2 (zc2 (zc2 (zc2 (zc2 (zc2 zg08d00_dec_4))))))))
theorem dX12_feed_39 : decode cX12_feed 39 = .ok (.lstore 8, 2) := zc1 (zc2 (zc2 (zc2 (zc2 (zc2 (zc2 (zc2 (zc2 (zc2 zg08d00_dec_4)))))))))
theorem zg08d00_dec_5 : zCj cX12_feed [(41, .lload 8, 2), (43, .bipush 56, 2), (45, .bipush 8, 2), (47, .iload 7, 2), (49, .bipush 7, 2), (51, .iand, 1), (52, .imul, 1), (53, .isub, 1), (54, .lushr, 1), (55, .ldc2_w 133, 3)] := zCo _ 41 (by decide +kernel)
theorem dX12_feed_41 : decode cX12_feed 41 = .ok (.lload 8, 2) := zc1 zg08d00_dec_5
theorem dX12_feed_43 : decode cX12_feed 43 = .ok (.bipush 56, 2) := zc1 (zc2 zg08d00_dec_5)
theorem dX12_feed_45 : decode cX12_feed 45 = .ok (.bipush 8, 2) := zc1 (zc2 (zc2 zg08d00_dec_5))
theorem dX12_feed_47 : decode cX12_feed 47 = .ok (.iload 7, 2) := zc1 (zc2 (zc2 (zc2 zg08d00_dec_5)))
theorem dX12_feed_49 : decode cX12_feed 49 = .ok (.bipush 7, 2) := zc1 (zc2 (zc2 (zc2 (zc2 zg08d00_dec_5))))
theorem dX12_feed_51 : decode cX12_feed 51 = .ok (.iand, 1) := zc1 (zc2 (zc2 (zc2 (zc2 (zc2 zg08d00_dec_5)))))
theorem dX12_feed_52 : decode cX12_feed 52 = .ok (.imul, 1) := zc1 (zc2 (zc2 (zc2 (zc2 (zc2 (zc2 zg08d00_dec_5))))))
theorem dX12_feed_53 : decode cX12_feed 53 = .ok (.isub, 1) := zc1 (zc2 (zc2 (zc2 (zc2 (zc2 (zc2 (zc2 zg08d00_dec_5)))))))
theorem dX12_feed_54 : decode cX12_feed 54 = .ok (.lushr, 1) := zc1 (zc2 (zc2 (zc2 (zc2 (zc2 (zc2 (zc2 (zc2 zg08d00_dec_5))))))))
theorem dX12_feed_55 : decode cX12_feed 55 = .ok (.ldc2_w 133, 3) := zc1 (zc2 (zc2 (zc2 (zc2 (zc2 (zc2 (zc2 (zc2 (zc2 zg08d00_dec_5)))))))))
theorem zg08d00_dec_6 : zCj cX12_feed [(58, .land, 1), (59, .l2i, 1), (60, .istore 10, 2), (62, .aload_n 0, 1), (63, .getfield 135, 3), (66, .sipush 1000, 3), (69, .if_icmp .ge 45, 3), (72, .iload 10, 2), (74, .bipush 10, 2), (76, .if_icmp .eq 17, 3)] := zCo _ 58 (by decide +kernel)
theorem dX12_feed_58 : decode cX12_feed 58 = .ok (.land, 1) := zc1 zg08d00_dec_6
theorem dX12_feed_59 : decode cX12_feed 59 = .ok (.l2i, 1) := zc1 (zc2 zg08d00_dec_6)
theorem dX12_feed_60 : decode cX12_feed 60 = .ok (.istore 10, 2) := zc1 (zc2 (zc2 zg08d00_dec_6))
theorem dX12_feed_62 : decode cX12_feed 62 = .ok (.aload_n 0, 1) := zc1 (zc2 (zc2 (zc2 zg08d00_dec_6)))
theorem dX12_feed_63 : decode cX12_feed 63 = .ok (.getfield 135, 3) := zc1 (zc2 (zc2 (zc2 (zc2 zg08d00_dec_6))))
theorem dX12_feed_66 : decode cX12_feed 66 = .ok (.sipush 1000, 3) := zc1 (zc2 (zc2 (zc2 (zc2 (zc2 zg08d00_dec_6)))))
theorem dX12_feed_69 : decode cX12_feed 69 = .ok (.if_icmp .ge 45, 3) := zc1 (zc2 (zc2 (zc2 (zc2 (zc2 (zc2 zg08d00_dec_6))))))
theorem dX12_feed_72 : decode cX12_feed 72 = .ok (.iload 10, 2) := zc1 (zc2 (zc2 (zc2 (zc2 (zc2 (zc2 (zc2 zg08d00_dec_6)))))))
theorem dX12_feed_74 : decode cX12_feed 74 = .ok (.bipush 10, 2) := zc1 (zc2 (zc2 (zc2 (zc2 (zc2 (zc2 (zc2 (zc2 zg08d00_dec_6))))))))
theorem dX12_feed_76 : decode cX12_feed 76 = .ok (.if_icmp .eq 17, 3) := zc1 (zc2 (zc2 (zc2 (zc2 (zc2 (zc2 (zc2 (zc2 (zc2 zg08d00_dec_6)))))))))
theorem zg08d00_dec_7 : zCj cX12_feed [(79, .iload 10, 2), (81, .bipush 32, 2), (83, .if_icmp .lt 31, 3), (86, .iload 10, 2), (88, .bipush 126, 2), (90, .if_icmp .gt 24, 3), (93, .aload_n 0, 1), (94, .getfield 7, 3), (97, .aload_n 0, 1), (98, .getfield 135, 3)] := zCo _ 79 (by decide +kernel)
theorem dX12_feed_79 : decode cX12_feed 79 = .ok (.iload 10, 2) := zc1 zg08d00_dec_7
theorem dX12_feed_81 : decode cX12_feed 81 = .ok (.bipush 32, 2) := zc1 (zc2 zg08d00_dec_7)
theorem dX12_feed_83 : decode cX12_feed 83 = .ok (.if_icmp .lt 31, 3) := zc1 (zc2 (zc2 zg08d00_dec_7))
theorem dX12_feed_86 : decode cX12_feed 86 = .ok (.iload 10, 2) := zc1 (zc2 (zc2 (zc2 zg08d00_dec_7)))
theorem dX12_feed_88 : decode cX12_feed 88 = .ok (.bipush 126, 2) := zc1 (zc2 (zc2 (zc2 (zc2 zg08d00_dec_7))))
theorem dX12_feed_90 : decode cX12_feed 90 = .ok (.if_icmp .gt 24, 3) := zc1 (zc2 (zc2 (zc2 (zc2 (zc2 zg08d00_dec_7)))))
theorem dX12_feed_93 : decode cX12_feed 93 = .ok (.aload_n 0, 1) := zc1 (zc2 (zc2 (zc2 (zc2 (zc2 (zc2 zg08d00_dec_7))))))
theorem dX12_feed_94 : decode cX12_feed 94 = .ok (.getfield 7, 3) := zc1 (zc2 (zc2 (zc2 (zc2 (zc2 (zc2 (zc2 zg08d00_dec_7)))))))
theorem dX12_feed_97 : decode cX12_feed 97 = .ok (.aload_n 0, 1) := zc1 (zc2 (zc2 (zc2 (zc2 (zc2 (zc2 (zc2 (zc2 zg08d00_dec_7))))))))
theorem dX12_feed_98 : decode cX12_feed 98 = .ok (.getfield 135, 3) := zc1 (zc2 (zc2 (zc2 (zc2 (zc2 (zc2 (zc2 (zc2 (zc2 zg08d00_dec_7)))))))))
theorem zg08d00_dec_8 : zCj cX12_feed [(101, .iload 10, 2), (103, .iastore, 1), (104, .aload_n 0, 1), (105, .dup, 1), (106, .getfield 135, 3), (109, .iconst 1, 1), (110, .iadd, 1), (111, .putfield 135, 3), (114, .iinc 7 1, 3), (117, .goto (-109), 3)] := zCo _ 101 (by decide +kernel)
theorem dX12_feed_101 : decode cX12_feed 101 = .ok (.iload 10, 2) := zc1 zg08d00_dec_8
theorem dX12_feed_103 : decode cX12_feed 103 = .ok (.iastore, 1) := zc1 (zc2 zg08d00_dec_8)
theorem dX12_feed_104 : decode cX12_feed 104 = .ok (.aload_n 0, 1) := zc1 (zc2 (zc2 zg08d00_dec_8))
theorem dX12_feed_105 : decode cX12_feed 105 = .ok (.dup, 1) := zc1 (zc2 (zc2 (zc2 zg08d00_dec_8)))
theorem dX12_feed_106 : decode cX12_feed 106 = .ok (.getfield 135, 3) := zc1 (zc2 (zc2 (zc2 (zc2 zg08d00_dec_8))))
theorem dX12_feed_109 : decode cX12_feed 109 = .ok (.iconst 1, 1) := zc1 (zc2 (zc2 (zc2 (zc2 (zc2 zg08d00_dec_8)))))
theorem dX12_feed_110 : decode cX12_feed 110 = .ok (.iadd, 1) := zc1 (zc2 (zc2 (zc2 (zc2 (zc2 (zc2 zg08d00_dec_8))))))
theorem dX12_feed_111 : decode cX12_feed 111 = .ok (.putfield 135, 3) := zc1 (zc2 (zc2 (zc2 (zc2 (zc2 (zc2 (zc2 zg08d00_dec_8)))))))
theorem dX12_feed_114 : decode cX12_feed 114 = .ok (.iinc 7 1, 3) := zc1 (zc2 (zc2 (zc2 (zc2 (zc2 (zc2 (zc2 (zc2 zg08d00_dec_8))))))))
theorem dX12_feed_117 : decode cX12_feed 117 = .ok (.goto (-109), 3) := zc1 (zc2 (zc2 (zc2 (zc2 (zc2 (zc2 (zc2 (zc2 (zc2 zg08d00_dec_8)))))))))
theorem zg08d00_dec_9 : zCj cX12_feed [(120, .aload_n 0, 1), (121, .getfield 135, 3), (124, .ireturn, 1)] := zCo _ 120 (by decide +kernel)
theorem dX12_feed_120 : decode cX12_feed 120 = .ok (.aload_n 0, 1) := zc1 zg08d00_dec_9
theorem dX12_feed_121 : decode cX12_feed 121 = .ok (.getfield 135, 3) := zc1 (zc2 zg08d00_dec_9)
theorem dX12_feed_124 : decode cX12_feed 124 = .ok (.ireturn, 1) := zc1 (zc2 (zc2 zg08d00_dec_9))
theorem zg08d00_dec_10 : zCj cX12_signAt [(0, .iload_n 1, 1), (1, .aload_n 0, 1), (2, .getfield 138, 3), (5, .if_icmp .ge 12, 3), (8, .aload_n 0, 1), (9, .getfield 7, 3), (12, .iload_n 1, 1), (13, .iaload, 1), (14, .goto 4, 3), (17, .iconst 0, 1)] := zCo _ 0 (by decide +kernel)
theorem dX12_signAt_0 : decode cX12_signAt 0 = .ok (.iload_n 1, 1) := zc1 zg08d00_dec_10
theorem dX12_signAt_1 : decode cX12_signAt 1 = .ok (.aload_n 0, 1) := zc1 (zc2 zg08d00_dec_10)
theorem dX12_signAt_2 : decode cX12_signAt 2 = .ok (.getfield 138, 3) := zc1 (zc2 (zc2 zg08d00_dec_10))
theorem dX12_signAt_5 : decode cX12_signAt 5 = .ok (.if_icmp .ge 12, 3) := zc1 (zc2 (zc2 (zc2 zg08d00_dec_10)))
theorem dX12_signAt_8 : decode cX12_signAt 8 = .ok (.aload_n 0, 1) := zc1 (zc2 (zc2 (zc2 (zc2 zg08d00_dec_10))))
theorem dX12_signAt_9 : decode cX12_signAt 9 = .ok (.getfield 7, 3) := zc1 (zc2 (zc2 (zc2 (zc2 (zc2 zg08d00_dec_10)))))
theorem dX12_signAt_12 : decode cX12_signAt 12 = .ok (.iload_n 1, 1) := zc1 (zc2 (zc2 (zc2 (zc2 (zc2 (zc2 zg08d00_dec_10))))))
theorem dX12_signAt_13 : decode cX12_signAt 13 = .ok (.iaload, 1) := zc1 (zc2 (zc2 (zc2 (zc2 (zc2 (zc2 (zc2 zg08d00_dec_10)))))))
theorem dX12_signAt_14 : decode cX12_signAt 14 = .ok (.goto 4, 3) := zc1 (zc2 (zc2 (zc2 (zc2 (zc2 (zc2 (zc2 (zc2 zg08d00_dec_10))))))))
theorem dX12_signAt_17 : decode cX12_signAt 17 = .ok (.iconst 0, 1) := zc1 (zc2 (zc2 (zc2 (zc2 (zc2 (zc2 (zc2 (zc2 (zc2 zg08d00_dec_10)))))))))
theorem dX12_signAt_18 : decode cX12_signAt 18 = .ok (.ireturn, 1) := by decide +kernel
theorem zg08d00_dec_11 : zCj cX12_nextToken [(0, .aload_n 0, 1), (1, .getfield 141, 3), (4, .aload_n 0, 1), (5, .getfield 138, 3), (8, .if_icmp .ge 44, 3), (11, .aload_n 0, 1), (12, .getfield 7, 3), (15, .aload_n 0, 1), (16, .getfield 141, 3), (19, .iaload, 1)] := zCo _ 0 (by decide +kernel)
theorem dX12_nextToken_0 : decode cX12_nextToken 0 = .ok (.aload_n 0, 1) := zc1 zg08d00_dec_11
theorem dX12_nextToken_1 : decode cX12_nextToken 1 = .ok (.getfield 141, 3) := zc1 (zc2 zg08d00_dec_11)
theorem dX12_nextToken_4 : decode cX12_nextToken 4 = .ok (.aload_n 0, 1) := zc1 (zc2 (zc2 zg08d00_dec_11))
theorem dX12_nextToken_5 : decode cX12_nextToken 5 = .ok (.getfield 138, 3) := zc1 (zc2 (zc2 (zc2 zg08d00_dec_11)))
theorem dX12_nextToken_8 : decode cX12_nextToken 8 = .ok (.if_icmp .ge 44, 3) := zc1 (zc2 (zc2 (zc2 (zc2 zg08d00_dec_11))))
theorem dX12_nextToken_11 : decode cX12_nextToken 11 = .ok (.aload_n 0, 1) := zc1 (zc2 (zc2 (zc2 (zc2 (zc2 zg08d00_dec_11)))))
theorem dX12_nextToken_12 : decode cX12_nextToken 12 = .ok (.getfield 7, 3) := zc1 (zc2 (zc2 (zc2 (zc2 (zc2 (zc2 zg08d00_dec_11))))))
theorem dX12_nextToken_15 : decode cX12_nextToken 15 = .ok (.aload_n 0, 1) := zc1 (zc2 (zc2 (zc2 (zc2 (zc2 (zc2 (zc2 zg08d00_dec_11)))))))
theorem dX12_nextToken_16 : decode cX12_nextToken 16 = .ok (.getfield 141, 3) := zc1 (zc2 (zc2 (zc2 (zc2 (zc2 (zc2 (zc2 (zc2 zg08d00_dec_11))))))))
theorem dX12_nextToken_19 : decode cX12_nextToken 19 = .ok (.iaload, 1) := zc1 (zc2 (zc2 (zc2 (zc2 (zc2 (zc2 (zc2 (zc2 (zc2 zg08d00_dec_11)))))))))
theorem zg08d00_dec_12 : zCj cX12_nextToken [(20, .bipush 32, 2), (22, .if_icmp .eq 17, 3), (25, .aload_n 0, 1), (26, .getfield 7, 3), (29, .aload_n 0, 1), (30, .getfield 141, 3), (33, .iaload, 1), (34, .bipush 10, 2), (36, .if_icmp .ne 16, 3), (39, .aload_n 0, 1)] := zCo _ 20 (by decide +kernel)
theorem dX12_nextToken_20 : decode cX12_nextToken 20 = .ok (.bipush 32, 2) := zc1 zg08d00_dec_12
theorem dX12_nextToken_22 : decode cX12_nextToken 22 = .ok (.if_icmp .eq 17, 3) := zc1 (zc2 zg08d00_dec_12)
theorem dX12_nextToken_25 : decode cX12_nextToken 25 = .ok (.aload_n 0, 1) := zc1 (zc2 (zc2 zg08d00_dec_12))
theorem dX12_nextToken_26 : decode cX12_nextToken 26 = .ok (.getfield 7, 3) := zc1 (zc2 (zc2 (zc2 zg08d00_dec_12)))
theorem dX12_nextToken_29 : decode cX12_nextToken 29 = .ok (.aload_n 0, 1) := zc1 (zc2 (zc2 (zc2 (zc2 zg08d00_dec_12))))
theorem dX12_nextToken_30 : decode cX12_nextToken 30 = .ok (.getfield 141, 3) := zc1 (zc2 (zc2 (zc2 (zc2 (zc2 zg08d00_dec_12)))))
theorem dX12_nextToken_33 : decode cX12_nextToken 33 = .ok (.iaload, 1) := zc1 (zc2 (zc2 (zc2 (zc2 (zc2 (zc2 zg08d00_dec_12))))))
theorem dX12_nextToken_34 : decode cX12_nextToken 34 = .ok (.bipush 10, 2) := zc1 (zc2 (zc2 (zc2 (zc2 (zc2 (zc2 (zc2 zg08d00_dec_12)))))))
theorem dX12_nextToken_36 : decode cX12_nextToken 36 = .ok (.if_icmp .ne 16, 3) := zc1 (zc2 (zc2 (zc2 (zc2 (zc2 (zc2 (zc2 (zc2 zg08d00_dec_12))))))))
theorem dX12_nextToken_39 : decode cX12_nextToken 39 = .ok (.aload_n 0, 1) := zc1 (zc2 (zc2 (zc2 (zc2 (zc2 (zc2 (zc2 (zc2 (zc2 zg08d00_dec_12)))))))))
theorem zg08d00_dec_13 : zCj cX12_nextToken [(40, .dup, 1), (41, .getfield 141, 3), (44, .iconst 1, 1), (45, .iadd, 1), (46, .putfield 141, 3), (49, .goto (-49), 3), (52, .aload_n 0, 1), (53, .aload_n 0, 1), (54, .getfield 141, 3), (57, .putfield 144, 3)] := zCo _ 40 (by decide +kernel)
theorem dX12_nextToken_40 : decode cX12_nextToken 40 = .ok (.dup, 1) := zc1 zg08d00_dec_13
theorem dX12_nextToken_41 : decode cX12_nextToken 41 = .ok (.getfield 141, 3) := zc1 (zc2 zg08d00_dec_13)
theorem dX12_nextToken_44 : decode cX12_nextToken 44 = .ok (.iconst 1, 1) := zc1 (zc2 (zc2 zg08d00_dec_13))
theorem dX12_nextToken_45 : decode cX12_nextToken 45 = .ok (.iadd, 1) := zc1 (zc2 (zc2 (zc2 zg08d00_dec_13)))
theorem dX12_nextToken_46 : decode cX12_nextToken 46 = .ok (.putfield 141, 3) := zc1 (zc2 (zc2 (zc2 (zc2 zg08d00_dec_13))))
theorem dX12_nextToken_49 : decode cX12_nextToken 49 = .ok (.goto (-49), 3) := zc1 (zc2 (zc2 (zc2 (zc2 (zc2 zg08d00_dec_13)))))
theorem dX12_nextToken_52 : decode cX12_nextToken 52 = .ok (.aload_n 0, 1) := zc1 (zc2 (zc2 (zc2 (zc2 (zc2 (zc2 zg08d00_dec_13))))))
theorem dX12_nextToken_53 : decode cX12_nextToken 53 = .ok (.aload_n 0, 1) := zc1 (zc2 (zc2 (zc2 (zc2 (zc2 (zc2 (zc2 zg08d00_dec_13)))))))
theorem dX12_nextToken_54 : decode cX12_nextToken 54 = .ok (.getfield 141, 3) := zc1 (zc2 (zc2 (zc2 (zc2 (zc2 (zc2 (zc2 (zc2 zg08d00_dec_13))))))))
theorem dX12_nextToken_57 : decode cX12_nextToken 57 = .ok (.putfield 144, 3) := zc1 (zc2 (zc2 (zc2 (zc2 (zc2 (zc2 (zc2 (zc2 (zc2 zg08d00_dec_13)))))))))
theorem zg08d00_dec_14 : zCj cX12_nextToken [(60, .aload_n 0, 1), (61, .lconst 0, 1), (62, .putfield 147, 3), (65, .aload_n 0, 1), (66, .iconst 0, 1), (67, .putfield 151, 3), (70, .aload_n 0, 1), (71, .getfield 141, 3), (74, .aload_n 0, 1), (75, .getfield 138, 3)] := zCo _ 60 (by decide +kernel)
theorem dX12_nextToken_60 : decode cX12_nextToken 60 = .ok (.aload_n 0, 1) := zc1 zg08d00_dec_14
theorem dX12_nextToken_61 : decode cX12_nextToken 61 = .ok (.lconst 0, 1) := zc1 (zc2 zg08d00_dec_14)
theorem dX12_nextToken_62 : decode cX12_nextToken 62 = .ok (.putfield 147, 3) := zc1 (zc2 (zc2 zg08d00_dec_14))
theorem dX12_nextToken_65 : decode cX12_nextToken 65 = .ok (.aload_n 0, 1) := zc1 (zc2 (zc2 (zc2 zg08d00_dec_14)))
theorem dX12_nextToken_66 : decode cX12_nextToken 66 = .ok (.iconst 0, 1) := zc1 (zc2 (zc2 (zc2 (zc2 zg08d00_dec_14))))
theorem dX12_nextToken_67 : decode cX12_nextToken 67 = .ok (.putfield 151, 3) := zc1 (zc2 (zc2 (zc2 (zc2 (zc2 zg08d00_dec_14)))))
theorem dX12_nextToken_70 : decode cX12_nextToken 70 = .ok (.aload_n 0, 1) := zc1 (zc2 (zc2 (zc2 (zc2 (zc2 (zc2 zg08d00_dec_14))))))
theorem dX12_nextToken_71 : decode cX12_nextToken 71 = .ok (.getfield 141, 3) := zc1 (zc2 (zc2 (zc2 (zc2 (zc2 (zc2 (zc2 zg08d00_dec_14)))))))
theorem dX12_nextToken_74 : decode cX12_nextToken 74 = .ok (.aload_n 0, 1) := zc1 (zc2 (zc2 (zc2 (zc2 (zc2 (zc2 (zc2 (zc2 zg08d00_dec_14))))))))
theorem dX12_nextToken_75 : decode cX12_nextToken 75 = .ok (.getfield 138, 3) := zc1 (zc2 (zc2 (zc2 (zc2 (zc2 (zc2 (zc2 (zc2 (zc2 zg08d00_dec_14)))))))))
theorem zg08d00_dec_15 : zCj cX12_nextToken [(78, .if_icmp .ne 9, 3), (81, .aload_n 0, 1), (82, .iconst 0, 1), (83, .putfield 154, 3), (86, .return_, 1), (87, .aload_n 0, 1), (88, .getfield 7, 3), (91, .aload_n 0, 1), (92, .getfield 141, 3), (95, .iaload, 1)] := zCo _ 78 (by decide +kernel)
theorem dX12_nextToken_78 : decode cX12_nextToken 78 = .ok (.if_icmp .ne 9, 3) := zc1 zg08d00_dec_15
theorem dX12_nextToken_81 : decode cX12_nextToken 81 = .ok (.aload_n 0, 1) := zc1 (zc2 zg08d00_dec_15)
theorem dX12_nextToken_82 : decode cX12_nextToken 82 = .ok (.iconst 0, 1) := zc1 (zc2 (zc2 zg08d00_dec_15))
theorem dX12_nextToken_83 : decode cX12_nextToken 83 = .ok (.putfield 154, 3) := zc1 (zc2 (zc2 (zc2 zg08d00_dec_15)))
theorem dX12_nextToken_86 : decode cX12_nextToken 86 = .ok (.return_, 1) := zc1 (zc2 (zc2 (zc2 (zc2 zg08d00_dec_15))))
theorem dX12_nextToken_87 : decode cX12_nextToken 87 = .ok (.aload_n 0, 1) := zc1 (zc2 (zc2 (zc2 (zc2 (zc2 zg08d00_dec_15)))))
theorem dX12_nextToken_88 : decode cX12_nextToken 88 = .ok (.getfield 7, 3) := zc1 (zc2 (zc2 (zc2 (zc2 (zc2 (zc2 zg08d00_dec_15))))))
theorem dX12_nextToken_91 : decode cX12_nextToken 91 = .ok (.aload_n 0, 1) := zc1 (zc2 (zc2 (zc2 (zc2 (zc2 (zc2 (zc2 zg08d00_dec_15)))))))
theorem dX12_nextToken_92 : decode cX12_nextToken 92 = .ok (.getfield 141, 3) := zc1 (zc2 (zc2 (zc2 (zc2 (zc2 (zc2 (zc2 (zc2 zg08d00_dec_15))))))))
theorem dX12_nextToken_95 : decode cX12_nextToken 95 = .ok (.iaload, 1) := zc1 (zc2 (zc2 (zc2 (zc2 (zc2 (zc2 (zc2 (zc2 (zc2 zg08d00_dec_15)))))))))
theorem zg08d00_dec_16 : zCj cX12_nextToken [(96, .istore_n 1, 1), (97, .iload_n 1, 1), (98, .bipush 97, 2), (100, .if_icmp .lt 112, 3), (103, .iload_n 1, 1), (104, .bipush 122, 2), (106, .if_icmp .gt 106, 3), (109, .aload_n 0, 1), (110, .aload_n 0, 1), (111, .getfield 141, 3)] := zCo _ 96 (by decide +kernel)
theorem dX12_nextToken_96 : decode cX12_nextToken 96 = .ok (.istore_n 1, 1) := zc1 zg08d00_dec_16
theorem dX12_nextToken_97 : decode cX12_nextToken 97 = .ok (.iload_n 1, 1) := zc1 (zc2 zg08d00_dec_16)
theorem dX12_nextToken_98 : decode cX12_nextToken 98 = .ok (.bipush 97, 2) := zc1 (zc2 (zc2 zg08d00_dec_16))
theorem dX12_nextToken_100 : decode cX12_nextToken 100 = .ok (.if_icmp .lt 112, 3) := zc1 (zc2 (zc2 (zc2 zg08d00_dec_16)))
theorem dX12_nextToken_103 : decode cX12_nextToken 103 = .ok (.iload_n 1, 1) := zc1 (zc2 (zc2 (zc2 (zc2 zg08d00_dec_16))))
theorem dX12_nextToken_104 : decode cX12_nextToken 104 = .ok (.bipush 122, 2) := zc1 (zc2 (zc2 (zc2 (zc2 (zc2 zg08d00_dec_16)))))
theorem dX12_nextToken_106 : decode cX12_nextToken 106 = .ok (.if_icmp .gt 106, 3) := zc1 (zc2 (zc2 (zc2 (zc2 (zc2 (zc2 zg08d00_dec_16))))))
theorem dX12_nextToken_109 : decode cX12_nextToken 109 = .ok (.aload_n 0, 1) := zc1 (zc2 (zc2 (zc2 (zc2 (zc2 (zc2 (zc2 zg08d00_dec_16)))))))
theorem dX12_nextToken_110 : decode cX12_nextToken 110 = .ok (.aload_n 0, 1) := zc1 (zc2 (zc2 (zc2 (zc2 (zc2 (zc2 (zc2 (zc2 zg08d00_dec_16))))))))
theorem dX12_nextToken_111 : decode cX12_nextToken 111 = .ok (.getfield 141, 3) := zc1 (zc2 (zc2 (zc2 (zc2 (zc2 (zc2 (zc2 (zc2 (zc2 zg08d00_dec_16)))))))))
theorem zg08d00_dec_17 : zCj cX12_nextToken [(114, .invokevirtual 157, 3), (117, .bipush 97, 2), (119, .if_icmp .lt 69, 3), (122, .aload_n 0, 1), (123, .aload_n 0, 1), (124, .getfield 141, 3), (127, .invokevirtual 157, 3), (130, .bipush 122, 2), (132, .if_icmp .gt 56, 3), (135, .aload_n 0, 1)] := zCo _ 114 (by decide +kernel)
theorem dX12_nextToken_114 : decode cX12_nextToken 114 = .ok (.invokevirtual 157, 3) := zc1 zg08d00_dec_17
theorem dX12_nextToken_117 : decode cX12_nextToken 117 = .ok (.bipush 97, 2) := zc1 (zc2 zg08d00_dec_17)
theorem dX12_nextToken_119 : decode cX12_nextToken 119 = .ok (.if_icmp .lt 69, 3) := zc1 (zc2 (zc2 zg08d00_dec_17))
theorem dX12_nextToken_122 : decode cX12_nextToken 122 = .ok (.aload_n 0, 1) := zc1 (zc2 (zc2 (zc2 zg08d00_dec_17)))
theorem dX12_nextToken_123 : decode cX12_nextToken 123 = .ok (.aload_n 0, 1) := zc1 (zc2 (zc2 (zc2 (zc2 zg08d00_dec_17))))
theorem dX12_nextToken_124 : decode cX12_nextToken 124 = .ok (.getfield 141, 3) := zc1 (zc2 (zc2 (zc2 (zc2 (zc2 zg08d00_dec_17)))))
theorem dX12_nextToken_127 : decode cX12_nextToken 127 = .ok (.invokevirtual 157, 3) := zc1 (zc2 (zc2 (zc2 (zc2 (zc2 (zc2 zg08d00_dec_17))))))
theorem dX12_nextToken_130 : decode cX12_nextToken 130 = .ok (.bipush 122, 2) := zc1 (zc2 (zc2 (zc2 (zc2 (zc2 (zc2 (zc2 zg08d00_dec_17)))))))
theorem dX12_nextToken_132 : decode cX12_nextToken 132 = .ok (.if_icmp .gt 56, 3) := zc1 (zc2 (zc2 (zc2 (zc2 (zc2 (zc2 (zc2 (zc2 zg08d00_dec_17))))))))
theorem dX12_nextToken_135 : decode cX12_nextToken 135 = .ok (.aload_n 0, 1) := zc1 (zc2 (zc2 (zc2 (zc2 (zc2 (zc2 (zc2 (zc2 (zc2 zg08d00_dec_17)))))))))
theorem zg08d00_dec_18 : zCj cX12_nextToken [(136, .getfield 141, 3), (139, .aload_n 0, 1), (140, .getfield 144, 3), (143, .isub, 1), (144, .bipush 8, 2), (146, .if_icmp .ge 29, 3), (149, .aload_n 0, 1), (150, .aload_n 0, 1), (151, .getfield 147, 3), (154, .ldc2_w 161, 3)] := zCo _ 136 (by decide +kernel)
theorem dX12_nextToken_136 : decode cX12_nextToken 136 = .ok (.getfield 141, 3) := zc1 zg08d00_dec_18
theorem dX12_nextToken_139 : decode cX12_nextToken 139 = .ok (.aload_n 0, 1) := zc1 (zc2 zg08d00_dec_18)
theorem dX12_nextToken_140 : decode cX12_nextToken 140 = .ok (.getfield 144, 3) := zc1 (zc2 (zc2 zg08d00_dec_18))
theorem dX12_nextToken_143 : decode cX12_nextToken 143 = .ok (.isub, 1) := zc1 (zc2 (zc2 (zc2 zg08d00_dec_18)))
theorem dX12_nextToken_144 : decode cX12_nextToken 144 = .ok (.bipush 8, 2) := zc1 (zc2 (zc2 (zc2 (zc2 zg08d00_dec_18))))
theorem dX12_nextToken_146 : decode cX12_nextToken 146 = .ok (.if_icmp .ge 29, 3) := zc1 (zc2 (zc2 (zc2 (zc2 (zc2 zg08d00_dec_18)))))
theorem dX12_nextToken_149 : decode cX12_nextToken 149 = .ok (.aload_n 0, 1) := zc1 (zc2 (zc2 (zc2 (zc2 (zc2 (zc2 zg08d00_dec_18))))))
theorem dX12_nextToken_150 : decode cX12_nextToken 150 = .ok (.aload_n 0, 1) := zc1 (zc2 (zc2 (zc2 (zc2 (zc2 (zc2 (zc2 zg08d00_dec_18)))))))
theorem dX12_nextToken_151 : decode cX12_nextToken 151 = .ok (.getfield 147, 3) := zc1 (zc2 (zc2 (zc2 (zc2 (zc2 (zc2 (zc2 (zc2 zg08d00_dec_18))))))))
theorem dX12_nextToken_154 : decode cX12_nextToken 154 = .ok (.ldc2_w 161, 3) := zc1 (zc2 (zc2 (zc2 (zc2 (zc2 (zc2 (zc2 (zc2 (zc2 zg08d00_dec_18)))))))))
theorem zg08d00_dec_19 : zCj cX12_nextToken [(157, .lmul, 1), (158, .aload_n 0, 1), (159, .aload_n 0, 1), (160, .getfield 141, 3), (163, .invokevirtual 157, 3), (166, .i2l, 1), (167, .ladd, 1), (168, .ldc2_w 163, 3), (171, .lsub, 1), (172, .putfield 147, 3)] := zCo _ 157 (by decide +kernel)
theorem dX12_nextToken_157 : decode cX12_nextToken 157 = .ok (.lmul, 1) := zc1 zg08d00_dec_19
theorem dX12_nextToken_158 : decode cX12_nextToken 158 = .ok (.aload_n 0, 1) := zc1 (zc2 zg08d00_dec_19)
theorem dX12_nextToken_159 : decode cX12_nextToken 159 = .ok (.aload_n 0, 1) := zc1 (zc2 (zc2 zg08d00_dec_19))
theorem dX12_nextToken_160 : decode cX12_nextToken 160 = .ok (.getfield 141, 3) := zc1 (zc2 (zc2 (zc2 zg08d00_dec_19)))
theorem dX12_nextToken_163 : decode cX12_nextToken 163 = .ok (.invokevirtual 157, 3) := zc1 (zc2 (zc2 (zc2 (zc2 zg08d00_dec_19))))
theorem dX12_nextToken_166 : decode cX12_nextToken 166 = .ok (.i2l, 1) := zc1 (zc2 (zc2 (zc2 (zc2 (zc2 zg08d00_dec_19)))))
theorem dX12_nextToken_167 : decode cX12_nextToken 167 = .ok (.ladd, 1) := zc1 (zc2 (zc2 (zc2 (zc2 (zc2 (zc2 zg08d00_dec_19))))))
theorem dX12_nextToken_168 : decode cX12_nextToken 168 = .ok (.ldc2_w 163, 3) := zc1 (zc2 (zc2 (zc2 (zc2 (zc2 (zc2 (zc2 zg08d00_dec_19)))))))
theorem dX12_nextToken_171 : decode cX12_nextToken 171 = .ok (.lsub, 1) := zc1 (zc2 (zc2 (zc2 (zc2 (zc2 (zc2 (zc2 (zc2 zg08d00_dec_19))))))))
theorem dX12_nextToken_172 : decode cX12_nextToken 172 = .ok (.putfield 147, 3) := zc1 (zc2 (zc2 (zc2 (zc2 (zc2 (zc2 (zc2 (zc2 (zc2 zg08d00_dec_19)))))))))
theorem zg08d00_dec_20 : zCj cX12_nextToken [(175, .aload_n 0, 1), (176, .dup, 1), (177, .getfield 141, 3), (180, .iconst 1, 1), (181, .iadd, 1), (182, .putfield 141, 3), (185, .goto (-76), 3), (188, .aload_n 0, 1), (189, .aload_n 0, 1), (190, .getfield 141, 3)] := zCo _ 175 (by decide +kernel)
theorem dX12_nextToken_175 : decode cX12_nextToken 175 = .ok (.aload_n 0, 1) := zc1 zg08d00_dec_20
theorem dX12_nextToken_176 : decode cX12_nextToken 176 = .ok (.dup, 1) := zc1 (zc2 zg08d00_dec_20)
theorem dX12_nextToken_177 : decode cX12_nextToken 177 = .ok (.getfield 141, 3) := zc1 (zc2 (zc2 zg08d00_dec_20))
theorem dX12_nextToken_180 : decode cX12_nextToken 180 = .ok (.iconst 1, 1) := zc1 (zc2 (zc2 (zc2 zg08d00_dec_20)))
theorem dX12_nextToken_181 : decode cX12_nextToken 181 = .ok (.iadd, 1) := zc1 (zc2 (zc2 (zc2 (zc2 zg08d00_dec_20))))
theorem dX12_nextToken_182 : decode cX12_nextToken 182 = .ok (.putfield 141, 3) := zc1 (zc2 (zc2 (zc2 (zc2 (zc2 zg08d00_dec_20)))))
theorem dX12_nextToken_185 : decode cX12_nextToken 185 = .ok (.goto (-76), 3) := zc1 (zc2 (zc2 (zc2 (zc2 (zc2 (zc2 zg08d00_dec_20))))))
theorem dX12_nextToken_188 : decode cX12_nextToken 188 = .ok (.aload_n 0, 1) := zc1 (zc2 (zc2 (zc2 (zc2 (zc2 (zc2 (zc2 zg08d00_dec_20)))))))
theorem dX12_nextToken_189 : decode cX12_nextToken 189 = .ok (.aload_n 0, 1) := zc1 (zc2 (zc2 (zc2 (zc2 (zc2 (zc2 (zc2 (zc2 zg08d00_dec_20))))))))
theorem dX12_nextToken_190 : decode cX12_nextToken 190 = .ok (.getfield 141, 3) := zc1 (zc2 (zc2 (zc2 (zc2 (zc2 (zc2 (zc2 (zc2 (zc2 zg08d00_dec_20)))))))))
theorem zg08d00_dec_21 : zCj cX12_nextToken [(193, .aload_n 0, 1), (194, .getfield 144, 3), (197, .isub, 1), (198, .bipush 8, 2), (200, .if_icmp .le 7, 3), (203, .iconst 4, 1), (204, .goto 4, 3), (207, .iconst 1, 1), (208, .putfield 154, 3), (211, .return_, 1)] := zCo _ 193 (by decide +kernel)
theorem dX12_nextToken_193 : decode cX12_nextToken 193 = .ok (.aload_n 0, 1) := zc1 zg08d00_dec_21
theorem dX12_nextToken_194 : decode cX12_nextToken 194 = .ok (.getfield 144, 3) := zc1 (zc2 zg08d00_dec_21)
theorem dX12_nextToken_197 : decode cX12_nextToken 197 = .ok (.isub, 1) := zc1 (zc2 (zc2 zg08d00_dec_21))
theorem dX12_nextToken_198 : decode cX12_nextToken 198 = .ok (.bipush 8, 2) := zc1 (zc2 (zc2 (zc2 zg08d00_dec_21)))
theorem dX12_nextToken_200 : decode cX12_nextToken 200 = .ok (.if_icmp .le 7, 3) := zc1 (zc2 (zc2 (zc2 (zc2 zg08d00_dec_21))))
theorem dX12_nextToken_203 : decode cX12_nextToken 203 = .ok (.iconst 4, 1) := zc1 (zc2 (zc2 (zc2 (zc2 (zc2 zg08d00_dec_21)))))
theorem dX12_nextToken_204 : decode cX12_nextToken 204 = .ok (.goto 4, 3) := zc1 (zc2 (zc2 (zc2 (zc2 (zc2 (zc2 zg08d00_dec_21))))))
theorem dX12_nextToken_207 : decode cX12_nextToken 207 = .ok (.iconst 1, 1) := zc1 (zc2 (zc2 (zc2 (zc2 (zc2 (zc2 (zc2 zg08d00_dec_21)))))))
theorem dX12_nextToken_208 : decode cX12_nextToken 208 = .ok (.putfield 154, 3) := zc1 (zc2 (zc2 (zc2 (zc2 (zc2 (zc2 (zc2 (zc2 zg08d00_dec_21))))))))
theorem dX12_nextToken_211 : decode cX12_nextToken 211 = .ok (.return_, 1) := zc1 (zc2 (zc2 (zc2 (zc2 (zc2 (zc2 (zc2 (zc2 (zc2 zg08d00_dec_21)))))))))
theorem zg08d00_dec_22 : zCj cX12_nextToken [(212, .iload_n 1, 1), (213, .bipush 48, 2), (215, .if_icmp .lt 107, 3), (218, .iload_n 1, 1), (219, .bipush 57, 2), (221, .if_icmp .gt 101, 3), (224, .aload_n 0, 1), (225, .aload_n 0, 1), (226, .getfield 141, 3), (229, .invokevirtual 157, 3)] := zCo _ 212 (by decide +kernel)
theorem dX12_nextToken_212 : decode cX12_nextToken 212 = .ok (.iload_n 1, 1) := zc1 zg08d00_dec_22
theorem dX12_nextToken_213 : decode cX12_nextToken 213 = .ok (.bipush 48, 2) := zc1 (zc2 zg08d00_dec_22)
theorem dX12_nextToken_215 : decode cX12_nextToken 215 = .ok (.if_icmp .lt 107, 3) := zc1 (zc2 (zc2 zg08d00_dec_22))
theorem dX12_nextToken_218 : decode cX12_nextToken 218 = .ok (.iload_n 1, 1) := zc1 (zc2 (zc2 (zc2 zg08d00_dec_22)))
theorem dX12_nextToken_219 : decode cX12_nextToken 219 = .ok (.bipush 57, 2) := zc1 (zc2 (zc2 (zc2 (zc2 zg08d00_dec_22))))
theorem dX12_nextToken_221 : decode cX12_nextToken 221 = .ok (.if_icmp .gt 101, 3) := zc1 (zc2 (zc2 (zc2 (zc2 (zc2 zg08d00_dec_22)))))
theorem dX12_nextToken_224 : decode cX12_nextToken 224 = .ok (.aload_n 0, 1) := zc1 (zc2 (zc2 (zc2 (zc2 (zc2 (zc2 zg08d00_dec_22))))))
theorem dX12_nextToken_225 : decode cX12_nextToken 225 = .ok (.aload_n 0, 1) := zc1 (zc2 (zc2 (zc2 (zc2 (zc2 (zc2 (zc2 zg08d00_dec_22)))))))
theorem dX12_nextToken_226 : decode cX12_nextToken 226 = .ok (.getfield 141, 3) := zc1 (zc2 (zc2 (zc2 (zc2 (zc2 (zc2 (zc2 (zc2 zg08d00_dec_22))))))))
theorem dX12_nextToken_229 : decode cX12_nextToken 229 = .ok (.invokevirtual 157, 3) := zc1 (zc2 (zc2 (zc2 (zc2 (zc2 (zc2 (zc2 (zc2 (zc2 zg08d00_dec_22)))))))))
theorem zg08d00_dec_23 : zCj cX12_nextToken [(232, .bipush 48, 2), (234, .if_icmp .lt 65, 3), (237, .aload_n 0, 1), (238, .aload_n 0, 1), (239, .getfield 141, 3), (242, .invokevirtual 157, 3), (245, .bipush 57, 2), (247, .if_icmp .gt 52, 3), (250, .aload_n 0, 1), (251, .getfield 141, 3)] := zCo _ 232 (by decide +kernel)
theorem dX12_nextToken_232 : decode cX12_nextToken 232 = .ok (.bipush 48, 2) := zc1 zg08d00_dec_23
theorem dX12_nextToken_234 : decode cX12_nextToken 234 = .ok (.if_icmp .lt 65, 3) := zc1 (zc2 zg08d00_dec_23)
theorem dX12_nextToken_237 : decode cX12_nextToken 237 = .ok (.aload_n 0, 1) := zc1 (zc2 (zc2 zg08d00_dec_23))
theorem dX12_nextToken_238 : decode cX12_nextToken 238 = .ok (.aload_n 0, 1) := zc1 (zc2 (zc2 (zc2 zg08d00_dec_23)))
theorem dX12_nextToken_239 : decode cX12_nextToken 239 = .ok (.getfield 141, 3) := zc1 (zc2 (zc2 (zc2 (zc2 zg08d00_dec_23))))
theorem dX12_nextToken_242 : decode cX12_nextToken 242 = .ok (.invokevirtual 157, 3) := zc1 (zc2 (zc2 (zc2 (zc2 (zc2 zg08d00_dec_23)))))
theorem dX12_nextToken_245 : decode cX12_nextToken 245 = .ok (.bipush 57, 2) := zc1 (zc2 (zc2 (zc2 (zc2 (zc2 (zc2 zg08d00_dec_23))))))
theorem dX12_nextToken_247 : decode cX12_nextToken 247 = .ok (.if_icmp .gt 52, 3) := zc1 (zc2 (zc2 (zc2 (zc2 (zc2 (zc2 (zc2 zg08d00_dec_23)))))))
theorem dX12_nextToken_250 : decode cX12_nextToken 250 = .ok (.aload_n 0, 1) := zc1 (zc2 (zc2 (zc2 (zc2 (zc2 (zc2 (zc2 (zc2 zg08d00_dec_23))))))))
theorem dX12_nextToken_251 : decode cX12_nextToken 251 = .ok (.getfield 141, 3) := zc1 (zc2 (zc2 (zc2 (zc2 (zc2 (zc2 (zc2 (zc2 (zc2 zg08d00_dec_23)))))))))
theorem zg08d00_dec_24 : zCj cX12_nextToken [(254, .aload_n 0, 1), (255, .getfield 144, 3), (258, .isub, 1), (259, .iconst 4, 1), (260, .if_icmp .ge 26, 3), (263, .aload_n 0, 1), (264, .aload_n 0, 1), (265, .getfield 151, 3), (268, .bipush 10, 2), (270, .imul, 1)] := zCo _ 254 (by decide +kernel)
theorem dX12_nextToken_254 : decode cX12_nextToken 254 = .ok (.aload_n 0, 1) := zc1 zg08d00_dec_24
theorem dX12_nextToken_255 : decode cX12_nextToken 255 = .ok (.getfield 144, 3) := zc1 (zc2 zg08d00_dec_24)
theorem dX12_nextToken_258 : decode cX12_nextToken 258 = .ok (.isub, 1) := zc1 (zc2 (zc2 zg08d00_dec_24))
theorem dX12_nextToken_259 : decode cX12_nextToken 259 = .ok (.iconst 4, 1) := zc1 (zc2 (zc2 (zc2 zg08d00_dec_24)))
theorem dX12_nextToken_260 : decode cX12_nextToken 260 = .ok (.if_icmp .ge 26, 3) := zc1 (zc2 (zc2 (zc2 (zc2 zg08d00_dec_24))))
theorem dX12_nextToken_263 : decode cX12_nextToken 263 = .ok (.aload_n 0, 1) := zc1 (zc2 (zc2 (zc2 (zc2 (zc2 zg08d00_dec_24)))))
theorem dX12_nextToken_264 : decode cX12_nextToken 264 = .ok (.aload_n 0, 1) := zc1 (zc2 (zc2 (zc2 (zc2 (zc2 (zc2 zg08d00_dec_24))))))
theorem dX12_nextToken_265 : decode cX12_nextToken 265 = .ok (.getfield 151, 3) := zc1 (zc2 (zc2 (zc2 (zc2 (zc2 (zc2 (zc2 zg08d00_dec_24)))))))
theorem dX12_nextToken_268 : decode cX12_nextToken 268 = .ok (.bipush 10, 2) := zc1 (zc2 (zc2 (zc2 (zc2 (zc2 (zc2 (zc2 (zc2 zg08d00_dec_24))))))))
theorem dX12_nextToken_270 : decode cX12_nextToken 270 = .ok (.imul, 1) := zc1 (zc2 (zc2 (zc2 (zc2 (zc2 (zc2 (zc2 (zc2 (zc2 zg08d00_dec_24)))))))))
theorem zg08d00_dec_25 : zCj cX12_nextToken [(271, .aload_n 0, 1), (272, .aload_n 0, 1), (273, .getfield 141, 3), (276, .invokevirtual 157, 3), (279, .iadd, 1), (280, .bipush 48, 2), (282, .isub, 1), (283, .putfield 151, 3), (286, .aload_n 0, 1), (287, .dup, 1)] := zCo _ 271 (by decide +kernel)
theorem dX12_nextToken_271 : decode cX12_nextToken 271 = .ok (.aload_n 0, 1) := zc1 zg08d00_dec_25
theorem dX12_nextToken_272 : decode cX12_nextToken 272 = .ok (.aload_n 0, 1) := zc1 (zc2 zg08d00_dec_25)
theorem dX12_nextToken_273 : decode cX12_nextToken 273 = .ok (.getfield 141, 3) := zc1 (zc2 (zc2 zg08d00_dec_25))
theorem dX12_nextToken_276 : decode cX12_nextToken 276 = .ok (.invokevirtual 157, 3) := zc1 (zc2 (zc2 (zc2 zg08d00_dec_25)))
theorem dX12_nextToken_279 : decode cX12_nextToken 279 = .ok (.iadd, 1) := zc1 (zc2 (zc2 (zc2 (zc2 zg08d00_dec_25))))
theorem dX12_nextToken_280 : decode cX12_nextToken 280 = .ok (.bipush 48, 2) := zc1 (zc2 (zc2 (zc2 (zc2 (zc2 zg08d00_dec_25)))))
theorem dX12_nextToken_282 : decode cX12_nextToken 282 = .ok (.isub, 1) := zc1 (zc2 (zc2 (zc2 (zc2 (zc2 (zc2 zg08d00_dec_25))))))
theorem dX12_nextToken_283 : decode cX12_nextToken 283 = .ok (.putfield 151, 3) := zc1 (zc2 (zc2 (zc2 (zc2 (zc2 (zc2 (zc2 zg08d00_dec_25)))))))
theorem dX12_nextToken_286 : decode cX12_nextToken 286 = .ok (.aload_n 0, 1) := zc1 (zc2 (zc2 (zc2 (zc2 (zc2 (zc2 (zc2 (zc2 zg08d00_dec_25))))))))
theorem dX12_nextToken_287 : decode cX12_nextToken 287 = .ok (.dup, 1) := zc1 (zc2 (zc2 (zc2 (zc2 (zc2 (zc2 (zc2 (zc2 (zc2 zg08d00_dec_25)))))))))
theorem zg08d00_dec_26 : zCj cX12_nextToken [(288, .getfield 141, 3), (291, .iconst 1, 1), (292, .iadd, 1), (293, .putfield 141, 3), (296, .goto (-72), 3), (299, .aload_n 0, 1), (300, .aload_n 0, 1), (301, .getfield 141, 3), (304, .aload_n 0, 1), (305, .getfield 144, 3)] := zCo _ 288 (by decide +kernel)
theorem dX12_nextToken_288 : decode cX12_nextToken 288 = .ok (.getfield 141, 3) := zc1 zg08d00_dec_26
theorem dX12_nextToken_291 : decode cX12_nextToken 291 = .ok (.iconst 1, 1) := zc1 (zc2 zg08d00_dec_26)
theorem dX12_nextToken_292 : decode cX12_nextToken 292 = .ok (.iadd, 1) := zc1 (zc2 (zc2 zg08d00_dec_26))
theorem dX12_nextToken_293 : decode cX12_nextToken 293 = .ok (.putfield 141, 3) := zc1 (zc2 (zc2 (zc2 zg08d00_dec_26)))
theorem dX12_nextToken_296 : decode cX12_nextToken 296 = .ok (.goto (-72), 3) := zc1 (zc2 (zc2 (zc2 (zc2 zg08d00_dec_26))))
theorem dX12_nextToken_299 : decode cX12_nextToken 299 = .ok (.aload_n 0, 1) := zc1 (zc2 (zc2 (zc2 (zc2 (zc2 zg08d00_dec_26)))))
theorem dX12_nextToken_300 : decode cX12_nextToken 300 = .ok (.aload_n 0, 1) := zc1 (zc2 (zc2 (zc2 (zc2 (zc2 (zc2 zg08d00_dec_26))))))
theorem dX12_nextToken_301 : decode cX12_nextToken 301 = .ok (.getfield 141, 3) := zc1 (zc2 (zc2 (zc2 (zc2 (zc2 (zc2 (zc2 zg08d00_dec_26)))))))
theorem dX12_nextToken_304 : decode cX12_nextToken 304 = .ok (.aload_n 0, 1) := zc1 (zc2 (zc2 (zc2 (zc2 (zc2 (zc2 (zc2 (zc2 zg08d00_dec_26))))))))
theorem dX12_nextToken_305 : decode cX12_nextToken 305 = .ok (.getfield 144, 3) := zc1 (zc2 (zc2 (zc2 (zc2 (zc2 (zc2 (zc2 (zc2 (zc2 zg08d00_dec_26)))))))))
theorem zg08d00_dec_27 : zCj cX12_nextToken [(308, .isub, 1), (309, .iconst 4, 1), (310, .if_icmp .le 7, 3), (313, .iconst 4, 1), (314, .goto 4, 3), (317, .iconst 2, 1), (318, .putfield 154, 3), (321, .return_, 1), (322, .aload_n 0, 1), (323, .dup, 1)] := zCo _ 308 (by decide +kernel)
theorem dX12_nextToken_308 : decode cX12_nextToken 308 = .ok (.isub, 1) := zc1 zg08d00_dec_27
theorem dX12_nextToken_309 : decode cX12_nextToken 309 = .ok (.iconst 4, 1) := zc1 (zc2 zg08d00_dec_27)
theorem dX12_nextToken_310 : decode cX12_nextToken 310 = .ok (.if_icmp .le 7, 3) := zc1 (zc2 (zc2 zg08d00_dec_27))
theorem dX12_nextToken_313 : decode cX12_nextToken 313 = .ok (.iconst 4, 1) := zc1 (zc2 (zc2 (zc2 zg08d00_dec_27)))
theorem dX12_nextToken_314 : decode cX12_nextToken 314 = .ok (.goto 4, 3) := zc1 (zc2 (zc2 (zc2 (zc2 zg08d00_dec_27))))
theorem dX12_nextToken_317 : decode cX12_nextToken 317 = .ok (.iconst 2, 1) := zc1 (zc2 (zc2 (zc2 (zc2 (zc2 zg08d00_dec_27)))))
theorem dX12_nextToken_318 : decode cX12_nextToken 318 = .ok (.putfield 154, 3) := zc1 (zc2 (zc2 (zc2 (zc2 (zc2 (zc2 zg08d00_dec_27))))))
theorem dX12_nextToken_321 : decode cX12_nextToken 321 = .ok (.return_, 1) := zc1 (zc2 (zc2 (zc2 (zc2 (zc2 (zc2 (zc2 zg08d00_dec_27)))))))
theorem dX12_nextToken_322 : decode cX12_nextToken 322 = .ok (.aload_n 0, 1) := zc1 (zc2 (zc2 (zc2 (zc2 (zc2 (zc2 (zc2 (zc2 zg08d00_dec_27))))))))
theorem dX12_nextToken_323 : decode cX12_nextToken 323 = .ok (.dup, 1) := zc1 (zc2 (zc2 (zc2 (zc2 (zc2 (zc2 (zc2 (zc2 (zc2 zg08d00_dec_27)))))))))
theorem zg08d00_dec_28 : zCj cX12_nextToken [(324, .getfield 141, 3), (327, .iconst 1, 1), (328, .iadd, 1), (329, .putfield 141, 3), (332, .aload_n 0, 1), (333, .iload_n 1, 1), (334, .bipush 40, 2), (336, .if_icmp .lt 9, 3), (339, .iload_n 1, 1), (340, .bipush 43, 2)] := zCo _ 324 (by decide +kernel)
theorem dX12_nextToken_324 : decode cX12_nextToken 324 = .ok (.getfield 141, 3) := zc1 zg08d00_dec_28
theorem dX12_nextToken_327 : decode cX12_nextToken 327 = .ok (.iconst 1, 1) := zc1 (zc2 zg08d00_dec_28)
theorem dX12_nextToken_328 : decode cX12_nextToken 328 = .ok (.iadd, 1) := zc1 (zc2 (zc2 zg08d00_dec_28))
theorem dX12_nextToken_329 : decode cX12_nextToken 329 = .ok (.putfield 141, 3) := zc1 (zc2 (zc2 (zc2 zg08d00_dec_28)))
theorem dX12_nextToken_332 : decode cX12_nextToken 332 = .ok (.aload_n 0, 1) := zc1 (zc2 (zc2 (zc2 (zc2 zg08d00_dec_28))))
theorem dX12_nextToken_333 : decode cX12_nextToken 333 = .ok (.iload_n 1, 1) := zc1 (zc2 (zc2 (zc2 (zc2 (zc2 zg08d00_dec_28)))))
theorem dX12_nextToken_334 : decode cX12_nextToken 334 = .ok (.bipush 40, 2) := zc1 (zc2 (zc2 (zc2 (zc2 (zc2 (zc2 zg08d00_dec_28))))))
theorem dX12_nextToken_336 : decode cX12_nextToken 336 = .ok (.if_icmp .lt 9, 3) := zc1 (zc2 (zc2 (zc2 (zc2 (zc2 (zc2 (zc2 zg08d00_dec_28)))))))
theorem dX12_nextToken_339 : decode cX12_nextToken 339 = .ok (.iload_n 1, 1) := zc1 (zc2 (zc2 (zc2 (zc2 (zc2 (zc2 (zc2 (zc2 zg08d00_dec_28))))))))
theorem dX12_nextToken_340 : decode cX12_nextToken 340 = .ok (.bipush 43, 2) := zc1 (zc2 (zc2 (zc2 (zc2 (zc2 (zc2 (zc2 (zc2 (zc2 zg08d00_dec_28)))))))))
theorem zg08d00_dec_29 : zCj cX12_nextToken [(342, .if_icmp .le 21, 3), (345, .iload_n 1, 1), (346, .bipush 45, 2), (348, .if_icmp .eq 15, 3), (351, .iload_n 1, 1), (352, .bipush 59, 2), (354, .if_icmp .lt 13, 3), (357, .iload_n 1, 1), (358, .bipush 61, 2), (360, .if_icmp .gt 7, 3)] := zCo _ 342 (by decide +kernel)
theorem dX12_nextToken_342 : decode cX12_nextToken 342 = .ok (.if_icmp .le 21, 3) := zc1 zg08d00_dec_29
theorem dX12_nextToken_345 : decode cX12_nextToken 345 = .ok (.iload_n 1, 1) := zc1 (zc2 zg08d00_dec_29)
theorem dX12_nextToken_346 : decode cX12_nextToken 346 = .ok (.bipush 45, 2) := zc1 (zc2 (zc2 zg08d00_dec_29))
theorem dX12_nextToken_348 : decode cX12_nextToken 348 = .ok (.if_icmp .eq 15, 3) := zc1 (zc2 (zc2 (zc2 zg08d00_dec_29)))
theorem dX12_nextToken_351 : decode cX12_nextToken 351 = .ok (.iload_n 1, 1) := zc1 (zc2 (zc2 (zc2 (zc2 zg08d00_dec_29))))
theorem dX12_nextToken_352 : decode cX12_nextToken 352 = .ok (.bipush 59, 2) := zc1 (zc2 (zc2 (zc2 (zc2 (zc2 zg08d00_dec_29)))))
theorem dX12_nextToken_354 : decode cX12_nextToken 354 = .ok (.if_icmp .lt 13, 3) := zc1 (zc2 (zc2 (zc2 (zc2 (zc2 (zc2 zg08d00_dec_29))))))
theorem dX12_nextToken_357 : decode cX12_nextToken 357 = .ok (.iload_n 1, 1) := zc1 (zc2 (zc2 (zc2 (zc2 (zc2 (zc2 (zc2 zg08d00_dec_29)))))))
theorem dX12_nextToken_358 : decode cX12_nextToken 358 = .ok (.bipush 61, 2) := zc1 (zc2 (zc2 (zc2 (zc2 (zc2 (zc2 (zc2 (zc2 zg08d00_dec_29))))))))
theorem dX12_nextToken_360 : decode cX12_nextToken 360 = .ok (.if_icmp .gt 7, 3) := zc1 (zc2 (zc2 (zc2 (zc2 (zc2 (zc2 (zc2 (zc2 (zc2 zg08d00_dec_29)))))))))
theorem zg08d00_dec_30 : zCj cX12_nextToken [(363, .iconst 3, 1), (364, .goto 4, 3), (367, .iconst 4, 1), (368, .putfield 154, 3), (371, .return_, 1)] := zCo _ 363 (by decide +kernel)
theorem dX12_nextToken_363 : decode cX12_nextToken 363 = .ok (.iconst 3, 1) := zc1 zg08d00_dec_30
theorem dX12_nextToken_364 : decode cX12_nextToken 364 = .ok (.goto 4, 3) := zc1 (zc2 zg08d00_dec_30)
theorem dX12_nextToken_367 : decode cX12_nextToken 367 = .ok (.iconst 4, 1) := zc1 (zc2 (zc2 zg08d00_dec_30))
theorem dX12_nextToken_368 : decode cX12_nextToken 368 = .ok (.putfield 154, 3) := zc1 (zc2 (zc2 (zc2 zg08d00_dec_30)))
theorem dX12_nextToken_371 : decode cX12_nextToken 371 = .ok (.return_, 1) := zc1 (zc2 (zc2 (zc2 (zc2 zg08d00_dec_30))))
theorem zg08d00_dec_31 : zCj cX12_isWord [(0, .aload_n 0, 1), (1, .getfield 154, 3), (4, .iconst 1, 1), (5, .if_icmp .ne 16, 3), (8, .aload_n 0, 1), (9, .getfield 147, 3), (12, .lload_n 1, 1), (13, .lcmp, 1), (14, .ifCond .ne 7, 3), (17, .iconst 1, 1)] := zCo _ 0 (by decide +kernel)
theorem dX12_isWord_0 : decode cX12_isWord 0 = .ok (.aload_n 0, 1) := zc1 zg08d00_dec_31
theorem dX12_isWord_1 : decode cX12_isWord 1 = .ok (.getfield 154, 3) := zc1 (zc2 zg08d00_dec_31)
theorem dX12_isWord_4 : decode cX12_isWord 4 = .ok (.iconst 1, 1) := zc1 (zc2 (zc2 zg08d00_dec_31))
theorem dX12_isWord_5 : decode cX12_isWord 5 = .ok (.if_icmp .ne 16, 3) := zc1 (zc2 (zc2 (zc2 zg08d00_dec_31)))
theorem dX12_isWord_8 : decode cX12_isWord 8 = .ok (.aload_n 0, 1) := zc1 (zc2 (zc2 (zc2 (zc2 zg08d00_dec_31))))
theorem dX12_isWord_9 : decode cX12_isWord 9 = .ok (.getfield 147, 3) := zc1 (zc2 (zc2 (zc2 (zc2 (zc2 zg08d00_dec_31)))))
theorem dX12_isWord_12 : decode cX12_isWord 12 = .ok (.lload_n 1, 1) := zc1 (zc2 (zc2 (zc2 (zc2 (zc2 (zc2 zg08d00_dec_31))))))
theorem dX12_isWord_13 : decode cX12_isWord 13 = .ok (.lcmp, 1) := zc1 (zc2 (zc2 (zc2 (zc2 (zc2 (zc2 (zc2 zg08d00_dec_31)))))))
theorem dX12_isWord_14 : decode cX12_isWord 14 = .ok (.ifCond .ne 7, 3) := zc1 (zc2 (zc2 (zc2 (zc2 (zc2 (zc2 (zc2 (zc2 zg08d00_dec_31))))))))
theorem dX12_isWord_17 : decode cX12_isWord 17 = .ok (.iconst 1, 1) := zc1 (zc2 (zc2 (zc2 (zc2 (zc2 (zc2 (zc2 (zc2 (zc2 zg08d00_dec_31)))))))))
theorem zg08d00_dec_32 : zCj cX12_isWord [(18, .goto 4, 3), (21, .iconst 0, 1), (22, .ireturn, 1)] := zCo _ 18 (by decide +kernel)
theorem dX12_isWord_18 : decode cX12_isWord 18 = .ok (.goto 4, 3) := zc1 zg08d00_dec_32
theorem dX12_isWord_21 : decode cX12_isWord 21 = .ok (.iconst 0, 1) := zc1 (zc2 zg08d00_dec_32)
theorem dX12_isWord_22 : decode cX12_isWord 22 = .ok (.ireturn, 1) := zc1 (zc2 (zc2 zg08d00_dec_32))
theorem zg08d00_dec_33 : zCj cX12_isSign [(0, .aload_n 0, 1), (1, .getfield 154, 3), (4, .iconst 3, 1), (5, .if_icmp .ne 20, 3), (8, .aload_n 0, 1), (9, .getfield 7, 3), (12, .aload_n 0, 1), (13, .getfield 144, 3), (16, .iaload, 1), (17, .iload_n 1, 1)] := zCo _ 0 (by decide +kernel)
theorem dX12_isSign_0 : decode cX12_isSign 0 = .ok (.aload_n 0, 1) := zc1 zg08d00_dec_33
theorem dX12_isSign_1 : decode cX12_isSign 1 = .ok (.getfield 154, 3) := zc1 (zc2 zg08d00_dec_33)
theorem dX12_isSign_4 : decode cX12_isSign 4 = .ok (.iconst 3, 1) := zc1 (zc2 (zc2 zg08d00_dec_33))
theorem dX12_isSign_5 : decode cX12_isSign 5 = .ok (.if_icmp .ne 20, 3) := zc1 (zc2 (zc2 (zc2 zg08d00_dec_33)))
theorem dX12_isSign_8 : decode cX12_isSign 8 = .ok (.aload_n 0, 1) := zc1 (zc2 (zc2 (zc2 (zc2 zg08d00_dec_33))))
theorem dX12_isSign_9 : decode cX12_isSign 9 = .ok (.getfield 7, 3) := zc1 (zc2 (zc2 (zc2 (zc2 (zc2 zg08d00_dec_33)))))
theorem dX12_isSign_12 : decode cX12_isSign 12 = .ok (.aload_n 0, 1) := zc1 (zc2 (zc2 (zc2 (zc2 (zc2 (zc2 zg08d00_dec_33))))))
theorem dX12_isSign_13 : decode cX12_isSign 13 = .ok (.getfield 144, 3) := zc1 (zc2 (zc2 (zc2 (zc2 (zc2 (zc2 (zc2 zg08d00_dec_33)))))))
theorem dX12_isSign_16 : decode cX12_isSign 16 = .ok (.iaload, 1) := zc1 (zc2 (zc2 (zc2 (zc2 (zc2 (zc2 (zc2 (zc2 zg08d00_dec_33))))))))
theorem dX12_isSign_17 : decode cX12_isSign 17 = .ok (.iload_n 1, 1) := zc1 (zc2 (zc2 (zc2 (zc2 (zc2 (zc2 (zc2 (zc2 (zc2 zg08d00_dec_33)))))))))
theorem zg08d00_dec_34 : zCj cX12_isSign [(18, .if_icmp .ne 7, 3), (21, .iconst 1, 1), (22, .goto 4, 3), (25, .iconst 0, 1), (26, .ireturn, 1)] := zCo _ 18 (by decide +kernel)
theorem dX12_isSign_18 : decode cX12_isSign 18 = .ok (.if_icmp .ne 7, 3) := zc1 zg08d00_dec_34
theorem dX12_isSign_21 : decode cX12_isSign 21 = .ok (.iconst 1, 1) := zc1 (zc2 zg08d00_dec_34)
theorem dX12_isSign_22 : decode cX12_isSign 22 = .ok (.goto 4, 3) := zc1 (zc2 (zc2 zg08d00_dec_34))
theorem dX12_isSign_25 : decode cX12_isSign 25 = .ok (.iconst 0, 1) := zc1 (zc2 (zc2 (zc2 zg08d00_dec_34)))
theorem dX12_isSign_26 : decode cX12_isSign 26 = .ok (.ireturn, 1) := zc1 (zc2 (zc2 (zc2 (zc2 zg08d00_dec_34))))
theorem zg08d00_dec_35 : zCj cX12_fails [(0, .aload_n 0, 1), (1, .iload_n 1, 1), (2, .bipush 16, 2), (4, .aload_n 0, 1), (5, .getfield 144, 3), (8, .imul, 1), (9, .iadd, 1), (10, .putfield 165, 3), (13, .iconst 0, 1), (14, .ireturn, 1)] := zCo _ 0 (by decide +kernel)
theorem dX12_fails_0 : decode cX12_fails 0 = .ok (.aload_n 0, 1) := zc1 zg08d00_dec_35
theorem dX12_fails_1 : decode cX12_fails 1 = .ok (.iload_n 1, 1) := zc1 (zc2 zg08d00_dec_35)
theorem dX12_fails_2 : decode cX12_fails 2 = .ok (.bipush 16, 2) := zc1 (zc2 (zc2 zg08d00_dec_35))
theorem dX12_fails_4 : decode cX12_fails 4 = .ok (.aload_n 0, 1) := zc1 (zc2 (zc2 (zc2 zg08d00_dec_35)))
theorem dX12_fails_5 : decode cX12_fails 5 = .ok (.getfield 144, 3) := zc1 (zc2 (zc2 (zc2 (zc2 zg08d00_dec_35))))
theorem dX12_fails_8 : decode cX12_fails 8 = .ok (.imul, 1) := zc1 (zc2 (zc2 (zc2 (zc2 (zc2 zg08d00_dec_35)))))
theorem dX12_fails_9 : decode cX12_fails 9 = .ok (.iadd, 1) := zc1 (zc2 (zc2 (zc2 (zc2 (zc2 (zc2 zg08d00_dec_35))))))
theorem dX12_fails_10 : decode cX12_fails 10 = .ok (.putfield 165, 3) := zc1 (zc2 (zc2 (zc2 (zc2 (zc2 (zc2 (zc2 zg08d00_dec_35)))))))
theorem dX12_fails_13 : decode cX12_fails 13 = .ok (.iconst 0, 1) := zc1 (zc2 (zc2 (zc2 (zc2 (zc2 (zc2 (zc2 (zc2 zg08d00_dec_35))))))))
theorem dX12_fails_14 : decode cX12_fails 14 = .ok (.ireturn, 1) := zc1 (zc2 (zc2 (zc2 (zc2 (zc2 (zc2 (zc2 (zc2 (zc2 zg08d00_dec_35)))))))))
theorem zg08d00_dec_36 : zCj cX12_puts [(0, .aload_n 0, 1), (1, .getfield 47, 3), (4, .aload_n 0, 1), (5, .getfield 168, 3), (8, .iload_n 1, 1), (9, .iastore, 1), (10, .aload_n 0, 1), (11, .dup, 1), (12, .getfield 168, 3), (15, .iconst 1, 1)] := zCo _ 0 (by decide +kernel)
theorem dX12_puts_0 : decode cX12_puts 0 = .ok (.aload_n 0, 1) := zc1 zg08d00_dec_36
theorem dX12_puts_1 : decode cX12_puts 1 = .ok (.getfield 47, 3) := zc1 (zc2 zg08d00_dec_36)
theorem dX12_puts_4 : decode cX12_puts 4 = .ok (.aload_n 0, 1) := zc1 (zc2 (zc2 zg08d00_dec_36))
theorem dX12_puts_5 : decode cX12_puts 5 = .ok (.getfield 168, 3) := zc1 (zc2 (zc2 (zc2 zg08d00_dec_36)))
theorem dX12_puts_8 : decode cX12_puts 8 = .ok (.iload_n 1, 1) := zc1 (zc2 (zc2 (zc2 (zc2 zg08d00_dec_36))))
theorem dX12_puts_9 : decode cX12_puts 9 = .ok (.iastore, 1) := zc1 (zc2 (zc2 (zc2 (zc2 (zc2 zg08d00_dec_36)))))
theorem dX12_puts_10 : decode cX12_puts 10 = .ok (.aload_n 0, 1) := zc1 (zc2 (zc2 (zc2 (zc2 (zc2 (zc2 zg08d00_dec_36))))))
theorem dX12_puts_11 : decode cX12_puts 11 = .ok (.dup, 1) := zc1 (zc2 (zc2 (zc2 (zc2 (zc2 (zc2 (zc2 zg08d00_dec_36)))))))
theorem dX12_puts_12 : decode cX12_puts 12 = .ok (.getfield 168, 3) := zc1 (zc2 (zc2 (zc2 (zc2 (zc2 (zc2 (zc2 (zc2 zg08d00_dec_36))))))))
theorem dX12_puts_15 : decode cX12_puts 15 = .ok (.iconst 1, 1) := zc1 (zc2 (zc2 (zc2 (zc2 (zc2 (zc2 (zc2 (zc2 (zc2 zg08d00_dec_36)))))))))
theorem zg08d00_dec_37 : zCj cX12_puts [(16, .iadd, 1), (17, .putfield 168, 3), (20, .return_, 1)] := zCo _ 16 (by decide +kernel)
theorem dX12_puts_16 : decode cX12_puts 16 = .ok (.iadd, 1) := zc1 zg08d00_dec_37
theorem dX12_puts_17 : decode cX12_puts 17 = .ok (.putfield 168, 3) := zc1 (zc2 zg08d00_dec_37)
theorem dX12_puts_20 : decode cX12_puts 20 = .ok (.return_, 1) := zc1 (zc2 (zc2 zg08d00_dec_37))
theorem zg08d00_dec_38 : zCj cX12_fact [(0, .aload_n 0, 1), (1, .getfield 154, 3), (4, .iconst 1, 1), (5, .if_icmp .eq 5, 3), (8, .iconst 0, 1), (9, .ireturn, 1), (10, .aload_n 0, 1), (11, .getfield 147, 3), (14, .ldc2_w 171, 3), (17, .lcmp, 1)] := zCo _ 0 (by decide +kernel)
theorem dX12_fact_0 : decode cX12_fact 0 = .ok (.aload_n 0, 1) := zc1 zg08d00_dec_38
theorem dX12_fact_1 : decode cX12_fact 1 = .ok (.getfield 154, 3) := zc1 (zc2 zg08d00_dec_38)
theorem dX12_fact_4 : decode cX12_fact 4 = .ok (.iconst 1, 1) := zc1 (zc2 (zc2 zg08d00_dec_38))
theorem dX12_fact_5 : decode cX12_fact 5 = .ok (.if_icmp .eq 5, 3) := zc1 (zc2 (zc2 (zc2 zg08d00_dec_38)))
theorem dX12_fact_8 : decode cX12_fact 8 = .ok (.iconst 0, 1) := zc1 (zc2 (zc2 (zc2 (zc2 zg08d00_dec_38))))
theorem dX12_fact_9 : decode cX12_fact 9 = .ok (.ireturn, 1) := zc1 (zc2 (zc2 (zc2 (zc2 (zc2 zg08d00_dec_38)))))
theorem dX12_fact_10 : decode cX12_fact 10 = .ok (.aload_n 0, 1) := zc1 (zc2 (zc2 (zc2 (zc2 (zc2 (zc2 zg08d00_dec_38))))))
theorem dX12_fact_11 : decode cX12_fact 11 = .ok (.getfield 147, 3) := zc1 (zc2 (zc2 (zc2 (zc2 (zc2 (zc2 (zc2 zg08d00_dec_38)))))))
theorem dX12_fact_14 : decode cX12_fact 14 = .ok (.ldc2_w 171, 3) := zc1 (zc2 (zc2 (zc2 (zc2 (zc2 (zc2 (zc2 (zc2 zg08d00_dec_38))))))))
theorem dX12_fact_17 : decode cX12_fact 17 = .ok (.lcmp, 1) := zc1 (zc2 (zc2 (zc2 (zc2 (zc2 (zc2 (zc2 (zc2 (zc2 zg08d00_dec_38)))))))))
theorem zg08d00_dec_39 : zCj cX12_fact [(18, .ifCond .ne 5, 3), (21, .iconst 1, 1), (22, .ireturn, 1), (23, .aload_n 0, 1), (24, .getfield 147, 3), (27, .ldc2_w 173, 3), (30, .lcmp, 1), (31, .ifCond .ne 5, 3), (34, .iconst 2, 1), (35, .ireturn, 1)] := zCo _ 18 (by decide +kernel)
theorem dX12_fact_18 : decode cX12_fact 18 = .ok (.ifCond .ne 5, 3) := zc1 zg08d00_dec_39
theorem dX12_fact_21 : decode cX12_fact 21 = .ok (.iconst 1, 1) := zc1 (zc2 zg08d00_dec_39)
theorem dX12_fact_22 : decode cX12_fact 22 = .ok (.ireturn, 1) := zc1 (zc2 (zc2 zg08d00_dec_39))
theorem dX12_fact_23 : decode cX12_fact 23 = .ok (.aload_n 0, 1) := zc1 (zc2 (zc2 (zc2 zg08d00_dec_39)))
theorem dX12_fact_24 : decode cX12_fact 24 = .ok (.getfield 147, 3) := zc1 (zc2 (zc2 (zc2 (zc2 zg08d00_dec_39))))
theorem dX12_fact_27 : decode cX12_fact 27 = .ok (.ldc2_w 173, 3) := zc1 (zc2 (zc2 (zc2 (zc2 (zc2 zg08d00_dec_39)))))
theorem dX12_fact_30 : decode cX12_fact 30 = .ok (.lcmp, 1) := zc1 (zc2 (zc2 (zc2 (zc2 (zc2 (zc2 zg08d00_dec_39))))))
theorem dX12_fact_31 : decode cX12_fact 31 = .ok (.ifCond .ne 5, 3) := zc1 (zc2 (zc2 (zc2 (zc2 (zc2 (zc2 (zc2 zg08d00_dec_39)))))))
theorem dX12_fact_34 : decode cX12_fact 34 = .ok (.iconst 2, 1) := zc1 (zc2 (zc2 (zc2 (zc2 (zc2 (zc2 (zc2 (zc2 zg08d00_dec_39))))))))
theorem dX12_fact_35 : decode cX12_fact 35 = .ok (.ireturn, 1) := zc1 (zc2 (zc2 (zc2 (zc2 (zc2 (zc2 (zc2 (zc2 (zc2 zg08d00_dec_39)))))))))
theorem zg08d00_dec_40 : zCj cX12_fact [(36, .aload_n 0, 1), (37, .getfield 147, 3), (40, .ldc2_w 175, 3), (43, .lcmp, 1), (44, .ifCond .ne 7, 3), (47, .iconst 3, 1), (48, .goto 19, 3), (51, .aload_n 0, 1), (52, .getfield 147, 3), (55, .ldc2_w 177, 3)] := zCo _ 36 (by decide +kernel)
theorem dX12_fact_36 : decode cX12_fact 36 = .ok (.aload_n 0, 1) := zc1 zg08d00_dec_40
theorem dX12_fact_37 : decode cX12_fact 37 = .ok (.getfield 147, 3) := zc1 (zc2 zg08d00_dec_40)
theorem dX12_fact_40 : decode cX12_fact 40 = .ok (.ldc2_w 175, 3) := zc1 (zc2 (zc2 zg08d00_dec_40))
theorem dX12_fact_43 : decode cX12_fact 43 = .ok (.lcmp, 1) := zc1 (zc2 (zc2 (zc2 zg08d00_dec_40)))
theorem dX12_fact_44 : decode cX12_fact 44 = .ok (.ifCond .ne 7, 3) := zc1 (zc2 (zc2 (zc2 (zc2 zg08d00_dec_40))))
theorem dX12_fact_47 : decode cX12_fact 47 = .ok (.iconst 3, 1) := zc1 (zc2 (zc2 (zc2 (zc2 (zc2 zg08d00_dec_40)))))
theorem dX12_fact_48 : decode cX12_fact 48 = .ok (.goto 19, 3) := zc1 (zc2 (zc2 (zc2 (zc2 (zc2 (zc2 zg08d00_dec_40))))))
theorem dX12_fact_51 : decode cX12_fact 51 = .ok (.aload_n 0, 1) := zc1 (zc2 (zc2 (zc2 (zc2 (zc2 (zc2 (zc2 zg08d00_dec_40)))))))
theorem dX12_fact_52 : decode cX12_fact 52 = .ok (.getfield 147, 3) := zc1 (zc2 (zc2 (zc2 (zc2 (zc2 (zc2 (zc2 (zc2 zg08d00_dec_40))))))))
theorem dX12_fact_55 : decode cX12_fact 55 = .ok (.ldc2_w 177, 3) := zc1 (zc2 (zc2 (zc2 (zc2 (zc2 (zc2 (zc2 (zc2 (zc2 zg08d00_dec_40)))))))))
theorem zg08d00_dec_41 : zCj cX12_fact [(58, .lcmp, 1), (59, .ifCond .ne 7, 3), (62, .iconst 4, 1), (63, .goto 4, 3), (66, .iconst 0, 1), (67, .ireturn, 1)] := zCo _ 58 (by decide +kernel)
theorem dX12_fact_58 : decode cX12_fact 58 = .ok (.lcmp, 1) := zc1 zg08d00_dec_41
theorem dX12_fact_59 : decode cX12_fact 59 = .ok (.ifCond .ne 7, 3) := zc1 (zc2 zg08d00_dec_41)
theorem dX12_fact_62 : decode cX12_fact 62 = .ok (.iconst 4, 1) := zc1 (zc2 (zc2 zg08d00_dec_41))
theorem dX12_fact_63 : decode cX12_fact 63 = .ok (.goto 4, 3) := zc1 (zc2 (zc2 (zc2 zg08d00_dec_41)))
theorem dX12_fact_66 : decode cX12_fact 66 = .ok (.iconst 0, 1) := zc1 (zc2 (zc2 (zc2 (zc2 zg08d00_dec_41))))
theorem dX12_fact_67 : decode cX12_fact 67 = .ok (.ireturn, 1) := zc1 (zc2 (zc2 (zc2 (zc2 (zc2 zg08d00_dec_41)))))
theorem zg08d00_dec_42 : zCj cX12_reads [(0, .iconst 0, 1), (1, .istore_n 1, 1), (2, .iconst 1, 1), (3, .istore_n 2, 1), (4, .aload_n 0, 1), (5, .getfield 53, 3), (8, .iconst 0, 1), (9, .iconst 0, 1), (10, .bastore, 1), (11, .iload_n 2, 1)] := zCo _ 0 (by decide +kernel)
theorem dX12_reads_0 : decode cX12_reads 0 = .ok (.iconst 0, 1) := zc1 zg08d00_dec_42
theorem dX12_reads_1 : decode cX12_reads 1 = .ok (.istore_n 1, 1) := zc1 (zc2 zg08d00_dec_42)
theorem dX12_reads_2 : decode cX12_reads 2 = .ok (.iconst 1, 1) := zc1 (zc2 (zc2 zg08d00_dec_42))
theorem dX12_reads_3 : decode cX12_reads 3 = .ok (.istore_n 2, 1) := zc1 (zc2 (zc2 (zc2 zg08d00_dec_42)))
theorem dX12_reads_4 : decode cX12_reads 4 = .ok (.aload_n 0, 1) := zc1 (zc2 (zc2 (zc2 (zc2 zg08d00_dec_42))))
theorem dX12_reads_5 : decode cX12_reads 5 = .ok (.getfield 53, 3) := zc1 (zc2 (zc2 (zc2 (zc2 (zc2 zg08d00_dec_42)))))
theorem dX12_reads_8 : decode cX12_reads 8 = .ok (.iconst 0, 1) := zc1 (zc2 (zc2 (zc2 (zc2 (zc2 (zc2 zg08d00_dec_42))))))
theorem dX12_reads_9 : decode cX12_reads 9 = .ok (.iconst 0, 1) := zc1 (zc2 (zc2 (zc2 (zc2 (zc2 (zc2 (zc2 zg08d00_dec_42)))))))
theorem dX12_reads_10 : decode cX12_reads 10 = .ok (.bastore, 1) := zc1 (zc2 (zc2 (zc2 (zc2 (zc2 (zc2 (zc2 (zc2 zg08d00_dec_42))))))))
theorem dX12_reads_11 : decode cX12_reads 11 = .ok (.iload_n 2, 1) := zc1 (zc2 (zc2 (zc2 (zc2 (zc2 (zc2 (zc2 (zc2 (zc2 zg08d00_dec_42)))))))))
theorem zg08d00_dec_43 : zCj cX12_reads [(12, .ifCond .eq 167, 3), (15, .aload_n 0, 1), (16, .invokevirtual 179, 3), (19, .istore_n 3, 1), (20, .aload_n 0, 1), (21, .ldc2_w 183, 3), (24, .invokevirtual 185, 3), (27, .istore 4, 2), (29, .aload_n 0, 1), (30, .bipush 40, 2)] := zCo _ 12 (by decide +kernel)
theorem dX12_reads_12 : decode cX12_reads 12 = .ok (.ifCond .eq 167, 3) := zc1 zg08d00_dec_43
theorem dX12_reads_15 : decode cX12_reads 15 = .ok (.aload_n 0, 1) := zc1 (zc2 zg08d00_dec_43)
theorem dX12_reads_16 : decode cX12_reads 16 = .ok (.invokevirtual 179, 3) := zc1 (zc2 (zc2 zg08d00_dec_43))
theorem dX12_reads_19 : decode cX12_reads 19 = .ok (.istore_n 3, 1) := zc1 (zc2 (zc2 (zc2 zg08d00_dec_43)))
theorem dX12_reads_20 : decode cX12_reads 20 = .ok (.aload_n 0, 1) := zc1 (zc2 (zc2 (zc2 (zc2 zg08d00_dec_43))))
theorem dX12_reads_21 : decode cX12_reads 21 = .ok (.ldc2_w 183, 3) := zc1 (zc2 (zc2 (zc2 (zc2 (zc2 zg08d00_dec_43)))))
theorem dX12_reads_24 : decode cX12_reads 24 = .ok (.invokevirtual 185, 3) := zc1 (zc2 (zc2 (zc2 (zc2 (zc2 (zc2 zg08d00_dec_43))))))
theorem dX12_reads_27 : decode cX12_reads 27 = .ok (.istore 4, 2) := zc1 (zc2 (zc2 (zc2 (zc2 (zc2 (zc2 (zc2 zg08d00_dec_43)))))))
theorem dX12_reads_29 : decode cX12_reads 29 = .ok (.aload_n 0, 1) := zc1 (zc2 (zc2 (zc2 (zc2 (zc2 (zc2 (zc2 (zc2 zg08d00_dec_43))))))))
theorem dX12_reads_30 : decode cX12_reads 30 = .ok (.bipush 40, 2) := zc1 (zc2 (zc2 (zc2 (zc2 (zc2 (zc2 (zc2 (zc2 (zc2 zg08d00_dec_43)))))))))
theorem zg08d00_dec_44 : zCj cX12_reads [(32, .invokevirtual 189, 3), (35, .istore 5, 2), (37, .iload_n 3, 1), (38, .ifCond .ne 27, 3), (41, .iload 4, 2), (43, .ifCond .ne 22, 3), (46, .iload 5, 2), (48, .ifCond .ne 17, 3), (51, .aload_n 0, 1), (52, .getfield 154, 3)] := zCo _ 32 (by decide +kernel)
theorem dX12_reads_32 : decode cX12_reads 32 = .ok (.invokevirtual 189, 3) := zc1 zg08d00_dec_44
theorem dX12_reads_35 : decode cX12_reads 35 = .ok (.istore 5, 2) := zc1 (zc2 zg08d00_dec_44)
theorem dX12_reads_37 : decode cX12_reads 37 = .ok (.iload_n 3, 1) := zc1 (zc2 (zc2 zg08d00_dec_44))
theorem dX12_reads_38 : decode cX12_reads 38 = .ok (.ifCond .ne 27, 3) := zc1 (zc2 (zc2 (zc2 zg08d00_dec_44)))
theorem dX12_reads_41 : decode cX12_reads 41 = .ok (.iload 4, 2) := zc1 (zc2 (zc2 (zc2 (zc2 zg08d00_dec_44))))
theorem dX12_reads_43 : decode cX12_reads 43 = .ok (.ifCond .ne 22, 3) := zc1 (zc2 (zc2 (zc2 (zc2 (zc2 zg08d00_dec_44)))))
theorem dX12_reads_46 : decode cX12_reads 46 = .ok (.iload 5, 2) := zc1 (zc2 (zc2 (zc2 (zc2 (zc2 (zc2 zg08d00_dec_44))))))
theorem dX12_reads_48 : decode cX12_reads 48 = .ok (.ifCond .ne 17, 3) := zc1 (zc2 (zc2 (zc2 (zc2 (zc2 (zc2 (zc2 zg08d00_dec_44)))))))
theorem dX12_reads_51 : decode cX12_reads 51 = .ok (.aload_n 0, 1) := zc1 (zc2 (zc2 (zc2 (zc2 (zc2 (zc2 (zc2 (zc2 zg08d00_dec_44))))))))
theorem dX12_reads_52 : decode cX12_reads 52 = .ok (.getfield 154, 3) := zc1 (zc2 (zc2 (zc2 (zc2 (zc2 (zc2 (zc2 (zc2 (zc2 zg08d00_dec_44)))))))))
theorem zg08d00_dec_45 : zCj cX12_reads [(55, .iconst 2, 1), (56, .if_icmp .eq 9, 3), (59, .aload_n 0, 1), (60, .iconst 1, 1), (61, .invokevirtual 193, 3), (64, .ireturn, 1), (65, .iload_n 1, 1), (66, .iconst 5, 1), (67, .if_icmp .ne 9, 3), (70, .aload_n 0, 1)] := zCo _ 55 (by decide +kernel)
theorem dX12_reads_55 : decode cX12_reads 55 = .ok (.iconst 2, 1) := zc1 zg08d00_dec_45
theorem dX12_reads_56 : decode cX12_reads 56 = .ok (.if_icmp .eq 9, 3) := zc1 (zc2 zg08d00_dec_45)
theorem dX12_reads_59 : decode cX12_reads 59 = .ok (.aload_n 0, 1) := zc1 (zc2 (zc2 zg08d00_dec_45))
theorem dX12_reads_60 : decode cX12_reads 60 = .ok (.iconst 1, 1) := zc1 (zc2 (zc2 (zc2 zg08d00_dec_45)))
theorem dX12_reads_61 : decode cX12_reads 61 = .ok (.invokevirtual 193, 3) := zc1 (zc2 (zc2 (zc2 (zc2 zg08d00_dec_45))))
theorem dX12_reads_64 : decode cX12_reads 64 = .ok (.ireturn, 1) := zc1 (zc2 (zc2 (zc2 (zc2 (zc2 zg08d00_dec_45)))))
theorem dX12_reads_65 : decode cX12_reads 65 = .ok (.iload_n 1, 1) := zc1 (zc2 (zc2 (zc2 (zc2 (zc2 (zc2 zg08d00_dec_45))))))
theorem dX12_reads_66 : decode cX12_reads 66 = .ok (.iconst 5, 1) := zc1 (zc2 (zc2 (zc2 (zc2 (zc2 (zc2 (zc2 zg08d00_dec_45)))))))
theorem dX12_reads_67 : decode cX12_reads 67 = .ok (.if_icmp .ne 9, 3) := zc1 (zc2 (zc2 (zc2 (zc2 (zc2 (zc2 (zc2 (zc2 zg08d00_dec_45))))))))
theorem dX12_reads_70 : decode cX12_reads 70 = .ok (.aload_n 0, 1) := zc1 (zc2 (zc2 (zc2 (zc2 (zc2 (zc2 (zc2 (zc2 (zc2 zg08d00_dec_45)))))))))
theorem zg08d00_dec_46 : zCj cX12_reads [(71, .iconst 5, 1), (72, .invokevirtual 193, 3), (75, .ireturn, 1), (76, .iload 4, 2), (78, .ifCond .ne 8, 3), (81, .iload 5, 2), (83, .ifCond .eq 48, 3), (86, .aload_n 0, 1), (87, .iload 4, 2), (89, .ifCond .eq 8, 3)] := zCo _ 71 (by decide +kernel)
theorem dX12_reads_71 : decode cX12_reads 71 = .ok (.iconst 5, 1) := zc1 zg08d00_dec_46
theorem dX12_reads_72 : decode cX12_reads 72 = .ok (.invokevirtual 193, 3) := zc1 (zc2 zg08d00_dec_46)
theorem dX12_reads_75 : decode cX12_reads 75 = .ok (.ireturn, 1) := zc1 (zc2 (zc2 zg08d00_dec_46))
theorem dX12_reads_76 : decode cX12_reads 76 = .ok (.iload 4, 2) := zc1 (zc2 (zc2 (zc2 zg08d00_dec_46)))
theorem dX12_reads_78 : decode cX12_reads 78 = .ok (.ifCond .ne 8, 3) := zc1 (zc2 (zc2 (zc2 (zc2 zg08d00_dec_46))))
theorem dX12_reads_81 : decode cX12_reads 81 = .ok (.iload 5, 2) := zc1 (zc2 (zc2 (zc2 (zc2 (zc2 zg08d00_dec_46)))))
theorem dX12_reads_83 : decode cX12_reads 83 = .ok (.ifCond .eq 48, 3) := zc1 (zc2 (zc2 (zc2 (zc2 (zc2 (zc2 zg08d00_dec_46))))))
theorem dX12_reads_86 : decode cX12_reads 86 = .ok (.aload_n 0, 1) := zc1 (zc2 (zc2 (zc2 (zc2 (zc2 (zc2 (zc2 zg08d00_dec_46)))))))
theorem dX12_reads_87 : decode cX12_reads 87 = .ok (.iload 4, 2) := zc1 (zc2 (zc2 (zc2 (zc2 (zc2 (zc2 (zc2 (zc2 zg08d00_dec_46))))))))
theorem dX12_reads_89 : decode cX12_reads 89 = .ok (.ifCond .eq 8, 3) := zc1 (zc2 (zc2 (zc2 (zc2 (zc2 (zc2 (zc2 (zc2 (zc2 zg08d00_dec_46)))))))))
theorem zg08d00_dec_47 : zCj cX12_reads [(92, .bipush 30, 2), (94, .goto 5, 3), (97, .bipush 28, 2), (99, .invokevirtual 196, 3), (102, .iinc 1 1, 3), (105, .aload_n 0, 1), (106, .getfield 50, 3), (109, .iload_n 1, 1), (110, .iload 4, 2), (112, .ifCond .eq 7, 3)] := zCo _ 92 (by decide +kernel)
theorem dX12_reads_92 : decode cX12_reads 92 = .ok (.bipush 30, 2) := zc1 zg08d00_dec_47
theorem dX12_reads_94 : decode cX12_reads 94 = .ok (.goto 5, 3) := zc1 (zc2 zg08d00_dec_47)
theorem dX12_reads_97 : decode cX12_reads 97 = .ok (.bipush 28, 2) := zc1 (zc2 (zc2 zg08d00_dec_47))
theorem dX12_reads_99 : decode cX12_reads 99 = .ok (.invokevirtual 196, 3) := zc1 (zc2 (zc2 (zc2 zg08d00_dec_47)))
theorem dX12_reads_102 : decode cX12_reads 102 = .ok (.iinc 1 1, 3) := zc1 (zc2 (zc2 (zc2 (zc2 zg08d00_dec_47))))
theorem dX12_reads_105 : decode cX12_reads 105 = .ok (.aload_n 0, 1) := zc1 (zc2 (zc2 (zc2 (zc2 (zc2 zg08d00_dec_47)))))
theorem dX12_reads_106 : decode cX12_reads 106 = .ok (.getfield 50, 3) := zc1 (zc2 (zc2 (zc2 (zc2 (zc2 (zc2 zg08d00_dec_47))))))
theorem dX12_reads_109 : decode cX12_reads 109 = .ok (.iload_n 1, 1) := zc1 (zc2 (zc2 (zc2 (zc2 (zc2 (zc2 (zc2 zg08d00_dec_47)))))))
theorem dX12_reads_110 : decode cX12_reads 110 = .ok (.iload 4, 2) := zc1 (zc2 (zc2 (zc2 (zc2 (zc2 (zc2 (zc2 (zc2 zg08d00_dec_47))))))))
theorem dX12_reads_112 : decode cX12_reads 112 = .ok (.ifCond .eq 7, 3) := zc1 (zc2 (zc2 (zc2 (zc2 (zc2 (zc2 (zc2 (zc2 (zc2 zg08d00_dec_47)))))))))
theorem zg08d00_dec_48 : zCj cX12_reads [(115, .iconst 1, 1), (116, .goto 4, 3)] := zCo _ 115 (by decide +kernel)
theorem dX12_reads_115 : decode cX12_reads 115 = .ok (.iconst 1, 1) := zc1 zg08d00_dec_48
theorem dX12_reads_116 : decode cX12_reads 116 = .ok (.goto 4, 3) := zc1 (zc2 zg08d00_dec_48)
theorem zg08d01_dec_0 : zCj cX12_reads [(119, .iconst 2, 1), (120, .iastore, 1), (121, .aload_n 0, 1), (122, .getfield 53, 3), (125, .iload_n 1, 1), (126, .iconst 0, 1), (127, .bastore, 1), (128, .goto 44, 3), (131, .aload_n 0, 1), (132, .iload_n 3, 1)] := zCo _ 119 (by decide +kernel)
theorem dX12_reads_119 : decode cX12_reads 119 = .ok (.iconst 2, 1) := zc1 zg08d01_dec_0
theorem dX12_reads_120 : decode cX12_reads 120 = .ok (.iastore, 1) := zc1 (zc2 zg08d01_dec_0)
theorem dX12_reads_121 : decode cX12_reads 121 = .ok (.aload_n 0, 1) := zc1 (zc2 (zc2 zg08d01_dec_0))
theorem dX12_reads_122 : decode cX12_reads 122 = .ok (.getfield 53, 3) := zc1 (zc2 (zc2 (zc2 zg08d01_dec_0)))
theorem dX12_reads_125 : decode cX12_reads 125 = .ok (.iload_n 1, 1) := zc1 (zc2 (zc2 (zc2 (zc2 zg08d01_dec_0))))
theorem dX12_reads_126 : decode cX12_reads 126 = .ok (.iconst 0, 1) := zc1 (zc2 (zc2 (zc2 (zc2 (zc2 zg08d01_dec_0)))))
theorem dX12_reads_127 : decode cX12_reads 127 = .ok (.bastore, 1) := zc1 (zc2 (zc2 (zc2 (zc2 (zc2 (zc2 zg08d01_dec_0))))))
theorem dX12_reads_128 : decode cX12_reads 128 = .ok (.goto 44, 3) := zc1 (zc2 (zc2 (zc2 (zc2 (zc2 (zc2 (zc2 zg08d01_dec_0)))))))
theorem dX12_reads_131 : decode cX12_reads 131 = .ok (.aload_n 0, 1) := zc1 (zc2 (zc2 (zc2 (zc2 (zc2 (zc2 (zc2 (zc2 zg08d01_dec_0))))))))
theorem dX12_reads_132 : decode cX12_reads 132 = .ok (.iload_n 3, 1) := zc1 (zc2 (zc2 (zc2 (zc2 (zc2 (zc2 (zc2 (zc2 (zc2 zg08d01_dec_0)))))))))
theorem zg08d01_dec_1 : zCj cX12_reads [(133, .ifCond .le 7, 3), (136, .iload_n 3, 1), (137, .goto 10, 3), (140, .bipush 100, 2), (142, .aload_n 0, 1), (143, .getfield 151, 3), (146, .iadd, 1), (147, .invokevirtual 196, 3), (150, .iconst 0, 1), (151, .istore_n 2, 1)] := zCo _ 133 (by decide +kernel)
theorem dX12_reads_133 : decode cX12_reads 133 = .ok (.ifCond .le 7, 3) := zc1 zg08d01_dec_1
theorem dX12_reads_136 : decode cX12_reads 136 = .ok (.iload_n 3, 1) := zc1 (zc2 zg08d01_dec_1)
theorem dX12_reads_137 : decode cX12_reads 137 = .ok (.goto 10, 3) := zc1 (zc2 (zc2 zg08d01_dec_1))
theorem dX12_reads_140 : decode cX12_reads 140 = .ok (.bipush 100, 2) := zc1 (zc2 (zc2 (zc2 zg08d01_dec_1)))
theorem dX12_reads_142 : decode cX12_reads 142 = .ok (.aload_n 0, 1) := zc1 (zc2 (zc2 (zc2 (zc2 zg08d01_dec_1))))
theorem dX12_reads_143 : decode cX12_reads 143 = .ok (.getfield 151, 3) := zc1 (zc2 (zc2 (zc2 (zc2 (zc2 zg08d01_dec_1)))))
theorem dX12_reads_146 : decode cX12_reads 146 = .ok (.iadd, 1) := zc1 (zc2 (zc2 (zc2 (zc2 (zc2 (zc2 zg08d01_dec_1))))))
theorem dX12_reads_147 : decode cX12_reads 147 = .ok (.invokevirtual 196, 3) := zc1 (zc2 (zc2 (zc2 (zc2 (zc2 (zc2 (zc2 zg08d01_dec_1)))))))
theorem dX12_reads_150 : decode cX12_reads 150 = .ok (.iconst 0, 1) := zc1 (zc2 (zc2 (zc2 (zc2 (zc2 (zc2 (zc2 (zc2 zg08d01_dec_1))))))))
theorem dX12_reads_151 : decode cX12_reads 151 = .ok (.istore_n 2, 1) := zc1 (zc2 (zc2 (zc2 (zc2 (zc2 (zc2 (zc2 (zc2 (zc2 zg08d01_dec_1)))))))))
theorem zg08d01_dec_2 : zCj cX12_reads [(152, .iload_n 1, 1), (153, .ifCond .le 19, 3), (156, .aload_n 0, 1), (157, .getfield 50, 3), (160, .iload_n 1, 1), (161, .iaload, 1), (162, .iconst 1, 1), (163, .if_icmp .ne 9, 3), (166, .iinc 1 (-1), 3), (169, .goto (-17), 3)] := zCo _ 152 (by decide +kernel)
theorem dX12_reads_152 : decode cX12_reads 152 = .ok (.iload_n 1, 1) := zc1 zg08d01_dec_2
theorem dX12_reads_153 : decode cX12_reads 153 = .ok (.ifCond .le 19, 3) := zc1 (zc2 zg08d01_dec_2)
theorem dX12_reads_156 : decode cX12_reads 156 = .ok (.aload_n 0, 1) := zc1 (zc2 (zc2 zg08d01_dec_2))
theorem dX12_reads_157 : decode cX12_reads 157 = .ok (.getfield 50, 3) := zc1 (zc2 (zc2 (zc2 zg08d01_dec_2)))
theorem dX12_reads_160 : decode cX12_reads 160 = .ok (.iload_n 1, 1) := zc1 (zc2 (zc2 (zc2 (zc2 zg08d01_dec_2))))
theorem dX12_reads_161 : decode cX12_reads 161 = .ok (.iaload, 1) := zc1 (zc2 (zc2 (zc2 (zc2 (zc2 zg08d01_dec_2)))))
theorem dX12_reads_162 : decode cX12_reads 162 = .ok (.iconst 1, 1) := zc1 (zc2 (zc2 (zc2 (zc2 (zc2 (zc2 zg08d01_dec_2))))))
theorem dX12_reads_163 : decode cX12_reads 163 = .ok (.if_icmp .ne 9, 3) := zc1 (zc2 (zc2 (zc2 (zc2 (zc2 (zc2 (zc2 zg08d01_dec_2)))))))
theorem dX12_reads_166 : decode cX12_reads 166 = .ok (.iinc 1 (-1), 3) := zc1 (zc2 (zc2 (zc2 (zc2 (zc2 (zc2 (zc2 (zc2 zg08d01_dec_2))))))))
theorem dX12_reads_169 : decode cX12_reads 169 = .ok (.goto (-17), 3) := zc1 (zc2 (zc2 (zc2 (zc2 (zc2 (zc2 (zc2 (zc2 (zc2 zg08d01_dec_2)))))))))
theorem zg08d01_dec_3 : zCj cX12_reads [(172, .aload_n 0, 1), (173, .invokevirtual 200, 3), (176, .goto (-165), 3), (179, .aload_n 0, 1), (180, .bipush 43, 2), (182, .invokevirtual 189, 3), (185, .ifCond .ne 21, 3), (188, .aload_n 0, 1), (189, .bipush 45, 2), (191, .invokevirtual 189, 3)] := zCo _ 172 (by decide +kernel)
theorem dX12_reads_172 : decode cX12_reads 172 = .ok (.aload_n 0, 1) := zc1 zg08d01_dec_3
theorem dX12_reads_173 : decode cX12_reads 173 = .ok (.invokevirtual 200, 3) := zc1 (zc2 zg08d01_dec_3)
theorem dX12_reads_176 : decode cX12_reads 176 = .ok (.goto (-165), 3) := zc1 (zc2 (zc2 zg08d01_dec_3))
theorem dX12_reads_179 : decode cX12_reads 179 = .ok (.aload_n 0, 1) := zc1 (zc2 (zc2 (zc2 zg08d01_dec_3)))
theorem dX12_reads_180 : decode cX12_reads 180 = .ok (.bipush 43, 2) := zc1 (zc2 (zc2 (zc2 (zc2 zg08d01_dec_3))))
theorem dX12_reads_182 : decode cX12_reads 182 = .ok (.invokevirtual 189, 3) := zc1 (zc2 (zc2 (zc2 (zc2 (zc2 zg08d01_dec_3)))))
theorem dX12_reads_185 : decode cX12_reads 185 = .ok (.ifCond .ne 21, 3) := zc1 (zc2 (zc2 (zc2 (zc2 (zc2 (zc2 zg08d01_dec_3))))))
theorem dX12_reads_188 : decode cX12_reads 188 = .ok (.aload_n 0, 1) := zc1 (zc2 (zc2 (zc2 (zc2 (zc2 (zc2 (zc2 zg08d01_dec_3)))))))
theorem dX12_reads_189 : decode cX12_reads 189 = .ok (.bipush 45, 2) := zc1 (zc2 (zc2 (zc2 (zc2 (zc2 (zc2 (zc2 (zc2 zg08d01_dec_3))))))))
theorem dX12_reads_191 : decode cX12_reads 191 = .ok (.invokevirtual 189, 3) := zc1 (zc2 (zc2 (zc2 (zc2 (zc2 (zc2 (zc2 (zc2 (zc2 zg08d01_dec_3)))))))))
theorem zg08d01_dec_4 : zCj cX12_reads [(194, .ifCond .ne 12, 3), (197, .aload_n 0, 1), (198, .bipush 42, 2), (200, .invokevirtual 189, 3), (203, .ifCond .eq 42, 3), (206, .aload_n 0, 1), (207, .aload_n 0, 1), (208, .bipush 43, 2), (210, .invokevirtual 189, 3), (213, .ifCond .eq 8, 3)] := zCo _ 194 (by decide +kernel)
theorem dX12_reads_194 : decode cX12_reads 194 = .ok (.ifCond .ne 12, 3) := zc1 zg08d01_dec_4
theorem dX12_reads_197 : decode cX12_reads 197 = .ok (.aload_n 0, 1) := zc1 (zc2 zg08d01_dec_4)
theorem dX12_reads_198 : decode cX12_reads 198 = .ok (.bipush 42, 2) := zc1 (zc2 (zc2 zg08d01_dec_4))
theorem dX12_reads_200 : decode cX12_reads 200 = .ok (.invokevirtual 189, 3) := zc1 (zc2 (zc2 (zc2 zg08d01_dec_4)))
theorem dX12_reads_203 : decode cX12_reads 203 = .ok (.ifCond .eq 42, 3) := zc1 (zc2 (zc2 (zc2 (zc2 zg08d01_dec_4))))
theorem dX12_reads_206 : decode cX12_reads 206 = .ok (.aload_n 0, 1) := zc1 (zc2 (zc2 (zc2 (zc2 (zc2 zg08d01_dec_4)))))
theorem dX12_reads_207 : decode cX12_reads 207 = .ok (.aload_n 0, 1) := zc1 (zc2 (zc2 (zc2 (zc2 (zc2 (zc2 zg08d01_dec_4))))))
theorem dX12_reads_208 : decode cX12_reads 208 = .ok (.bipush 43, 2) := zc1 (zc2 (zc2 (zc2 (zc2 (zc2 (zc2 (zc2 zg08d01_dec_4)))))))
theorem dX12_reads_210 : decode cX12_reads 210 = .ok (.invokevirtual 189, 3) := zc1 (zc2 (zc2 (zc2 (zc2 (zc2 (zc2 (zc2 (zc2 zg08d01_dec_4))))))))
theorem dX12_reads_213 : decode cX12_reads 213 = .ok (.ifCond .eq 8, 3) := zc1 (zc2 (zc2 (zc2 (zc2 (zc2 (zc2 (zc2 (zc2 (zc2 zg08d01_dec_4)))))))))
theorem zg08d01_dec_5 : zCj cX12_reads [(216, .bipush 20, 2), (218, .goto 19, 3), (221, .aload_n 0, 1), (222, .bipush 45, 2), (224, .invokevirtual 189, 3), (227, .ifCond .eq 8, 3), (230, .bipush 21, 2), (232, .goto 5, 3), (235, .bipush 22, 2), (237, .invokevirtual 196, 3)] := zCo _ 216 (by decide +kernel)
theorem dX12_reads_216 : decode cX12_reads 216 = .ok (.bipush 20, 2) := zc1 zg08d01_dec_5
theorem dX12_reads_218 : decode cX12_reads 218 = .ok (.goto 19, 3) := zc1 (zc2 zg08d01_dec_5)
theorem dX12_reads_221 : decode cX12_reads 221 = .ok (.aload_n 0, 1) := zc1 (zc2 (zc2 zg08d01_dec_5))
theorem dX12_reads_222 : decode cX12_reads 222 = .ok (.bipush 45, 2) := zc1 (zc2 (zc2 (zc2 zg08d01_dec_5)))
theorem dX12_reads_224 : decode cX12_reads 224 = .ok (.invokevirtual 189, 3) := zc1 (zc2 (zc2 (zc2 (zc2 zg08d01_dec_5))))
theorem dX12_reads_227 : decode cX12_reads 227 = .ok (.ifCond .eq 8, 3) := zc1 (zc2 (zc2 (zc2 (zc2 (zc2 zg08d01_dec_5)))))
theorem dX12_reads_230 : decode cX12_reads 230 = .ok (.bipush 21, 2) := zc1 (zc2 (zc2 (zc2 (zc2 (zc2 (zc2 zg08d01_dec_5))))))
theorem dX12_reads_232 : decode cX12_reads 232 = .ok (.goto 5, 3) := zc1 (zc2 (zc2 (zc2 (zc2 (zc2 (zc2 (zc2 zg08d01_dec_5)))))))
theorem dX12_reads_235 : decode cX12_reads 235 = .ok (.bipush 22, 2) := zc1 (zc2 (zc2 (zc2 (zc2 (zc2 (zc2 (zc2 (zc2 zg08d01_dec_5))))))))
theorem dX12_reads_237 : decode cX12_reads 237 = .ok (.invokevirtual 196, 3) := zc1 (zc2 (zc2 (zc2 (zc2 (zc2 (zc2 (zc2 (zc2 (zc2 zg08d01_dec_5)))))))))
theorem zg08d01_dec_6 : zCj cX12_reads [(240, .iconst 1, 1), (241, .istore_n 2, 1), (242, .goto 182, 3), (245, .aload_n 0, 1), (246, .bipush 60, 2), (248, .invokevirtual 189, 3), (251, .ifCond .ne 12, 3), (254, .aload_n 0, 1), (255, .bipush 61, 2), (257, .invokevirtual 189, 3)] := zCo _ 240 (by decide +kernel)
theorem dX12_reads_240 : decode cX12_reads 240 = .ok (.iconst 1, 1) := zc1 zg08d01_dec_6
theorem dX12_reads_241 : decode cX12_reads 241 = .ok (.istore_n 2, 1) := zc1 (zc2 zg08d01_dec_6)
theorem dX12_reads_242 : decode cX12_reads 242 = .ok (.goto 182, 3) := zc1 (zc2 (zc2 zg08d01_dec_6))
theorem dX12_reads_245 : decode cX12_reads 245 = .ok (.aload_n 0, 1) := zc1 (zc2 (zc2 (zc2 zg08d01_dec_6)))
theorem dX12_reads_246 : decode cX12_reads 246 = .ok (.bipush 60, 2) := zc1 (zc2 (zc2 (zc2 (zc2 zg08d01_dec_6))))
theorem dX12_reads_248 : decode cX12_reads 248 = .ok (.invokevirtual 189, 3) := zc1 (zc2 (zc2 (zc2 (zc2 (zc2 zg08d01_dec_6)))))
theorem dX12_reads_251 : decode cX12_reads 251 = .ok (.ifCond .ne 12, 3) := zc1 (zc2 (zc2 (zc2 (zc2 (zc2 (zc2 zg08d01_dec_6))))))
theorem dX12_reads_254 : decode cX12_reads 254 = .ok (.aload_n 0, 1) := zc1 (zc2 (zc2 (zc2 (zc2 (zc2 (zc2 (zc2 zg08d01_dec_6)))))))
theorem dX12_reads_255 : decode cX12_reads 255 = .ok (.bipush 61, 2) := zc1 (zc2 (zc2 (zc2 (zc2 (zc2 (zc2 (zc2 (zc2 zg08d01_dec_6))))))))
theorem dX12_reads_257 : decode cX12_reads 257 = .ok (.invokevirtual 189, 3) := zc1 (zc2 (zc2 (zc2 (zc2 (zc2 (zc2 (zc2 (zc2 (zc2 zg08d01_dec_6)))))))))
theorem zg08d01_dec_7 : zCj cX12_reads [(260, .ifCond .eq 44, 3), (263, .aload_n 0, 1), (264, .getfield 53, 3), (267, .iload_n 1, 1), (268, .baload, 1), (269, .ifCond .ne 35, 3), (272, .aload_n 0, 1), (273, .aload_n 0, 1), (274, .bipush 60, 2), (276, .invokevirtual 189, 3)] := zCo _ 260 (by decide +kernel)
theorem dX12_reads_260 : decode cX12_reads 260 = .ok (.ifCond .eq 44, 3) := zc1 zg08d01_dec_7
theorem dX12_reads_263 : decode cX12_reads 263 = .ok (.aload_n 0, 1) := zc1 (zc2 zg08d01_dec_7)
theorem dX12_reads_264 : decode cX12_reads 264 = .ok (.getfield 53, 3) := zc1 (zc2 (zc2 zg08d01_dec_7))
theorem dX12_reads_267 : decode cX12_reads 267 = .ok (.iload_n 1, 1) := zc1 (zc2 (zc2 (zc2 zg08d01_dec_7)))
theorem dX12_reads_268 : decode cX12_reads 268 = .ok (.baload, 1) := zc1 (zc2 (zc2 (zc2 (zc2 zg08d01_dec_7))))
theorem dX12_reads_269 : decode cX12_reads 269 = .ok (.ifCond .ne 35, 3) := zc1 (zc2 (zc2 (zc2 (zc2 (zc2 zg08d01_dec_7)))))
theorem dX12_reads_272 : decode cX12_reads 272 = .ok (.aload_n 0, 1) := zc1 (zc2 (zc2 (zc2 (zc2 (zc2 (zc2 zg08d01_dec_7))))))
theorem dX12_reads_273 : decode cX12_reads 273 = .ok (.aload_n 0, 1) := zc1 (zc2 (zc2 (zc2 (zc2 (zc2 (zc2 (zc2 zg08d01_dec_7)))))))
theorem dX12_reads_274 : decode cX12_reads 274 = .ok (.bipush 60, 2) := zc1 (zc2 (zc2 (zc2 (zc2 (zc2 (zc2 (zc2 (zc2 zg08d01_dec_7))))))))
theorem dX12_reads_276 : decode cX12_reads 276 = .ok (.invokevirtual 189, 3) := zc1 (zc2 (zc2 (zc2 (zc2 (zc2 (zc2 (zc2 (zc2 (zc2 zg08d01_dec_7)))))))))
theorem zg08d01_dec_8 : zCj cX12_reads [(279, .ifCond .eq 8, 3), (282, .bipush 24, 2), (284, .goto 5, 3), (287, .bipush 25, 2), (289, .invokevirtual 196, 3), (292, .aload_n 0, 1), (293, .getfield 53, 3), (296, .iload_n 1, 1), (297, .iconst 1, 1), (298, .bastore, 1)] := zCo _ 279 (by decide +kernel)
theorem dX12_reads_279 : decode cX12_reads 279 = .ok (.ifCond .eq 8, 3) := zc1 zg08d01_dec_8
theorem dX12_reads_282 : decode cX12_reads 282 = .ok (.bipush 24, 2) := zc1 (zc2 zg08d01_dec_8)
theorem dX12_reads_284 : decode cX12_reads 284 = .ok (.goto 5, 3) := zc1 (zc2 (zc2 zg08d01_dec_8))
theorem dX12_reads_287 : decode cX12_reads 287 = .ok (.bipush 25, 2) := zc1 (zc2 (zc2 (zc2 zg08d01_dec_8)))
theorem dX12_reads_289 : decode cX12_reads 289 = .ok (.invokevirtual 196, 3) := zc1 (zc2 (zc2 (zc2 (zc2 zg08d01_dec_8))))
theorem dX12_reads_292 : decode cX12_reads 292 = .ok (.aload_n 0, 1) := zc1 (zc2 (zc2 (zc2 (zc2 (zc2 zg08d01_dec_8)))))
theorem dX12_reads_293 : decode cX12_reads 293 = .ok (.getfield 53, 3) := zc1 (zc2 (zc2 (zc2 (zc2 (zc2 (zc2 zg08d01_dec_8))))))
theorem dX12_reads_296 : decode cX12_reads 296 = .ok (.iload_n 1, 1) := zc1 (zc2 (zc2 (zc2 (zc2 (zc2 (zc2 (zc2 zg08d01_dec_8)))))))
theorem dX12_reads_297 : decode cX12_reads 297 = .ok (.iconst 1, 1) := zc1 (zc2 (zc2 (zc2 (zc2 (zc2 (zc2 (zc2 (zc2 zg08d01_dec_8))))))))
theorem dX12_reads_298 : decode cX12_reads 298 = .ok (.bastore, 1) := zc1 (zc2 (zc2 (zc2 (zc2 (zc2 (zc2 (zc2 (zc2 (zc2 zg08d01_dec_8)))))))))
theorem zg08d01_dec_9 : zCj cX12_reads [(299, .iconst 1, 1), (300, .istore_n 2, 1), (301, .goto 123, 3), (304, .aload_n 0, 1), (305, .ldc2_w 203, 3), (308, .invokevirtual 185, 3), (311, .ifCond .ne 13, 3), (314, .aload_n 0, 1), (315, .ldc2_w 205, 3), (318, .invokevirtual 185, 3)] := zCo _ 299 (by decide +kernel)
theorem dX12_reads_299 : decode cX12_reads 299 = .ok (.iconst 1, 1) := zc1 zg08d01_dec_9
theorem dX12_reads_300 : decode cX12_reads 300 = .ok (.istore_n 2, 1) := zc1 (zc2 zg08d01_dec_9)
theorem dX12_reads_301 : decode cX12_reads 301 = .ok (.goto 123, 3) := zc1 (zc2 (zc2 zg08d01_dec_9))
theorem dX12_reads_304 : decode cX12_reads 304 = .ok (.aload_n 0, 1) := zc1 (zc2 (zc2 (zc2 zg08d01_dec_9)))
theorem dX12_reads_305 : decode cX12_reads 305 = .ok (.ldc2_w 203, 3) := zc1 (zc2 (zc2 (zc2 (zc2 zg08d01_dec_9))))
theorem dX12_reads_308 : decode cX12_reads 308 = .ok (.invokevirtual 185, 3) := zc1 (zc2 (zc2 (zc2 (zc2 (zc2 zg08d01_dec_9)))))
theorem dX12_reads_311 : decode cX12_reads 311 = .ok (.ifCond .ne 13, 3) := zc1 (zc2 (zc2 (zc2 (zc2 (zc2 (zc2 zg08d01_dec_9))))))
theorem dX12_reads_314 : decode cX12_reads 314 = .ok (.aload_n 0, 1) := zc1 (zc2 (zc2 (zc2 (zc2 (zc2 (zc2 (zc2 zg08d01_dec_9)))))))
theorem dX12_reads_315 : decode cX12_reads 315 = .ok (.ldc2_w 205, 3) := zc1 (zc2 (zc2 (zc2 (zc2 (zc2 (zc2 (zc2 (zc2 zg08d01_dec_9))))))))
theorem dX12_reads_318 : decode cX12_reads 318 = .ok (.invokevirtual 185, 3) := zc1 (zc2 (zc2 (zc2 (zc2 (zc2 (zc2 (zc2 (zc2 (zc2 zg08d01_dec_9)))))))))
theorem zg08d01_dec_10 : zCj cX12_reads [(321, .ifCond .eq 36, 3), (324, .aload_n 0, 1), (325, .aload_n 0, 1), (326, .ldc2_w 203, 3), (329, .invokevirtual 185, 3), (332, .ifCond .eq 8, 3), (335, .bipush 26, 2), (337, .goto 5, 3), (340, .bipush 27, 2), (342, .invokevirtual 196, 3)] := zCo _ 321 (by decide +kernel)
theorem dX12_reads_321 : decode cX12_reads 321 = .ok (.ifCond .eq 36, 3) := zc1 zg08d01_dec_10
theorem dX12_reads_324 : decode cX12_reads 324 = .ok (.aload_n 0, 1) := zc1 (zc2 zg08d01_dec_10)
theorem dX12_reads_325 : decode cX12_reads 325 = .ok (.aload_n 0, 1) := zc1 (zc2 (zc2 zg08d01_dec_10))
theorem dX12_reads_326 : decode cX12_reads 326 = .ok (.ldc2_w 203, 3) := zc1 (zc2 (zc2 (zc2 zg08d01_dec_10)))
theorem dX12_reads_329 : decode cX12_reads 329 = .ok (.invokevirtual 185, 3) := zc1 (zc2 (zc2 (zc2 (zc2 zg08d01_dec_10))))
theorem dX12_reads_332 : decode cX12_reads 332 = .ok (.ifCond .eq 8, 3) := zc1 (zc2 (zc2 (zc2 (zc2 (zc2 zg08d01_dec_10)))))
theorem dX12_reads_335 : decode cX12_reads 335 = .ok (.bipush 26, 2) := zc1 (zc2 (zc2 (zc2 (zc2 (zc2 (zc2 zg08d01_dec_10))))))
theorem dX12_reads_337 : decode cX12_reads 337 = .ok (.goto 5, 3) := zc1 (zc2 (zc2 (zc2 (zc2 (zc2 (zc2 (zc2 zg08d01_dec_10)))))))
theorem dX12_reads_340 : decode cX12_reads 340 = .ok (.bipush 27, 2) := zc1 (zc2 (zc2 (zc2 (zc2 (zc2 (zc2 (zc2 (zc2 zg08d01_dec_10))))))))
theorem dX12_reads_342 : decode cX12_reads 342 = .ok (.invokevirtual 196, 3) := zc1 (zc2 (zc2 (zc2 (zc2 (zc2 (zc2 (zc2 (zc2 (zc2 zg08d01_dec_10)))))))))
theorem zg08d01_dec_11 : zCj cX12_reads [(345, .aload_n 0, 1), (346, .getfield 53, 3), (349, .iload_n 1, 1), (350, .iconst 0, 1), (351, .bastore, 1), (352, .iconst 1, 1), (353, .istore_n 2, 1), (354, .goto 70, 3), (357, .aload_n 0, 1), (358, .bipush 41, 2)] := zCo _ 345 (by decide +kernel)
theorem dX12_reads_345 : decode cX12_reads 345 = .ok (.aload_n 0, 1) := zc1 zg08d01_dec_11
theorem dX12_reads_346 : decode cX12_reads 346 = .ok (.getfield 53, 3) := zc1 (zc2 zg08d01_dec_11)
theorem dX12_reads_349 : decode cX12_reads 349 = .ok (.iload_n 1, 1) := zc1 (zc2 (zc2 zg08d01_dec_11))
theorem dX12_reads_350 : decode cX12_reads 350 = .ok (.iconst 0, 1) := zc1 (zc2 (zc2 (zc2 zg08d01_dec_11)))
theorem dX12_reads_351 : decode cX12_reads 351 = .ok (.bastore, 1) := zc1 (zc2 (zc2 (zc2 (zc2 zg08d01_dec_11))))
theorem dX12_reads_352 : decode cX12_reads 352 = .ok (.iconst 1, 1) := zc1 (zc2 (zc2 (zc2 (zc2 (zc2 zg08d01_dec_11)))))
theorem dX12_reads_353 : decode cX12_reads 353 = .ok (.istore_n 2, 1) := zc1 (zc2 (zc2 (zc2 (zc2 (zc2 (zc2 zg08d01_dec_11))))))
theorem dX12_reads_354 : decode cX12_reads 354 = .ok (.goto 70, 3) := zc1 (zc2 (zc2 (zc2 (zc2 (zc2 (zc2 (zc2 zg08d01_dec_11)))))))
theorem dX12_reads_357 : decode cX12_reads 357 = .ok (.aload_n 0, 1) := zc1 (zc2 (zc2 (zc2 (zc2 (zc2 (zc2 (zc2 (zc2 zg08d01_dec_11))))))))
theorem dX12_reads_358 : decode cX12_reads 358 = .ok (.bipush 41, 2) := zc1 (zc2 (zc2 (zc2 (zc2 (zc2 (zc2 (zc2 (zc2 (zc2 zg08d01_dec_11)))))))))
theorem zg08d01_dec_12 : zCj cX12_reads [(360, .invokevirtual 189, 3), (363, .ifCond .eq 36, 3), (366, .iload_n 1, 1), (367, .ifCond .le 32, 3), (370, .aload_n 0, 1), (371, .bipush 29, 2), (373, .invokevirtual 196, 3), (376, .iinc 1 (-1), 3), (379, .iload_n 1, 1), (380, .ifCond .le 44, 3)] := zCo _ 360 (by decide +kernel)
theorem dX12_reads_360 : decode cX12_reads 360 = .ok (.invokevirtual 189, 3) := zc1 zg08d01_dec_12
theorem dX12_reads_363 : decode cX12_reads 363 = .ok (.ifCond .eq 36, 3) := zc1 (zc2 zg08d01_dec_12)
theorem dX12_reads_366 : decode cX12_reads 366 = .ok (.iload_n 1, 1) := zc1 (zc2 (zc2 zg08d01_dec_12))
theorem dX12_reads_367 : decode cX12_reads 367 = .ok (.ifCond .le 32, 3) := zc1 (zc2 (zc2 (zc2 zg08d01_dec_12)))
theorem dX12_reads_370 : decode cX12_reads 370 = .ok (.aload_n 0, 1) := zc1 (zc2 (zc2 (zc2 (zc2 zg08d01_dec_12))))
theorem dX12_reads_371 : decode cX12_reads 371 = .ok (.bipush 29, 2) := zc1 (zc2 (zc2 (zc2 (zc2 (zc2 zg08d01_dec_12)))))
theorem dX12_reads_373 : decode cX12_reads 373 = .ok (.invokevirtual 196, 3) := zc1 (zc2 (zc2 (zc2 (zc2 (zc2 (zc2 zg08d01_dec_12))))))
theorem dX12_reads_376 : decode cX12_reads 376 = .ok (.iinc 1 (-1), 3) := zc1 (zc2 (zc2 (zc2 (zc2 (zc2 (zc2 (zc2 zg08d01_dec_12)))))))
theorem dX12_reads_379 : decode cX12_reads 379 = .ok (.iload_n 1, 1) := zc1 (zc2 (zc2 (zc2 (zc2 (zc2 (zc2 (zc2 (zc2 zg08d01_dec_12))))))))
theorem dX12_reads_380 : decode cX12_reads 380 = .ok (.ifCond .le 44, 3) := zc1 (zc2 (zc2 (zc2 (zc2 (zc2 (zc2 (zc2 (zc2 (zc2 zg08d01_dec_12)))))))))
theorem zg08d01_dec_13 : zCj cX12_reads [(383, .aload_n 0, 1), (384, .getfield 50, 3), (387, .iload_n 1, 1), (388, .iaload, 1), (389, .iconst 1, 1), (390, .if_icmp .ne 34, 3), (393, .iinc 1 (-1), 3), (396, .goto (-17), 3), (399, .iload_n 1, 1), (400, .ifCond .ne 18, 3)] := zCo _ 383 (by decide +kernel)
theorem dX12_reads_383 : decode cX12_reads 383 = .ok (.aload_n 0, 1) := zc1 zg08d01_dec_13
theorem dX12_reads_384 : decode cX12_reads 384 = .ok (.getfield 50, 3) := zc1 (zc2 zg08d01_dec_13)
theorem dX12_reads_387 : decode cX12_reads 387 = .ok (.iload_n 1, 1) := zc1 (zc2 (zc2 zg08d01_dec_13))
theorem dX12_reads_388 : decode cX12_reads 388 = .ok (.iaload, 1) := zc1 (zc2 (zc2 (zc2 zg08d01_dec_13)))
theorem dX12_reads_389 : decode cX12_reads 389 = .ok (.iconst 1, 1) := zc1 (zc2 (zc2 (zc2 (zc2 zg08d01_dec_13))))
theorem dX12_reads_390 : decode cX12_reads 390 = .ok (.if_icmp .ne 34, 3) := zc1 (zc2 (zc2 (zc2 (zc2 (zc2 zg08d01_dec_13)))))
theorem dX12_reads_393 : decode cX12_reads 393 = .ok (.iinc 1 (-1), 3) := zc1 (zc2 (zc2 (zc2 (zc2 (zc2 (zc2 zg08d01_dec_13))))))
theorem dX12_reads_396 : decode cX12_reads 396 = .ok (.goto (-17), 3) := zc1 (zc2 (zc2 (zc2 (zc2 (zc2 (zc2 (zc2 zg08d01_dec_13)))))))
theorem dX12_reads_399 : decode cX12_reads 399 = .ok (.iload_n 1, 1) := zc1 (zc2 (zc2 (zc2 (zc2 (zc2 (zc2 (zc2 (zc2 zg08d01_dec_13))))))))
theorem dX12_reads_400 : decode cX12_reads 400 = .ok (.ifCond .ne 18, 3) := zc1 (zc2 (zc2 (zc2 (zc2 (zc2 (zc2 (zc2 (zc2 (zc2 zg08d01_dec_13)))))))))
theorem zg08d01_dec_14 : zCj cX12_reads [(403, .aload_n 0, 1), (404, .bipush 59, 2), (406, .invokevirtual 189, 3), (409, .ifCond .eq 9, 3), (412, .aload_n 0, 1), (413, .invokevirtual 200, 3), (416, .iconst 1, 1), (417, .ireturn, 1), (418, .aload_n 0, 1), (419, .iconst 1, 1)] := zCo _ 403 (by decide +kernel)
theorem dX12_reads_403 : decode cX12_reads 403 = .ok (.aload_n 0, 1) := zc1 zg08d01_dec_14
theorem dX12_reads_404 : decode cX12_reads 404 = .ok (.bipush 59, 2) := zc1 (zc2 zg08d01_dec_14)
theorem dX12_reads_406 : decode cX12_reads 406 = .ok (.invokevirtual 189, 3) := zc1 (zc2 (zc2 zg08d01_dec_14))
theorem dX12_reads_409 : decode cX12_reads 409 = .ok (.ifCond .eq 9, 3) := zc1 (zc2 (zc2 (zc2 zg08d01_dec_14)))
theorem dX12_reads_412 : decode cX12_reads 412 = .ok (.aload_n 0, 1) := zc1 (zc2 (zc2 (zc2 (zc2 zg08d01_dec_14))))
theorem dX12_reads_413 : decode cX12_reads 413 = .ok (.invokevirtual 200, 3) := zc1 (zc2 (zc2 (zc2 (zc2 (zc2 zg08d01_dec_14)))))
theorem dX12_reads_416 : decode cX12_reads 416 = .ok (.iconst 1, 1) := zc1 (zc2 (zc2 (zc2 (zc2 (zc2 (zc2 zg08d01_dec_14))))))
theorem dX12_reads_417 : decode cX12_reads 417 = .ok (.ireturn, 1) := zc1 (zc2 (zc2 (zc2 (zc2 (zc2 (zc2 (zc2 zg08d01_dec_14)))))))
theorem dX12_reads_418 : decode cX12_reads 418 = .ok (.aload_n 0, 1) := zc1 (zc2 (zc2 (zc2 (zc2 (zc2 (zc2 (zc2 (zc2 zg08d01_dec_14))))))))
theorem dX12_reads_419 : decode cX12_reads 419 = .ok (.iconst 1, 1) := zc1 (zc2 (zc2 (zc2 (zc2 (zc2 (zc2 (zc2 (zc2 (zc2 zg08d01_dec_14)))))))))
theorem zg08d01_dec_15 : zCj cX12_reads [(420, .invokevirtual 193, 3), (423, .ireturn, 1), (424, .aload_n 0, 1), (425, .invokevirtual 200, 3), (428, .goto (-417), 3)] := zCo _ 420 (by decide +kernel)
theorem dX12_reads_420 : decode cX12_reads 420 = .ok (.invokevirtual 193, 3) := zc1 zg08d01_dec_15
theorem dX12_reads_423 : decode cX12_reads 423 = .ok (.ireturn, 1) := zc1 (zc2 zg08d01_dec_15)
theorem dX12_reads_424 : decode cX12_reads 424 = .ok (.aload_n 0, 1) := zc1 (zc2 (zc2 zg08d01_dec_15))
theorem dX12_reads_425 : decode cX12_reads 425 = .ok (.invokevirtual 200, 3) := zc1 (zc2 (zc2 (zc2 zg08d01_dec_15)))
theorem dX12_reads_428 : decode cX12_reads 428 = .ok (.goto (-417), 3) := zc1 (zc2 (zc2 (zc2 (zc2 zg08d01_dec_15))))
theorem zg08d01_dec_16 : zCj cX12_opens [(0, .aload_n 0, 1), (1, .getfield 60, 3), (4, .iload_n 1, 1), (5, .iconst 0, 1), (6, .iastore, 1), (7, .aload_n 0, 1), (8, .getfield 66, 3), (11, .iload_n 1, 1), (12, .iconst 0, 1), (13, .iastore, 1)] := zCo _ 0 (by decide +kernel)
theorem dX12_opens_0 : decode cX12_opens 0 = .ok (.aload_n 0, 1) := zc1 zg08d01_dec_16
theorem dX12_opens_1 : decode cX12_opens 1 = .ok (.getfield 60, 3) := zc1 (zc2 zg08d01_dec_16)
theorem dX12_opens_4 : decode cX12_opens 4 = .ok (.iload_n 1, 1) := zc1 (zc2 (zc2 zg08d01_dec_16))
theorem dX12_opens_5 : decode cX12_opens 5 = .ok (.iconst 0, 1) := zc1 (zc2 (zc2 (zc2 zg08d01_dec_16)))
theorem dX12_opens_6 : decode cX12_opens 6 = .ok (.iastore, 1) := zc1 (zc2 (zc2 (zc2 (zc2 zg08d01_dec_16))))
theorem dX12_opens_7 : decode cX12_opens 7 = .ok (.aload_n 0, 1) := zc1 (zc2 (zc2 (zc2 (zc2 (zc2 zg08d01_dec_16)))))
theorem dX12_opens_8 : decode cX12_opens 8 = .ok (.getfield 66, 3) := zc1 (zc2 (zc2 (zc2 (zc2 (zc2 (zc2 zg08d01_dec_16))))))
theorem dX12_opens_11 : decode cX12_opens 11 = .ok (.iload_n 1, 1) := zc1 (zc2 (zc2 (zc2 (zc2 (zc2 (zc2 (zc2 zg08d01_dec_16)))))))
theorem dX12_opens_12 : decode cX12_opens 12 = .ok (.iconst 0, 1) := zc1 (zc2 (zc2 (zc2 (zc2 (zc2 (zc2 (zc2 (zc2 zg08d01_dec_16))))))))
theorem dX12_opens_13 : decode cX12_opens 13 = .ok (.iastore, 1) := zc1 (zc2 (zc2 (zc2 (zc2 (zc2 (zc2 (zc2 (zc2 (zc2 zg08d01_dec_16)))))))))
theorem zg08d01_dec_17 : zCj cX12_opens [(14, .aload_n 0, 1), (15, .getfield 69, 3), (18, .iload_n 1, 1), (19, .iconst 0, 1), (20, .iastore, 1), (21, .aload_n 0, 1), (22, .getfield 72, 3), (25, .iload_n 1, 1), (26, .bipush 20, 2), (28, .iastore, 1)] := zCo _ 14 (by decide +kernel)
theorem dX12_opens_14 : decode cX12_opens 14 = .ok (.aload_n 0, 1) := zc1 zg08d01_dec_17
theorem dX12_opens_15 : decode cX12_opens 15 = .ok (.getfield 69, 3) := zc1 (zc2 zg08d01_dec_17)
theorem dX12_opens_18 : decode cX12_opens 18 = .ok (.iload_n 1, 1) := zc1 (zc2 (zc2 zg08d01_dec_17))
theorem dX12_opens_19 : decode cX12_opens 19 = .ok (.iconst 0, 1) := zc1 (zc2 (zc2 (zc2 zg08d01_dec_17)))
theorem dX12_opens_20 : decode cX12_opens 20 = .ok (.iastore, 1) := zc1 (zc2 (zc2 (zc2 (zc2 zg08d01_dec_17))))
theorem dX12_opens_21 : decode cX12_opens 21 = .ok (.aload_n 0, 1) := zc1 (zc2 (zc2 (zc2 (zc2 (zc2 zg08d01_dec_17)))))
theorem dX12_opens_22 : decode cX12_opens 22 = .ok (.getfield 72, 3) := zc1 (zc2 (zc2 (zc2 (zc2 (zc2 (zc2 zg08d01_dec_17))))))
theorem dX12_opens_25 : decode cX12_opens 25 = .ok (.iload_n 1, 1) := zc1 (zc2 (zc2 (zc2 (zc2 (zc2 (zc2 (zc2 zg08d01_dec_17)))))))
theorem dX12_opens_26 : decode cX12_opens 26 = .ok (.bipush 20, 2) := zc1 (zc2 (zc2 (zc2 (zc2 (zc2 (zc2 (zc2 (zc2 zg08d01_dec_17))))))))
theorem dX12_opens_28 : decode cX12_opens 28 = .ok (.iastore, 1) := zc1 (zc2 (zc2 (zc2 (zc2 (zc2 (zc2 (zc2 (zc2 (zc2 zg08d01_dec_17)))))))))
theorem zg08d01_dec_18 : zCj cX12_opens [(29, .aload_n 0, 1), (30, .getfield 78, 3), (33, .iload_n 1, 1), (34, .iconst 0, 1), (35, .iastore, 1), (36, .return_, 1)] := zCo _ 29 (by decide +kernel)
theorem dX12_opens_29 : decode cX12_opens 29 = .ok (.aload_n 0, 1) := zc1 zg08d01_dec_18
theorem dX12_opens_30 : decode cX12_opens 30 = .ok (.getfield 78, 3) := zc1 (zc2 zg08d01_dec_18)
theorem dX12_opens_33 : decode cX12_opens 33 = .ok (.iload_n 1, 1) := zc1 (zc2 (zc2 zg08d01_dec_18))
theorem dX12_opens_34 : decode cX12_opens 34 = .ok (.iconst 0, 1) := zc1 (zc2 (zc2 (zc2 zg08d01_dec_18)))
theorem dX12_opens_35 : decode cX12_opens 35 = .ok (.iastore, 1) := zc1 (zc2 (zc2 (zc2 (zc2 zg08d01_dec_18))))
theorem dX12_opens_36 : decode cX12_opens 36 = .ok (.return_, 1) := zc1 (zc2 (zc2 (zc2 (zc2 (zc2 zg08d01_dec_18)))))
theorem zg08d01_dec_19 : zCj cX12_sums [(0, .aload_n 0, 1), (1, .getfield 69, 3), (4, .iload_n 1, 1), (5, .aload_n 0, 1), (6, .getfield 72, 3), (9, .iload_n 1, 1), (10, .iaload, 1), (11, .bipush 21, 2), (13, .if_icmp .ne 19, 3), (16, .aload_n 0, 1)] := zCo _ 0 (by decide +kernel)
theorem dX12_sums_0 : decode cX12_sums 0 = .ok (.aload_n 0, 1) := zc1 zg08d01_dec_19
theorem dX12_sums_1 : decode cX12_sums 1 = .ok (.getfield 69, 3) := zc1 (zc2 zg08d01_dec_19)
theorem dX12_sums_4 : decode cX12_sums 4 = .ok (.iload_n 1, 1) := zc1 (zc2 (zc2 zg08d01_dec_19))
theorem dX12_sums_5 : decode cX12_sums 5 = .ok (.aload_n 0, 1) := zc1 (zc2 (zc2 (zc2 zg08d01_dec_19)))
theorem dX12_sums_6 : decode cX12_sums 6 = .ok (.getfield 72, 3) := zc1 (zc2 (zc2 (zc2 (zc2 zg08d01_dec_19))))
theorem dX12_sums_9 : decode cX12_sums 9 = .ok (.iload_n 1, 1) := zc1 (zc2 (zc2 (zc2 (zc2 (zc2 zg08d01_dec_19)))))
theorem dX12_sums_10 : decode cX12_sums 10 = .ok (.iaload, 1) := zc1 (zc2 (zc2 (zc2 (zc2 (zc2 (zc2 zg08d01_dec_19))))))
theorem dX12_sums_11 : decode cX12_sums 11 = .ok (.bipush 21, 2) := zc1 (zc2 (zc2 (zc2 (zc2 (zc2 (zc2 (zc2 zg08d01_dec_19)))))))
theorem dX12_sums_13 : decode cX12_sums 13 = .ok (.if_icmp .ne 19, 3) := zc1 (zc2 (zc2 (zc2 (zc2 (zc2 (zc2 (zc2 (zc2 zg08d01_dec_19))))))))
theorem dX12_sums_16 : decode cX12_sums 16 = .ok (.aload_n 0, 1) := zc1 (zc2 (zc2 (zc2 (zc2 (zc2 (zc2 (zc2 (zc2 (zc2 zg08d01_dec_19)))))))))
theorem zg08d01_dec_20 : zCj cX12_sums [(17, .getfield 69, 3), (20, .iload_n 1, 1), (21, .iaload, 1), (22, .aload_n 0, 1), (23, .getfield 75, 3), (26, .iload_n 1, 1), (27, .iaload, 1), (28, .isub, 1), (29, .goto 16, 3), (32, .aload_n 0, 1)] := zCo _ 17 (by decide +kernel)
theorem dX12_sums_17 : decode cX12_sums 17 = .ok (.getfield 69, 3) := zc1 zg08d01_dec_20
theorem dX12_sums_20 : decode cX12_sums 20 = .ok (.iload_n 1, 1) := zc1 (zc2 zg08d01_dec_20)
theorem dX12_sums_21 : decode cX12_sums 21 = .ok (.iaload, 1) := zc1 (zc2 (zc2 zg08d01_dec_20))
theorem dX12_sums_22 : decode cX12_sums 22 = .ok (.aload_n 0, 1) := zc1 (zc2 (zc2 (zc2 zg08d01_dec_20)))
theorem dX12_sums_23 : decode cX12_sums 23 = .ok (.getfield 75, 3) := zc1 (zc2 (zc2 (zc2 (zc2 zg08d01_dec_20))))
theorem dX12_sums_26 : decode cX12_sums 26 = .ok (.iload_n 1, 1) := zc1 (zc2 (zc2 (zc2 (zc2 (zc2 zg08d01_dec_20)))))
theorem dX12_sums_27 : decode cX12_sums 27 = .ok (.iaload, 1) := zc1 (zc2 (zc2 (zc2 (zc2 (zc2 (zc2 zg08d01_dec_20))))))
theorem dX12_sums_28 : decode cX12_sums 28 = .ok (.isub, 1) := zc1 (zc2 (zc2 (zc2 (zc2 (zc2 (zc2 (zc2 zg08d01_dec_20)))))))
theorem dX12_sums_29 : decode cX12_sums 29 = .ok (.goto 16, 3) := zc1 (zc2 (zc2 (zc2 (zc2 (zc2 (zc2 (zc2 (zc2 zg08d01_dec_20))))))))
theorem dX12_sums_32 : decode cX12_sums 32 = .ok (.aload_n 0, 1) := zc1 (zc2 (zc2 (zc2 (zc2 (zc2 (zc2 (zc2 (zc2 (zc2 zg08d01_dec_20)))))))))
theorem zg08d01_dec_21 : zCj cX12_sums [(33, .getfield 69, 3), (36, .iload_n 1, 1), (37, .iaload, 1), (38, .aload_n 0, 1), (39, .getfield 75, 3), (42, .iload_n 1, 1), (43, .iaload, 1), (44, .iadd, 1), (45, .iastore, 1), (46, .aload_n 0, 1)] := zCo _ 33 (by decide +kernel)
theorem dX12_sums_33 : decode cX12_sums 33 = .ok (.getfield 69, 3) := zc1 zg08d01_dec_21
theorem dX12_sums_36 : decode cX12_sums 36 = .ok (.iload_n 1, 1) := zc1 (zc2 zg08d01_dec_21)
theorem dX12_sums_37 : decode cX12_sums 37 = .ok (.iaload, 1) := zc1 (zc2 (zc2 zg08d01_dec_21))
theorem dX12_sums_38 : decode cX12_sums 38 = .ok (.aload_n 0, 1) := zc1 (zc2 (zc2 (zc2 zg08d01_dec_21)))
theorem dX12_sums_39 : decode cX12_sums 39 = .ok (.getfield 75, 3) := zc1 (zc2 (zc2 (zc2 (zc2 zg08d01_dec_21))))
theorem dX12_sums_42 : decode cX12_sums 42 = .ok (.iload_n 1, 1) := zc1 (zc2 (zc2 (zc2 (zc2 (zc2 zg08d01_dec_21)))))
theorem dX12_sums_43 : decode cX12_sums 43 = .ok (.iaload, 1) := zc1 (zc2 (zc2 (zc2 (zc2 (zc2 (zc2 zg08d01_dec_21))))))
theorem dX12_sums_44 : decode cX12_sums 44 = .ok (.iadd, 1) := zc1 (zc2 (zc2 (zc2 (zc2 (zc2 (zc2 (zc2 zg08d01_dec_21)))))))
theorem dX12_sums_45 : decode cX12_sums 45 = .ok (.iastore, 1) := zc1 (zc2 (zc2 (zc2 (zc2 (zc2 (zc2 (zc2 (zc2 zg08d01_dec_21))))))))
theorem dX12_sums_46 : decode cX12_sums 46 = .ok (.aload_n 0, 1) := zc1 (zc2 (zc2 (zc2 (zc2 (zc2 (zc2 (zc2 (zc2 (zc2 zg08d01_dec_21)))))))))
theorem zg08d01_dec_22 : zCj cX12_sums [(47, .getfield 78, 3), (50, .iload_n 1, 1), (51, .iconst 0, 1), (52, .iastore, 1), (53, .return_, 1)] := zCo _ 47 (by decide +kernel)
theorem dX12_sums_47 : decode cX12_sums 47 = .ok (.getfield 78, 3) := zc1 zg08d01_dec_22
theorem dX12_sums_50 : decode cX12_sums 50 = .ok (.iload_n 1, 1) := zc1 (zc2 zg08d01_dec_22)
theorem dX12_sums_51 : decode cX12_sums 51 = .ok (.iconst 0, 1) := zc1 (zc2 (zc2 zg08d01_dec_22))
theorem dX12_sums_52 : decode cX12_sums 52 = .ok (.iastore, 1) := zc1 (zc2 (zc2 (zc2 zg08d01_dec_22)))
theorem dX12_sums_53 : decode cX12_sums 53 = .ok (.return_, 1) := zc1 (zc2 (zc2 (zc2 (zc2 zg08d01_dec_22))))
theorem zg08d01_dec_23 : zCj cX12_tests [(0, .aload_n 0, 1), (1, .iload_n 1, 1), (2, .invokevirtual 207, 3), (5, .aload_n 0, 1), (6, .getfield 69, 3), (9, .iload_n 1, 1), (10, .iaload, 1), (11, .istore_n 2, 1), (12, .aload_n 0, 1), (13, .getfield 66, 3)] := zCo _ 0 (by decide +kernel)
theorem dX12_tests_0 : decode cX12_tests 0 = .ok (.aload_n 0, 1) := zc1 zg08d01_dec_23
theorem dX12_tests_1 : decode cX12_tests 1 = .ok (.iload_n 1, 1) := zc1 (zc2 zg08d01_dec_23)
theorem dX12_tests_2 : decode cX12_tests 2 = .ok (.invokevirtual 207, 3) := zc1 (zc2 (zc2 zg08d01_dec_23))
theorem dX12_tests_5 : decode cX12_tests 5 = .ok (.aload_n 0, 1) := zc1 (zc2 (zc2 (zc2 zg08d01_dec_23)))
theorem dX12_tests_6 : decode cX12_tests 6 = .ok (.getfield 69, 3) := zc1 (zc2 (zc2 (zc2 (zc2 zg08d01_dec_23))))
theorem dX12_tests_9 : decode cX12_tests 9 = .ok (.iload_n 1, 1) := zc1 (zc2 (zc2 (zc2 (zc2 (zc2 zg08d01_dec_23)))))
theorem dX12_tests_10 : decode cX12_tests 10 = .ok (.iaload, 1) := zc1 (zc2 (zc2 (zc2 (zc2 (zc2 (zc2 zg08d01_dec_23))))))
theorem dX12_tests_11 : decode cX12_tests 11 = .ok (.istore_n 2, 1) := zc1 (zc2 (zc2 (zc2 (zc2 (zc2 (zc2 (zc2 zg08d01_dec_23)))))))
theorem dX12_tests_12 : decode cX12_tests 12 = .ok (.aload_n 0, 1) := zc1 (zc2 (zc2 (zc2 (zc2 (zc2 (zc2 (zc2 (zc2 zg08d01_dec_23))))))))
theorem dX12_tests_13 : decode cX12_tests 13 = .ok (.getfield 66, 3) := zc1 (zc2 (zc2 (zc2 (zc2 (zc2 (zc2 (zc2 (zc2 (zc2 zg08d01_dec_23)))))))))
theorem zg08d01_dec_24 : zCj cX12_tests [(16, .iload_n 1, 1), (17, .iaload, 1), (18, .bipush 24, 2), (20, .if_icmp .ne 24, 3), (23, .aload_n 0, 1), (24, .getfield 63, 3), (27, .iload_n 1, 1), (28, .iaload, 1), (29, .aload_n 0, 1), (30, .getfield 69, 3)] := zCo _ 16 (by decide +kernel)
theorem dX12_tests_16 : decode cX12_tests 16 = .ok (.iload_n 1, 1) := zc1 zg08d01_dec_24
theorem dX12_tests_17 : decode cX12_tests 17 = .ok (.iaload, 1) := zc1 (zc2 zg08d01_dec_24)
theorem dX12_tests_18 : decode cX12_tests 18 = .ok (.bipush 24, 2) := zc1 (zc2 (zc2 zg08d01_dec_24))
theorem dX12_tests_20 : decode cX12_tests 20 = .ok (.if_icmp .ne 24, 3) := zc1 (zc2 (zc2 (zc2 zg08d01_dec_24)))
theorem dX12_tests_23 : decode cX12_tests 23 = .ok (.aload_n 0, 1) := zc1 (zc2 (zc2 (zc2 (zc2 zg08d01_dec_24))))
theorem dX12_tests_24 : decode cX12_tests 24 = .ok (.getfield 63, 3) := zc1 (zc2 (zc2 (zc2 (zc2 (zc2 zg08d01_dec_24)))))
theorem dX12_tests_27 : decode cX12_tests 27 = .ok (.iload_n 1, 1) := zc1 (zc2 (zc2 (zc2 (zc2 (zc2 (zc2 zg08d01_dec_24))))))
theorem dX12_tests_28 : decode cX12_tests 28 = .ok (.iaload, 1) := zc1 (zc2 (zc2 (zc2 (zc2 (zc2 (zc2 (zc2 zg08d01_dec_24)))))))
theorem dX12_tests_29 : decode cX12_tests 29 = .ok (.aload_n 0, 1) := zc1 (zc2 (zc2 (zc2 (zc2 (zc2 (zc2 (zc2 (zc2 zg08d01_dec_24))))))))
theorem dX12_tests_30 : decode cX12_tests 30 = .ok (.getfield 69, 3) := zc1 (zc2 (zc2 (zc2 (zc2 (zc2 (zc2 (zc2 (zc2 (zc2 zg08d01_dec_24)))))))))
theorem zg08d01_dec_25 : zCj cX12_tests [(33, .iload_n 1, 1), (34, .iaload, 1), (35, .if_icmp .ge 7, 3), (38, .iconst 1, 1), (39, .goto 4, 3), (42, .iconst 0, 1), (43, .istore_n 2, 1), (44, .aload_n 0, 1), (45, .getfield 66, 3), (48, .iload_n 1, 1)] := zCo _ 33 (by decide +kernel)
theorem dX12_tests_33 : decode cX12_tests 33 = .ok (.iload_n 1, 1) := zc1 zg08d01_dec_25
theorem dX12_tests_34 : decode cX12_tests 34 = .ok (.iaload, 1) := zc1 (zc2 zg08d01_dec_25)
theorem dX12_tests_35 : decode cX12_tests 35 = .ok (.if_icmp .ge 7, 3) := zc1 (zc2 (zc2 zg08d01_dec_25))
theorem dX12_tests_38 : decode cX12_tests 38 = .ok (.iconst 1, 1) := zc1 (zc2 (zc2 (zc2 zg08d01_dec_25)))
theorem dX12_tests_39 : decode cX12_tests 39 = .ok (.goto 4, 3) := zc1 (zc2 (zc2 (zc2 (zc2 zg08d01_dec_25))))
theorem dX12_tests_42 : decode cX12_tests 42 = .ok (.iconst 0, 1) := zc1 (zc2 (zc2 (zc2 (zc2 (zc2 zg08d01_dec_25)))))
theorem dX12_tests_43 : decode cX12_tests 43 = .ok (.istore_n 2, 1) := zc1 (zc2 (zc2 (zc2 (zc2 (zc2 (zc2 zg08d01_dec_25))))))
theorem dX12_tests_44 : decode cX12_tests 44 = .ok (.aload_n 0, 1) := zc1 (zc2 (zc2 (zc2 (zc2 (zc2 (zc2 (zc2 zg08d01_dec_25)))))))
theorem dX12_tests_45 : decode cX12_tests 45 = .ok (.getfield 66, 3) := zc1 (zc2 (zc2 (zc2 (zc2 (zc2 (zc2 (zc2 (zc2 zg08d01_dec_25))))))))
theorem dX12_tests_48 : decode cX12_tests 48 = .ok (.iload_n 1, 1) := zc1 (zc2 (zc2 (zc2 (zc2 (zc2 (zc2 (zc2 (zc2 (zc2 zg08d01_dec_25)))))))))
theorem zg08d01_dec_26 : zCj cX12_tests [(49, .iaload, 1), (50, .bipush 25, 2), (52, .if_icmp .ne 24, 3), (55, .aload_n 0, 1), (56, .getfield 63, 3), (59, .iload_n 1, 1), (60, .iaload, 1), (61, .aload_n 0, 1), (62, .getfield 69, 3), (65, .iload_n 1, 1)] := zCo _ 49 (by decide +kernel)
theorem dX12_tests_49 : decode cX12_tests 49 = .ok (.iaload, 1) := zc1 zg08d01_dec_26
theorem dX12_tests_50 : decode cX12_tests 50 = .ok (.bipush 25, 2) := zc1 (zc2 zg08d01_dec_26)
theorem dX12_tests_52 : decode cX12_tests 52 = .ok (.if_icmp .ne 24, 3) := zc1 (zc2 (zc2 zg08d01_dec_26))
theorem dX12_tests_55 : decode cX12_tests 55 = .ok (.aload_n 0, 1) := zc1 (zc2 (zc2 (zc2 zg08d01_dec_26)))
theorem dX12_tests_56 : decode cX12_tests 56 = .ok (.getfield 63, 3) := zc1 (zc2 (zc2 (zc2 (zc2 zg08d01_dec_26))))
theorem dX12_tests_59 : decode cX12_tests 59 = .ok (.iload_n 1, 1) := zc1 (zc2 (zc2 (zc2 (zc2 (zc2 zg08d01_dec_26)))))
theorem dX12_tests_60 : decode cX12_tests 60 = .ok (.iaload, 1) := zc1 (zc2 (zc2 (zc2 (zc2 (zc2 (zc2 zg08d01_dec_26))))))
theorem dX12_tests_61 : decode cX12_tests 61 = .ok (.aload_n 0, 1) := zc1 (zc2 (zc2 (zc2 (zc2 (zc2 (zc2 (zc2 zg08d01_dec_26)))))))
theorem dX12_tests_62 : decode cX12_tests 62 = .ok (.getfield 69, 3) := zc1 (zc2 (zc2 (zc2 (zc2 (zc2 (zc2 (zc2 (zc2 zg08d01_dec_26))))))))
theorem dX12_tests_65 : decode cX12_tests 65 = .ok (.iload_n 1, 1) := zc1 (zc2 (zc2 (zc2 (zc2 (zc2 (zc2 (zc2 (zc2 (zc2 zg08d01_dec_26)))))))))
theorem zg08d01_dec_27 : zCj cX12_tests [(66, .iaload, 1), (67, .if_icmp .ne 7, 3), (70, .iconst 1, 1), (71, .goto 4, 3), (74, .iconst 0, 1), (75, .istore_n 2, 1), (76, .aload_n 0, 1), (77, .getfield 60, 3), (80, .iload_n 1, 1), (81, .iaload, 1)] := zCo _ 66 (by decide +kernel)
theorem dX12_tests_66 : decode cX12_tests 66 = .ok (.iaload, 1) := zc1 zg08d01_dec_27
theorem dX12_tests_67 : decode cX12_tests 67 = .ok (.if_icmp .ne 7, 3) := zc1 (zc2 zg08d01_dec_27)
theorem dX12_tests_70 : decode cX12_tests 70 = .ok (.iconst 1, 1) := zc1 (zc2 (zc2 zg08d01_dec_27))
theorem dX12_tests_71 : decode cX12_tests 71 = .ok (.goto 4, 3) := zc1 (zc2 (zc2 (zc2 zg08d01_dec_27)))
theorem dX12_tests_74 : decode cX12_tests 74 = .ok (.iconst 0, 1) := zc1 (zc2 (zc2 (zc2 (zc2 zg08d01_dec_27))))
theorem dX12_tests_75 : decode cX12_tests 75 = .ok (.istore_n 2, 1) := zc1 (zc2 (zc2 (zc2 (zc2 (zc2 zg08d01_dec_27)))))
theorem dX12_tests_76 : decode cX12_tests 76 = .ok (.aload_n 0, 1) := zc1 (zc2 (zc2 (zc2 (zc2 (zc2 (zc2 zg08d01_dec_27))))))
theorem dX12_tests_77 : decode cX12_tests 77 = .ok (.getfield 60, 3) := zc1 (zc2 (zc2 (zc2 (zc2 (zc2 (zc2 (zc2 zg08d01_dec_27)))))))
theorem dX12_tests_80 : decode cX12_tests 80 = .ok (.iload_n 1, 1) := zc1 (zc2 (zc2 (zc2 (zc2 (zc2 (zc2 (zc2 (zc2 zg08d01_dec_27))))))))
theorem dX12_tests_81 : decode cX12_tests 81 = .ok (.iaload, 1) := zc1 (zc2 (zc2 (zc2 (zc2 (zc2 (zc2 (zc2 (zc2 (zc2 zg08d01_dec_27)))))))))
theorem zg08d01_dec_28 : zCj cX12_tests [(82, .bipush 26, 2), (84, .if_icmp .ne 22, 3), (87, .aload_n 0, 1), (88, .getfield 57, 3), (91, .iload_n 1, 1), (92, .iaload, 1), (93, .ifCond .eq 11, 3), (96, .iload_n 2, 1), (97, .ifCond .eq 7, 3), (100, .iconst 1, 1)] := zCo _ 82 (by decide +kernel)
theorem dX12_tests_82 : decode cX12_tests 82 = .ok (.bipush 26, 2) := zc1 zg08d01_dec_28
theorem dX12_tests_84 : decode cX12_tests 84 = .ok (.if_icmp .ne 22, 3) := zc1 (zc2 zg08d01_dec_28)
theorem dX12_tests_87 : decode cX12_tests 87 = .ok (.aload_n 0, 1) := zc1 (zc2 (zc2 zg08d01_dec_28))
theorem dX12_tests_88 : decode cX12_tests 88 = .ok (.getfield 57, 3) := zc1 (zc2 (zc2 (zc2 zg08d01_dec_28)))
theorem dX12_tests_91 : decode cX12_tests 91 = .ok (.iload_n 1, 1) := zc1 (zc2 (zc2 (zc2 (zc2 zg08d01_dec_28))))
theorem dX12_tests_92 : decode cX12_tests 92 = .ok (.iaload, 1) := zc1 (zc2 (zc2 (zc2 (zc2 (zc2 zg08d01_dec_28)))))
theorem dX12_tests_93 : decode cX12_tests 93 = .ok (.ifCond .eq 11, 3) := zc1 (zc2 (zc2 (zc2 (zc2 (zc2 (zc2 zg08d01_dec_28))))))
theorem dX12_tests_96 : decode cX12_tests 96 = .ok (.iload_n 2, 1) := zc1 (zc2 (zc2 (zc2 (zc2 (zc2 (zc2 (zc2 zg08d01_dec_28)))))))
theorem dX12_tests_97 : decode cX12_tests 97 = .ok (.ifCond .eq 7, 3) := zc1 (zc2 (zc2 (zc2 (zc2 (zc2 (zc2 (zc2 (zc2 zg08d01_dec_28))))))))
theorem dX12_tests_100 : decode cX12_tests 100 = .ok (.iconst 1, 1) := zc1 (zc2 (zc2 (zc2 (zc2 (zc2 (zc2 (zc2 (zc2 (zc2 zg08d01_dec_28)))))))))
theorem zg08d01_dec_29 : zCj cX12_tests [(101, .goto 4, 3), (104, .iconst 0, 1), (105, .istore_n 2, 1), (106, .aload_n 0, 1), (107, .getfield 60, 3), (110, .iload_n 1, 1), (111, .iaload, 1), (112, .bipush 27, 2), (114, .if_icmp .ne 22, 3), (117, .aload_n 0, 1)] := zCo _ 101 (by decide +kernel)
theorem dX12_tests_101 : decode cX12_tests 101 = .ok (.goto 4, 3) := zc1 zg08d01_dec_29
theorem dX12_tests_104 : decode cX12_tests 104 = .ok (.iconst 0, 1) := zc1 (zc2 zg08d01_dec_29)
theorem dX12_tests_105 : decode cX12_tests 105 = .ok (.istore_n 2, 1) := zc1 (zc2 (zc2 zg08d01_dec_29))
theorem dX12_tests_106 : decode cX12_tests 106 = .ok (.aload_n 0, 1) := zc1 (zc2 (zc2 (zc2 zg08d01_dec_29)))
theorem dX12_tests_107 : decode cX12_tests 107 = .ok (.getfield 60, 3) := zc1 (zc2 (zc2 (zc2 (zc2 zg08d01_dec_29))))
theorem dX12_tests_110 : decode cX12_tests 110 = .ok (.iload_n 1, 1) := zc1 (zc2 (zc2 (zc2 (zc2 (zc2 zg08d01_dec_29)))))
theorem dX12_tests_111 : decode cX12_tests 111 = .ok (.iaload, 1) := zc1 (zc2 (zc2 (zc2 (zc2 (zc2 (zc2 zg08d01_dec_29))))))
theorem dX12_tests_112 : decode cX12_tests 112 = .ok (.bipush 27, 2) := zc1 (zc2 (zc2 (zc2 (zc2 (zc2 (zc2 (zc2 zg08d01_dec_29)))))))
theorem dX12_tests_114 : decode cX12_tests 114 = .ok (.if_icmp .ne 22, 3) := zc1 (zc2 (zc2 (zc2 (zc2 (zc2 (zc2 (zc2 (zc2 zg08d01_dec_29))))))))
theorem dX12_tests_117 : decode cX12_tests 117 = .ok (.aload_n 0, 1) := zc1 (zc2 (zc2 (zc2 (zc2 (zc2 (zc2 (zc2 (zc2 (zc2 zg08d01_dec_29)))))))))
theorem zg08d01_dec_30 : zCj cX12_tests [(118, .getfield 57, 3), (121, .iload_n 1, 1), (122, .iaload, 1), (123, .ifCond .ne 7, 3), (126, .iload_n 2, 1), (127, .ifCond .eq 7, 3), (130, .iconst 1, 1), (131, .goto 4, 3), (134, .iconst 0, 1), (135, .istore_n 2, 1)] := zCo _ 118 (by decide +kernel)
theorem dX12_tests_118 : decode cX12_tests 118 = .ok (.getfield 57, 3) := zc1 zg08d01_dec_30
theorem dX12_tests_121 : decode cX12_tests 121 = .ok (.iload_n 1, 1) := zc1 (zc2 zg08d01_dec_30)
theorem dX12_tests_122 : decode cX12_tests 122 = .ok (.iaload, 1) := zc1 (zc2 (zc2 zg08d01_dec_30))
theorem dX12_tests_123 : decode cX12_tests 123 = .ok (.ifCond .ne 7, 3) := zc1 (zc2 (zc2 (zc2 zg08d01_dec_30)))
theorem dX12_tests_126 : decode cX12_tests 126 = .ok (.iload_n 2, 1) := zc1 (zc2 (zc2 (zc2 (zc2 zg08d01_dec_30))))
theorem dX12_tests_127 : decode cX12_tests 127 = .ok (.ifCond .eq 7, 3) := zc1 (zc2 (zc2 (zc2 (zc2 (zc2 zg08d01_dec_30)))))
theorem dX12_tests_130 : decode cX12_tests 130 = .ok (.iconst 1, 1) := zc1 (zc2 (zc2 (zc2 (zc2 (zc2 (zc2 zg08d01_dec_30))))))
theorem dX12_tests_131 : decode cX12_tests 131 = .ok (.goto 4, 3) := zc1 (zc2 (zc2 (zc2 (zc2 (zc2 (zc2 (zc2 zg08d01_dec_30)))))))
theorem dX12_tests_134 : decode cX12_tests 134 = .ok (.iconst 0, 1) := zc1 (zc2 (zc2 (zc2 (zc2 (zc2 (zc2 (zc2 (zc2 zg08d01_dec_30))))))))
theorem dX12_tests_135 : decode cX12_tests 135 = .ok (.istore_n 2, 1) := zc1 (zc2 (zc2 (zc2 (zc2 (zc2 (zc2 (zc2 (zc2 (zc2 zg08d01_dec_30)))))))))
theorem zg08d01_dec_31 : zCj cX12_tests [(136, .aload_n 0, 1), (137, .getfield 57, 3), (140, .iload_n 1, 1), (141, .iload_n 2, 1), (142, .iastore, 1), (143, .aload_n 0, 1), (144, .getfield 66, 3), (147, .iload_n 1, 1), (148, .iconst 0, 1), (149, .iastore, 1)] := zCo _ 136 (by decide +kernel)
theorem dX12_tests_136 : decode cX12_tests 136 = .ok (.aload_n 0, 1) := zc1 zg08d01_dec_31
theorem dX12_tests_137 : decode cX12_tests 137 = .ok (.getfield 57, 3) := zc1 (zc2 zg08d01_dec_31)
theorem dX12_tests_140 : decode cX12_tests 140 = .ok (.iload_n 1, 1) := zc1 (zc2 (zc2 zg08d01_dec_31))
theorem dX12_tests_141 : decode cX12_tests 141 = .ok (.iload_n 2, 1) := zc1 (zc2 (zc2 (zc2 zg08d01_dec_31)))
theorem dX12_tests_142 : decode cX12_tests 142 = .ok (.iastore, 1) := zc1 (zc2 (zc2 (zc2 (zc2 zg08d01_dec_31))))
theorem dX12_tests_143 : decode cX12_tests 143 = .ok (.aload_n 0, 1) := zc1 (zc2 (zc2 (zc2 (zc2 (zc2 zg08d01_dec_31)))))
theorem dX12_tests_144 : decode cX12_tests 144 = .ok (.getfield 66, 3) := zc1 (zc2 (zc2 (zc2 (zc2 (zc2 (zc2 zg08d01_dec_31))))))
theorem dX12_tests_147 : decode cX12_tests 147 = .ok (.iload_n 1, 1) := zc1 (zc2 (zc2 (zc2 (zc2 (zc2 (zc2 (zc2 zg08d01_dec_31)))))))
theorem dX12_tests_148 : decode cX12_tests 148 = .ok (.iconst 0, 1) := zc1 (zc2 (zc2 (zc2 (zc2 (zc2 (zc2 (zc2 (zc2 zg08d01_dec_31))))))))
theorem dX12_tests_149 : decode cX12_tests 149 = .ok (.iastore, 1) := zc1 (zc2 (zc2 (zc2 (zc2 (zc2 (zc2 (zc2 (zc2 (zc2 zg08d01_dec_31)))))))))
theorem zg08d01_dec_32 : zCj cX12_tests [(150, .aload_n 0, 1), (151, .getfield 69, 3), (154, .iload_n 1, 1), (155, .iconst 0, 1), (156, .iastore, 1), (157, .aload_n 0, 1), (158, .getfield 72, 3), (161, .iload_n 1, 1), (162, .bipush 20, 2), (164, .iastore, 1)] := zCo _ 150 (by decide +kernel)
theorem dX12_tests_150 : decode cX12_tests 150 = .ok (.aload_n 0, 1) := zc1 zg08d01_dec_32
theorem dX12_tests_151 : decode cX12_tests 151 = .ok (.getfield 69, 3) := zc1 (zc2 zg08d01_dec_32)
theorem dX12_tests_154 : decode cX12_tests 154 = .ok (.iload_n 1, 1) := zc1 (zc2 (zc2 zg08d01_dec_32))
theorem dX12_tests_155 : decode cX12_tests 155 = .ok (.iconst 0, 1) := zc1 (zc2 (zc2 (zc2 zg08d01_dec_32)))
theorem dX12_tests_156 : decode cX12_tests 156 = .ok (.iastore, 1) := zc1 (zc2 (zc2 (zc2 (zc2 zg08d01_dec_32))))
theorem dX12_tests_157 : decode cX12_tests 157 = .ok (.aload_n 0, 1) := zc1 (zc2 (zc2 (zc2 (zc2 (zc2 zg08d01_dec_32)))))
theorem dX12_tests_158 : decode cX12_tests 158 = .ok (.getfield 72, 3) := zc1 (zc2 (zc2 (zc2 (zc2 (zc2 (zc2 zg08d01_dec_32))))))
theorem dX12_tests_161 : decode cX12_tests 161 = .ok (.iload_n 1, 1) := zc1 (zc2 (zc2 (zc2 (zc2 (zc2 (zc2 (zc2 zg08d01_dec_32)))))))
theorem dX12_tests_162 : decode cX12_tests 162 = .ok (.bipush 20, 2) := zc1 (zc2 (zc2 (zc2 (zc2 (zc2 (zc2 (zc2 (zc2 zg08d01_dec_32))))))))
theorem dX12_tests_164 : decode cX12_tests 164 = .ok (.iastore, 1) := zc1 (zc2 (zc2 (zc2 (zc2 (zc2 (zc2 (zc2 (zc2 (zc2 zg08d01_dec_32)))))))))
theorem dX12_tests_165 : decode cX12_tests 165 = .ok (.return_, 1) := by decide +kernel
theorem zg08d01_dec_33 : zCj cX12_worked [(0, .iconst 0, 1), (1, .istore_n 2, 1), (2, .aload_n 0, 1), (3, .iconst 0, 1), (4, .invokevirtual 210, 3), (7, .aload_n 0, 1), (8, .getfield 41, 3), (11, .iload_n 1, 1), (12, .iaload, 1), (13, .istore_n 3, 1)] := zCo _ 0 (by decide +kernel)
theorem dX12_worked_0 : decode cX12_worked 0 = .ok (.iconst 0, 1) := zc1 zg08d01_dec_33
theorem dX12_worked_1 : decode cX12_worked 1 = .ok (.istore_n 2, 1) := zc1 (zc2 zg08d01_dec_33)
theorem dX12_worked_2 : decode cX12_worked 2 = .ok (.aload_n 0, 1) := zc1 (zc2 (zc2 zg08d01_dec_33))
theorem dX12_worked_3 : decode cX12_worked 3 = .ok (.iconst 0, 1) := zc1 (zc2 (zc2 (zc2 zg08d01_dec_33)))
theorem dX12_worked_4 : decode cX12_worked 4 = .ok (.invokevirtual 210, 3) := zc1 (zc2 (zc2 (zc2 (zc2 zg08d01_dec_33))))
theorem dX12_worked_7 : decode cX12_worked 7 = .ok (.aload_n 0, 1) := zc1 (zc2 (zc2 (zc2 (zc2 (zc2 zg08d01_dec_33)))))
theorem dX12_worked_8 : decode cX12_worked 8 = .ok (.getfield 41, 3) := zc1 (zc2 (zc2 (zc2 (zc2 (zc2 (zc2 zg08d01_dec_33))))))
theorem dX12_worked_11 : decode cX12_worked 11 = .ok (.iload_n 1, 1) := zc1 (zc2 (zc2 (zc2 (zc2 (zc2 (zc2 (zc2 zg08d01_dec_33)))))))
theorem dX12_worked_12 : decode cX12_worked 12 = .ok (.iaload, 1) := zc1 (zc2 (zc2 (zc2 (zc2 (zc2 (zc2 (zc2 (zc2 zg08d01_dec_33))))))))
theorem dX12_worked_13 : decode cX12_worked 13 = .ok (.istore_n 3, 1) := zc1 (zc2 (zc2 (zc2 (zc2 (zc2 (zc2 (zc2 (zc2 (zc2 zg08d01_dec_33)))))))))
theorem zg08d01_dec_34 : zCj cX12_worked [(14, .iload_n 3, 1), (15, .aload_n 0, 1), (16, .getfield 44, 3), (19, .iload_n 1, 1), (20, .iaload, 1), (21, .if_icmp .ge 314, 3), (24, .aload_n 0, 1), (25, .getfield 47, 3), (28, .iload_n 3, 1), (29, .iaload, 1)] := zCo _ 14 (by decide +kernel)
theorem dX12_worked_14 : decode cX12_worked 14 = .ok (.iload_n 3, 1) := zc1 zg08d01_dec_34
theorem dX12_worked_15 : decode cX12_worked 15 = .ok (.aload_n 0, 1) := zc1 (zc2 zg08d01_dec_34)
theorem dX12_worked_16 : decode cX12_worked 16 = .ok (.getfield 44, 3) := zc1 (zc2 (zc2 zg08d01_dec_34))
theorem dX12_worked_19 : decode cX12_worked 19 = .ok (.iload_n 1, 1) := zc1 (zc2 (zc2 (zc2 zg08d01_dec_34)))
theorem dX12_worked_20 : decode cX12_worked 20 = .ok (.iaload, 1) := zc1 (zc2 (zc2 (zc2 (zc2 zg08d01_dec_34))))
theorem dX12_worked_21 : decode cX12_worked 21 = .ok (.if_icmp .ge 314, 3) := zc1 (zc2 (zc2 (zc2 (zc2 (zc2 zg08d01_dec_34)))))
theorem dX12_worked_24 : decode cX12_worked 24 = .ok (.aload_n 0, 1) := zc1 (zc2 (zc2 (zc2 (zc2 (zc2 (zc2 zg08d01_dec_34))))))
theorem dX12_worked_25 : decode cX12_worked 25 = .ok (.getfield 47, 3) := zc1 (zc2 (zc2 (zc2 (zc2 (zc2 (zc2 (zc2 zg08d01_dec_34)))))))
theorem dX12_worked_28 : decode cX12_worked 28 = .ok (.iload_n 3, 1) := zc1 (zc2 (zc2 (zc2 (zc2 (zc2 (zc2 (zc2 (zc2 zg08d01_dec_34))))))))
theorem dX12_worked_29 : decode cX12_worked 29 = .ok (.iaload, 1) := zc1 (zc2 (zc2 (zc2 (zc2 (zc2 (zc2 (zc2 (zc2 (zc2 zg08d01_dec_34)))))))))
theorem zg08d01_dec_35 : zCj cX12_worked [(30, .istore 4, 2), (32, .iload 4, 2), (34, .bipush 28, 2), (36, .if_icmp .eq 10, 3), (39, .iload 4, 2), (41, .bipush 30, 2), (43, .if_icmp .ne 32, 3), (46, .iinc 2 1, 3), (49, .aload_n 0, 1), (50, .getfield 81, 3)] := zCo _ 30 (by decide +kernel)
theorem dX12_worked_30 : decode cX12_worked 30 = .ok (.istore 4, 2) := zc1 zg08d01_dec_35
theorem dX12_worked_32 : decode cX12_worked 32 = .ok (.iload 4, 2) := zc1 (zc2 zg08d01_dec_35)
theorem dX12_worked_34 : decode cX12_worked 34 = .ok (.bipush 28, 2) := zc1 (zc2 (zc2 zg08d01_dec_35))
theorem dX12_worked_36 : decode cX12_worked 36 = .ok (.if_icmp .eq 10, 3) := zc1 (zc2 (zc2 (zc2 zg08d01_dec_35)))
theorem dX12_worked_39 : decode cX12_worked 39 = .ok (.iload 4, 2) := zc1 (zc2 (zc2 (zc2 (zc2 zg08d01_dec_35))))
theorem dX12_worked_41 : decode cX12_worked 41 = .ok (.bipush 30, 2) := zc1 (zc2 (zc2 (zc2 (zc2 (zc2 zg08d01_dec_35)))))
theorem dX12_worked_43 : decode cX12_worked 43 = .ok (.if_icmp .ne 32, 3) := zc1 (zc2 (zc2 (zc2 (zc2 (zc2 (zc2 zg08d01_dec_35))))))
theorem dX12_worked_46 : decode cX12_worked 46 = .ok (.iinc 2 1, 3) := zc1 (zc2 (zc2 (zc2 (zc2 (zc2 (zc2 (zc2 zg08d01_dec_35)))))))
theorem dX12_worked_49 : decode cX12_worked 49 = .ok (.aload_n 0, 1) := zc1 (zc2 (zc2 (zc2 (zc2 (zc2 (zc2 (zc2 (zc2 zg08d01_dec_35))))))))
theorem dX12_worked_50 : decode cX12_worked 50 = .ok (.getfield 81, 3) := zc1 (zc2 (zc2 (zc2 (zc2 (zc2 (zc2 (zc2 (zc2 (zc2 zg08d01_dec_35)))))))))
theorem zg08d01_dec_36 : zCj cX12_worked [(53, .iload_n 2, 1), (54, .iload 4, 2), (56, .bipush 30, 2), (58, .if_icmp .ne 7, 3), (61, .iconst 1, 1), (62, .goto 4, 3), (65, .iconst 0, 1), (66, .iastore, 1), (67, .aload_n 0, 1), (68, .iload_n 2, 1)] := zCo _ 53 (by decide +kernel)
theorem dX12_worked_53 : decode cX12_worked 53 = .ok (.iload_n 2, 1) := zc1 zg08d01_dec_36
theorem dX12_worked_54 : decode cX12_worked 54 = .ok (.iload 4, 2) := zc1 (zc2 zg08d01_dec_36)
theorem dX12_worked_56 : decode cX12_worked 56 = .ok (.bipush 30, 2) := zc1 (zc2 (zc2 zg08d01_dec_36))
theorem dX12_worked_58 : decode cX12_worked 58 = .ok (.if_icmp .ne 7, 3) := zc1 (zc2 (zc2 (zc2 zg08d01_dec_36)))
theorem dX12_worked_61 : decode cX12_worked 61 = .ok (.iconst 1, 1) := zc1 (zc2 (zc2 (zc2 (zc2 zg08d01_dec_36))))
theorem dX12_worked_62 : decode cX12_worked 62 = .ok (.goto 4, 3) := zc1 (zc2 (zc2 (zc2 (zc2 (zc2 zg08d01_dec_36)))))
theorem dX12_worked_65 : decode cX12_worked 65 = .ok (.iconst 0, 1) := zc1 (zc2 (zc2 (zc2 (zc2 (zc2 (zc2 zg08d01_dec_36))))))
theorem dX12_worked_66 : decode cX12_worked 66 = .ok (.iastore, 1) := zc1 (zc2 (zc2 (zc2 (zc2 (zc2 (zc2 (zc2 zg08d01_dec_36)))))))
theorem dX12_worked_67 : decode cX12_worked 67 = .ok (.aload_n 0, 1) := zc1 (zc2 (zc2 (zc2 (zc2 (zc2 (zc2 (zc2 (zc2 zg08d01_dec_36))))))))
theorem dX12_worked_68 : decode cX12_worked 68 = .ok (.iload_n 2, 1) := zc1 (zc2 (zc2 (zc2 (zc2 (zc2 (zc2 (zc2 (zc2 (zc2 zg08d01_dec_36)))))))))
theorem zg08d01_dec_37 : zCj cX12_worked [(69, .invokevirtual 210, 3), (72, .goto 257, 3), (75, .iload 4, 2), (77, .bipush 20, 2), (79, .if_icmp .eq 10, 3), (82, .iload 4, 2), (84, .bipush 21, 2), (86, .if_icmp .ne 19, 3), (89, .aload_n 0, 1), (90, .iload_n 2, 1)] := zCo _ 69 (by decide +kernel)
theorem dX12_worked_69 : decode cX12_worked 69 = .ok (.invokevirtual 210, 3) := zc1 zg08d01_dec_37
theorem dX12_worked_72 : decode cX12_worked 72 = .ok (.goto 257, 3) := zc1 (zc2 zg08d01_dec_37)
theorem dX12_worked_75 : decode cX12_worked 75 = .ok (.iload 4, 2) := zc1 (zc2 (zc2 zg08d01_dec_37))
theorem dX12_worked_77 : decode cX12_worked 77 = .ok (.bipush 20, 2) := zc1 (zc2 (zc2 (zc2 zg08d01_dec_37)))
theorem dX12_worked_79 : decode cX12_worked 79 = .ok (.if_icmp .eq 10, 3) := zc1 (zc2 (zc2 (zc2 (zc2 zg08d01_dec_37))))
theorem dX12_worked_82 : decode cX12_worked 82 = .ok (.iload 4, 2) := zc1 (zc2 (zc2 (zc2 (zc2 (zc2 zg08d01_dec_37)))))
theorem dX12_worked_84 : decode cX12_worked 84 = .ok (.bipush 21, 2) := zc1 (zc2 (zc2 (zc2 (zc2 (zc2 (zc2 zg08d01_dec_37))))))
theorem dX12_worked_86 : decode cX12_worked 86 = .ok (.if_icmp .ne 19, 3) := zc1 (zc2 (zc2 (zc2 (zc2 (zc2 (zc2 (zc2 zg08d01_dec_37)))))))
theorem dX12_worked_89 : decode cX12_worked 89 = .ok (.aload_n 0, 1) := zc1 (zc2 (zc2 (zc2 (zc2 (zc2 (zc2 (zc2 (zc2 zg08d01_dec_37))))))))
theorem dX12_worked_90 : decode cX12_worked 90 = .ok (.iload_n 2, 1) := zc1 (zc2 (zc2 (zc2 (zc2 (zc2 (zc2 (zc2 (zc2 (zc2 zg08d01_dec_37)))))))))
theorem zg08d01_dec_38 : zCj cX12_worked [(91, .invokevirtual 207, 3), (94, .aload_n 0, 1), (95, .getfield 72, 3), (98, .iload_n 2, 1), (99, .iload 4, 2), (101, .iastore, 1), (102, .goto 227, 3), (105, .iload 4, 2), (107, .bipush 22, 2), (109, .if_icmp .ne 14, 3)] := zCo _ 91 (by decide +kernel)
theorem dX12_worked_91 : decode cX12_worked 91 = .ok (.invokevirtual 207, 3) := zc1 zg08d01_dec_38
theorem dX12_worked_94 : decode cX12_worked 94 = .ok (.aload_n 0, 1) := zc1 (zc2 zg08d01_dec_38)
theorem dX12_worked_95 : decode cX12_worked 95 = .ok (.getfield 72, 3) := zc1 (zc2 (zc2 zg08d01_dec_38))
theorem dX12_worked_98 : decode cX12_worked 98 = .ok (.iload_n 2, 1) := zc1 (zc2 (zc2 (zc2 zg08d01_dec_38)))
theorem dX12_worked_99 : decode cX12_worked 99 = .ok (.iload 4, 2) := zc1 (zc2 (zc2 (zc2 (zc2 zg08d01_dec_38))))
theorem dX12_worked_101 : decode cX12_worked 101 = .ok (.iastore, 1) := zc1 (zc2 (zc2 (zc2 (zc2 (zc2 zg08d01_dec_38)))))
theorem dX12_worked_102 : decode cX12_worked 102 = .ok (.goto 227, 3) := zc1 (zc2 (zc2 (zc2 (zc2 (zc2 (zc2 zg08d01_dec_38))))))
theorem dX12_worked_105 : decode cX12_worked 105 = .ok (.iload 4, 2) := zc1 (zc2 (zc2 (zc2 (zc2 (zc2 (zc2 (zc2 zg08d01_dec_38)))))))
theorem dX12_worked_107 : decode cX12_worked 107 = .ok (.bipush 22, 2) := zc1 (zc2 (zc2 (zc2 (zc2 (zc2 (zc2 (zc2 (zc2 zg08d01_dec_38))))))))
theorem dX12_worked_109 : decode cX12_worked 109 = .ok (.if_icmp .ne 14, 3) := zc1 (zc2 (zc2 (zc2 (zc2 (zc2 (zc2 (zc2 (zc2 (zc2 zg08d01_dec_38)))))))))
theorem zg08d01_dec_39 : zCj cX12_worked [(112, .aload_n 0, 1), (113, .getfield 78, 3), (116, .iload_n 2, 1), (117, .iload 4, 2), (119, .iastore, 1), (120, .goto 209, 3), (123, .iload 4, 2), (125, .bipush 24, 2), (127, .if_icmp .eq 10, 3), (130, .iload 4, 2)] := zCo _ 112 (by decide +kernel)
theorem dX12_worked_112 : decode cX12_worked 112 = .ok (.aload_n 0, 1) := zc1 zg08d01_dec_39
theorem dX12_worked_113 : decode cX12_worked 113 = .ok (.getfield 78, 3) := zc1 (zc2 zg08d01_dec_39)
theorem dX12_worked_116 : decode cX12_worked 116 = .ok (.iload_n 2, 1) := zc1 (zc2 (zc2 zg08d01_dec_39))
theorem dX12_worked_117 : decode cX12_worked 117 = .ok (.iload 4, 2) := zc1 (zc2 (zc2 (zc2 zg08d01_dec_39)))
theorem dX12_worked_119 : decode cX12_worked 119 = .ok (.iastore, 1) := zc1 (zc2 (zc2 (zc2 (zc2 zg08d01_dec_39))))
theorem dX12_worked_120 : decode cX12_worked 120 = .ok (.goto 209, 3) := zc1 (zc2 (zc2 (zc2 (zc2 (zc2 zg08d01_dec_39)))))
theorem dX12_worked_123 : decode cX12_worked 123 = .ok (.iload 4, 2) := zc1 (zc2 (zc2 (zc2 (zc2 (zc2 (zc2 zg08d01_dec_39))))))
theorem dX12_worked_125 : decode cX12_worked 125 = .ok (.bipush 24, 2) := zc1 (zc2 (zc2 (zc2 (zc2 (zc2 (zc2 (zc2 zg08d01_dec_39)))))))
theorem dX12_worked_127 : decode cX12_worked 127 = .ok (.if_icmp .eq 10, 3) := zc1 (zc2 (zc2 (zc2 (zc2 (zc2 (zc2 (zc2 (zc2 zg08d01_dec_39))))))))
theorem dX12_worked_130 : decode cX12_worked 130 = .ok (.iload 4, 2) := zc1 (zc2 (zc2 (zc2 (zc2 (zc2 (zc2 (zc2 (zc2 (zc2 zg08d01_dec_39)))))))))
theorem zg08d01_dec_40 : zCj cX12_worked [(132, .bipush 25, 2), (134, .if_icmp .ne 46, 3), (137, .aload_n 0, 1), (138, .iload_n 2, 1), (139, .invokevirtual 207, 3), (142, .aload_n 0, 1), (143, .getfield 63, 3), (146, .iload_n 2, 1), (147, .aload_n 0, 1), (148, .getfield 69, 3)] := zCo _ 132 (by decide +kernel)
theorem dX12_worked_132 : decode cX12_worked 132 = .ok (.bipush 25, 2) := zc1 zg08d01_dec_40
theorem dX12_worked_134 : decode cX12_worked 134 = .ok (.if_icmp .ne 46, 3) := zc1 (zc2 zg08d01_dec_40)
theorem dX12_worked_137 : decode cX12_worked 137 = .ok (.aload_n 0, 1) := zc1 (zc2 (zc2 zg08d01_dec_40))
theorem dX12_worked_138 : decode cX12_worked 138 = .ok (.iload_n 2, 1) := zc1 (zc2 (zc2 (zc2 zg08d01_dec_40)))
theorem dX12_worked_139 : decode cX12_worked 139 = .ok (.invokevirtual 207, 3) := zc1 (zc2 (zc2 (zc2 (zc2 zg08d01_dec_40))))
theorem dX12_worked_142 : decode cX12_worked 142 = .ok (.aload_n 0, 1) := zc1 (zc2 (zc2 (zc2 (zc2 (zc2 zg08d01_dec_40)))))
theorem dX12_worked_143 : decode cX12_worked 143 = .ok (.getfield 63, 3) := zc1 (zc2 (zc2 (zc2 (zc2 (zc2 (zc2 zg08d01_dec_40))))))
theorem dX12_worked_146 : decode cX12_worked 146 = .ok (.iload_n 2, 1) := zc1 (zc2 (zc2 (zc2 (zc2 (zc2 (zc2 (zc2 zg08d01_dec_40)))))))
theorem dX12_worked_147 : decode cX12_worked 147 = .ok (.aload_n 0, 1) := zc1 (zc2 (zc2 (zc2 (zc2 (zc2 (zc2 (zc2 (zc2 zg08d01_dec_40))))))))
theorem dX12_worked_148 : decode cX12_worked 148 = .ok (.getfield 69, 3) := zc1 (zc2 (zc2 (zc2 (zc2 (zc2 (zc2 (zc2 (zc2 (zc2 zg08d01_dec_40)))))))))
theorem zg08d01_dec_41 : zCj cX12_worked [(151, .iload_n 2, 1), (152, .iaload, 1), (153, .iastore, 1), (154, .aload_n 0, 1), (155, .getfield 66, 3), (158, .iload_n 2, 1), (159, .iload 4, 2), (161, .iastore, 1), (162, .aload_n 0, 1), (163, .getfield 69, 3)] := zCo _ 151 (by decide +kernel)
theorem dX12_worked_151 : decode cX12_worked 151 = .ok (.iload_n 2, 1) := zc1 zg08d01_dec_41
theorem dX12_worked_152 : decode cX12_worked 152 = .ok (.iaload, 1) := zc1 (zc2 zg08d01_dec_41)
theorem dX12_worked_153 : decode cX12_worked 153 = .ok (.iastore, 1) := zc1 (zc2 (zc2 zg08d01_dec_41))
theorem dX12_worked_154 : decode cX12_worked 154 = .ok (.aload_n 0, 1) := zc1 (zc2 (zc2 (zc2 zg08d01_dec_41)))
theorem dX12_worked_155 : decode cX12_worked 155 = .ok (.getfield 66, 3) := zc1 (zc2 (zc2 (zc2 (zc2 zg08d01_dec_41))))
theorem dX12_worked_158 : decode cX12_worked 158 = .ok (.iload_n 2, 1) := zc1 (zc2 (zc2 (zc2 (zc2 (zc2 zg08d01_dec_41)))))
theorem dX12_worked_159 : decode cX12_worked 159 = .ok (.iload 4, 2) := zc1 (zc2 (zc2 (zc2 (zc2 (zc2 (zc2 zg08d01_dec_41))))))
theorem dX12_worked_161 : decode cX12_worked 161 = .ok (.iastore, 1) := zc1 (zc2 (zc2 (zc2 (zc2 (zc2 (zc2 (zc2 zg08d01_dec_41)))))))
theorem dX12_worked_162 : decode cX12_worked 162 = .ok (.aload_n 0, 1) := zc1 (zc2 (zc2 (zc2 (zc2 (zc2 (zc2 (zc2 (zc2 zg08d01_dec_41))))))))
theorem dX12_worked_163 : decode cX12_worked 163 = .ok (.getfield 69, 3) := zc1 (zc2 (zc2 (zc2 (zc2 (zc2 (zc2 (zc2 (zc2 (zc2 zg08d01_dec_41)))))))))
theorem zg08d01_dec_42 : zCj cX12_worked [(166, .iload_n 2, 1), (167, .iconst 0, 1), (168, .iastore, 1), (169, .aload_n 0, 1), (170, .getfield 72, 3), (173, .iload_n 2, 1), (174, .bipush 20, 2), (176, .iastore, 1), (177, .goto 152, 3), (180, .iload 4, 2)] := zCo _ 166 (by decide +kernel)
theorem dX12_worked_166 : decode cX12_worked 166 = .ok (.iload_n 2, 1) := zc1 zg08d01_dec_42
theorem dX12_worked_167 : decode cX12_worked 167 = .ok (.iconst 0, 1) := zc1 (zc2 zg08d01_dec_42)
theorem dX12_worked_168 : decode cX12_worked 168 = .ok (.iastore, 1) := zc1 (zc2 (zc2 zg08d01_dec_42))
theorem dX12_worked_169 : decode cX12_worked 169 = .ok (.aload_n 0, 1) := zc1 (zc2 (zc2 (zc2 zg08d01_dec_42)))
theorem dX12_worked_170 : decode cX12_worked 170 = .ok (.getfield 72, 3) := zc1 (zc2 (zc2 (zc2 (zc2 zg08d01_dec_42))))
theorem dX12_worked_173 : decode cX12_worked 173 = .ok (.iload_n 2, 1) := zc1 (zc2 (zc2 (zc2 (zc2 (zc2 zg08d01_dec_42)))))
theorem dX12_worked_174 : decode cX12_worked 174 = .ok (.bipush 20, 2) := zc1 (zc2 (zc2 (zc2 (zc2 (zc2 (zc2 zg08d01_dec_42))))))
theorem dX12_worked_176 : decode cX12_worked 176 = .ok (.iastore, 1) := zc1 (zc2 (zc2 (zc2 (zc2 (zc2 (zc2 (zc2 zg08d01_dec_42)))))))
theorem dX12_worked_177 : decode cX12_worked 177 = .ok (.goto 152, 3) := zc1 (zc2 (zc2 (zc2 (zc2 (zc2 (zc2 (zc2 (zc2 zg08d01_dec_42))))))))
theorem dX12_worked_180 : decode cX12_worked 180 = .ok (.iload 4, 2) := zc1 (zc2 (zc2 (zc2 (zc2 (zc2 (zc2 (zc2 (zc2 (zc2 zg08d01_dec_42)))))))))
theorem zg08d01_dec_43 : zCj cX12_worked [(182, .bipush 26, 2), (184, .if_icmp .eq 10, 3), (187, .iload 4, 2), (189, .bipush 27, 2), (191, .if_icmp .ne 19, 3), (194, .aload_n 0, 1), (195, .iload_n 2, 1), (196, .invokevirtual 213, 3), (199, .aload_n 0, 1), (200, .getfield 60, 3)] := zCo _ 182 (by decide +kernel)
theorem dX12_worked_182 : decode cX12_worked 182 = .ok (.bipush 26, 2) := zc1 zg08d01_dec_43
theorem dX12_worked_184 : decode cX12_worked 184 = .ok (.if_icmp .eq 10, 3) := zc1 (zc2 zg08d01_dec_43)
theorem dX12_worked_187 : decode cX12_worked 187 = .ok (.iload 4, 2) := zc1 (zc2 (zc2 zg08d01_dec_43))
theorem dX12_worked_189 : decode cX12_worked 189 = .ok (.bipush 27, 2) := zc1 (zc2 (zc2 (zc2 zg08d01_dec_43)))
theorem dX12_worked_191 : decode cX12_worked 191 = .ok (.if_icmp .ne 19, 3) := zc1 (zc2 (zc2 (zc2 (zc2 zg08d01_dec_43))))
theorem dX12_worked_194 : decode cX12_worked 194 = .ok (.aload_n 0, 1) := zc1 (zc2 (zc2 (zc2 (zc2 (zc2 zg08d01_dec_43)))))
theorem dX12_worked_195 : decode cX12_worked 195 = .ok (.iload_n 2, 1) := zc1 (zc2 (zc2 (zc2 (zc2 (zc2 (zc2 zg08d01_dec_43))))))
theorem dX12_worked_196 : decode cX12_worked 196 = .ok (.invokevirtual 213, 3) := zc1 (zc2 (zc2 (zc2 (zc2 (zc2 (zc2 (zc2 zg08d01_dec_43)))))))
theorem dX12_worked_199 : decode cX12_worked 199 = .ok (.aload_n 0, 1) := zc1 (zc2 (zc2 (zc2 (zc2 (zc2 (zc2 (zc2 (zc2 zg08d01_dec_43))))))))
theorem dX12_worked_200 : decode cX12_worked 200 = .ok (.getfield 60, 3) := zc1 (zc2 (zc2 (zc2 (zc2 (zc2 (zc2 (zc2 (zc2 (zc2 zg08d01_dec_43)))))))))
theorem zg08d01_dec_44 : zCj cX12_worked [(203, .iload_n 2, 1), (204, .iload 4, 2), (206, .iastore, 1), (207, .goto 122, 3), (210, .iload 4, 2), (212, .bipush 100, 2), (214, .if_icmp .lt 11, 3), (217, .iload 4, 2), (219, .bipush 100, 2), (221, .isub, 1)] := zCo _ 203 (by decide +kernel)
theorem dX12_worked_203 : decode cX12_worked 203 = .ok (.iload_n 2, 1) := zc1 zg08d01_dec_44
theorem dX12_worked_204 : decode cX12_worked 204 = .ok (.iload 4, 2) := zc1 (zc2 zg08d01_dec_44)
theorem dX12_worked_206 : decode cX12_worked 206 = .ok (.iastore, 1) := zc1 (zc2 (zc2 zg08d01_dec_44))
theorem dX12_worked_207 : decode cX12_worked 207 = .ok (.goto 122, 3) := zc1 (zc2 (zc2 (zc2 zg08d01_dec_44)))
theorem dX12_worked_210 : decode cX12_worked 210 = .ok (.iload 4, 2) := zc1 (zc2 (zc2 (zc2 (zc2 zg08d01_dec_44))))
theorem dX12_worked_212 : decode cX12_worked 212 = .ok (.bipush 100, 2) := zc1 (zc2 (zc2 (zc2 (zc2 (zc2 zg08d01_dec_44)))))
theorem dX12_worked_214 : decode cX12_worked 214 = .ok (.if_icmp .lt 11, 3) := zc1 (zc2 (zc2 (zc2 (zc2 (zc2 (zc2 zg08d01_dec_44))))))
theorem dX12_worked_217 : decode cX12_worked 217 = .ok (.iload 4, 2) := zc1 (zc2 (zc2 (zc2 (zc2 (zc2 (zc2 (zc2 zg08d01_dec_44)))))))
theorem dX12_worked_219 : decode cX12_worked 219 = .ok (.bipush 100, 2) := zc1 (zc2 (zc2 (zc2 (zc2 (zc2 (zc2 (zc2 (zc2 zg08d01_dec_44))))))))
theorem dX12_worked_221 : decode cX12_worked 221 = .ok (.isub, 1) := zc1 (zc2 (zc2 (zc2 (zc2 (zc2 (zc2 (zc2 (zc2 (zc2 zg08d01_dec_44)))))))))
theorem zg08d01_dec_45 : zCj cX12_worked [(222, .goto 21, 3), (225, .iload 4, 2), (227, .bipush 20, 2), (229, .if_icmp .ge 13, 3), (232, .aload_n 0, 1), (233, .getfield 84, 3), (236, .iload 4, 2), (238, .iaload, 1), (239, .goto 4, 3), (242, .iconst 0, 1)] := zCo _ 222 (by decide +kernel)
theorem dX12_worked_222 : decode cX12_worked 222 = .ok (.goto 21, 3) := zc1 zg08d01_dec_45
theorem dX12_worked_225 : decode cX12_worked 225 = .ok (.iload 4, 2) := zc1 (zc2 zg08d01_dec_45)
theorem dX12_worked_227 : decode cX12_worked 227 = .ok (.bipush 20, 2) := zc1 (zc2 (zc2 zg08d01_dec_45))
theorem dX12_worked_229 : decode cX12_worked 229 = .ok (.if_icmp .ge 13, 3) := zc1 (zc2 (zc2 (zc2 zg08d01_dec_45)))
theorem dX12_worked_232 : decode cX12_worked 232 = .ok (.aload_n 0, 1) := zc1 (zc2 (zc2 (zc2 (zc2 zg08d01_dec_45))))
theorem dX12_worked_233 : decode cX12_worked 233 = .ok (.getfield 84, 3) := zc1 (zc2 (zc2 (zc2 (zc2 (zc2 zg08d01_dec_45)))))
theorem dX12_worked_236 : decode cX12_worked 236 = .ok (.iload 4, 2) := zc1 (zc2 (zc2 (zc2 (zc2 (zc2 (zc2 zg08d01_dec_45))))))
theorem dX12_worked_238 : decode cX12_worked 238 = .ok (.iaload, 1) := zc1 (zc2 (zc2 (zc2 (zc2 (zc2 (zc2 (zc2 zg08d01_dec_45)))))))
theorem dX12_worked_239 : decode cX12_worked 239 = .ok (.goto 4, 3) := zc1 (zc2 (zc2 (zc2 (zc2 (zc2 (zc2 (zc2 (zc2 zg08d01_dec_45))))))))
theorem dX12_worked_242 : decode cX12_worked 242 = .ok (.iconst 0, 1) := zc1 (zc2 (zc2 (zc2 (zc2 (zc2 (zc2 (zc2 (zc2 (zc2 zg08d01_dec_45)))))))))
theorem zg08d01_dec_46 : zCj cX12_worked [(243, .istore 5, 2), (245, .iload 4, 2), (247, .bipush 29, 2)] := zCo _ 243 (by decide +kernel)
theorem dX12_worked_243 : decode cX12_worked 243 = .ok (.istore 5, 2) := zc1 zg08d01_dec_46
theorem dX12_worked_245 : decode cX12_worked 245 = .ok (.iload 4, 2) := zc1 (zc2 zg08d01_dec_46)
theorem dX12_worked_247 : decode cX12_worked 247 = .ok (.bipush 29, 2) := zc1 (zc2 (zc2 zg08d01_dec_46))
