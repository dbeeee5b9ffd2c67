def bX11_init_0 : List kx_O := [(.aload_n 0, 0, 0, 0, .null), (.invokespecial 7, 0, 0, 0, .null), (.aload_n 0, 0, 0, 0, .null), (.sipush 1700, 0, 0, 0, .int 1700), (.newarray .int, 0, 0, 0, .null), (.putfield 13, 11, 4, 3, .null), (.aload_n 0, 0, 0, 0, .null), (.iconst (-1), 0, 0, 0, .int (-1)), (.putfield 17, 11, 14, 0, .null), (.aload_n 0, 0, 0, 0, .null), (.sipush 400, 0, 0, 0, .int 400), (.newarray .int, 0, 0, 0, .null), (.putfield 20, 11, 16, 3, .null), (.aload_n 0, 0, 0, 0, .null), (.bipush 16, 0, 0, 0, .int 16), (.newarray .int, 0, 0, 0, .null), (.putfield 23, 11, 17, 3, .null), (.aload_n 0, 0, 0, 0, .null), (.sipush 400, 0, 0, 0, .int 400), (.newarray .int, 0, 0, 0, .null), (.putfield 26, 11, 18, 3, .null), (.aload_n 0, 0, 0, 0, .null), (.sipush 400, 0, 0, 0, .int 400), (.newarray .int, 0, 0, 0, .null), (.putfield 29, 11, 19, 3, .null), (.aload_n 0, 0, 0, 0, .null), (.bipush 24, 0, 0, 0, .int 24), (.newarray .int, 0, 0, 0, .null), (.putfield 32, 11, 20, 3, .null), (.aload_n 0, 0, 0, 0, .null), (.bipush 8, 0, 0, 0, .int 8), (.newarray .int, 0, 0, 0, .null), (.putfield 35, 11, 23, 3, .null)]
theorem kX11_init_0 : kx_oks kxL_X11 true cX11_init 0 bX11_init_0 = true := by decide +kernel
def bX11_init_69 : List kx_O := [(.aload_n 0, 0, 0, 0, .null), (.bipush 8, 0, 0, 0, .int 8), (.newarray .int, 0, 0, 0, .null), (.putfield 38, 11, 24, 3, .null), (.aload_n 0, 0, 0, 0, .null), (.sipush 128, 0, 0, 0, .int 128), (.newarray .int, 0, 0, 0, .null), (.putfield 41, 11, 25, 3, .null), (.aload_n 0, 0, 0, 0, .null), (.bipush 8, 0, 0, 0, .int 8), (.newarray .int, 0, 0, 0, .null), (.putfield 44, 11, 26, 3, .null), (.aload_n 0, 0, 0, 0, .null), (.sipush 192, 0, 0, 0, .int 192), (.newarray .int, 0, 0, 0, .null), (.putfield 47, 11, 27, 3, .null), (.aload_n 0, 0, 0, 0, .null), (.bipush 8, 0, 0, 0, .int 8), (.newarray .int, 0, 0, 0, .null), (.putfield 50, 11, 28, 3, .null), (.aload_n 0, 0, 0, 0, .null), (.sipush 3200, 0, 0, 0, .int 3200), (.newarray .int, 0, 0, 0, .null), (.putfield 53, 11, 29, 3, .null), (.aload_n 0, 0, 0, 0, .null), (.sipush 3200, 0, 0, 0, .int 3200), (.newarray .int, 0, 0, 0, .null), (.putfield 56, 11, 30, 3, .null), (.aload_n 0, 0, 0, 0, .null), (.bipush 8, 0, 0, 0, .int 8), (.newarray .int, 0, 0, 0, .null), (.putfield 59, 11, 31, 3, .null)]
theorem kX11_init_69 : kx_oks kxL_X11 true cX11_init 69 bX11_init_69 = true := by decide +kernel
def bX11_init_137 : List kx_O := [(.aload_n 0, 0, 0, 0, .null), (.bipush 8, 0, 0, 0, .int 8), (.newarray .int, 0, 0, 0, .null), (.putfield 62, 11, 32, 3, .null), (.aload_n 0, 0, 0, 0, .null), (.bipush 8, 0, 0, 0, .int 8), (.newarray .int, 0, 0, 0, .null), (.putfield 65, 11, 33, 3, .null), (.aload_n 0, 0, 0, 0, .null), (.bipush 8, 0, 0, 0, .int 8), (.newarray .int, 0, 0, 0, .null), (.putfield 68, 11, 34, 3, .null), (.aload_n 0, 0, 0, 0, .null), (.bipush 8, 0, 0, 0, .int 8), (.newarray .int, 0, 0, 0, .null), (.putfield 71, 11, 35, 3, .null), (.aload_n 0, 0, 0, 0, .null), (.bipush 8, 0, 0, 0, .int 8), (.newarray .int, 0, 0, 0, .null), (.putfield 74, 11, 36, 3, .null), (.aload_n 0, 0, 0, 0, .null), (.bipush 8, 0, 0, 0, .int 8), (.newarray .int, 0, 0, 0, .null), (.putfield 77, 11, 37, 3, .null), (.aload_n 0, 0, 0, 0, .null), (.bipush 8, 0, 0, 0, .int 8), (.newarray .int, 0, 0, 0, .null), (.putfield 80, 11, 38, 3, .null), (.aload_n 0, 0, 0, 0, .null), (.bipush 8, 0, 0, 0, .int 8), (.newarray .long, 1, 0, 0, .null), (.putfield 83, 11, 39, 3, .null)]
theorem kX11_init_137 : kx_oks kxL_X11 true cX11_init 137 bX11_init_137 = true := by decide +kernel
def bX11_init_201 : List kx_O := [(.aload_n 0, 0, 0, 0, .null), (.bipush 8, 0, 0, 0, .int 8), (.newarray .boolean, 2, 0, 0, .null), (.putfield 87, 11, 40, 3, .null), (.aload_n 0, 0, 0, 0, .null), (.sipush 200, 0, 0, 0, .int 200), (.newarray .int, 0, 0, 0, .null), (.putfield 91, 11, 41, 3, .null), (.aload_n 0, 0, 0, 0, .null), (.sipush 200, 0, 0, 0, .int 200), (.newarray .int, 0, 0, 0, .null), (.putfield 94, 11, 42, 3, .null), (.aload_n 0, 0, 0, 0, .null), (.sipush 200, 0, 0, 0, .int 200), (.newarray .int, 0, 0, 0, .null), (.putfield 97, 11, 43, 3, .null), (.aload_n 0, 0, 0, 0, .null), (.sipush 200, 0, 0, 0, .int 200), (.newarray .int, 0, 0, 0, .null), (.putfield 100, 11, 44, 3, .null), (.aload_n 0, 0, 0, 0, .null), (.sipush 13600, 0, 0, 0, .int 13600), (.newarray .int, 0, 0, 0, .null), (.putfield 103, 11, 45, 3, .null), (.aload_n 0, 0, 0, 0, .null), (.bipush 64, 0, 0, 0, .int 64), (.newarray .int, 0, 0, 0, .null), (.putfield 106, 11, 46, 3, .null), (.aload_n 0, 0, 0, 0, .null), (.bipush 120, 0, 0, 0, .int 120), (.newarray .int, 0, 0, 0, .null), (.putfield 109, 11, 56, 3, .null)]
theorem kX11_init_201 : kx_oks kxL_X11 true cX11_init 201 bX11_init_201 = true := by decide +kernel
def bX11_init_270 : List kx_O := [(.aload_n 0, 0, 0, 0, .null), (.bipush 120, 0, 0, 0, .int 120), (.newarray .int, 0, 0, 0, .null), (.putfield 112, 11, 57, 3, .null), (.aload_n 0, 0, 0, 0, .null), (.bipush 6, 0, 0, 0, .int 6), (.newarray .int, 0, 0, 0, .null), (.putfield 115, 11, 64, 3, .null), (.aload_n 0, 0, 0, 0, .null), (.bipush 6, 0, 0, 0, .int 6), (.newarray .int, 0, 0, 0, .null), (.putfield 118, 11, 65, 3, .null), (.aload_n 0, 0, 0, 0, .null), (.iconst 4, 0, 0, 0, .int 4), (.newarray .int, 0, 0, 0, .null), (.putfield 121, 11, 69, 3, .null), (.aload_n 0, 0, 0, 0, .null), (.ldc 124, 0, 0, 0, .int (161051)), (.newarray .int, 0, 0, 0, .null), (.putfield 125, 11, 70, 3, .null), (.aload_n 0, 0, 0, 0, .null), (.bipush 100, 0, 0, 0, .int 100), (.newarray .int, 0, 0, 0, .null), (.putfield 128, 11, 72, 3, .null), (.aload_n 0, 0, 0, 0, .null), (.bipush 100, 0, 0, 0, .int 100), (.newarray .int, 0, 0, 0, .null), (.putfield 131, 11, 73, 3, .null), (.aload_n 0, 0, 0, 0, .null), (.bipush 100, 0, 0, 0, .int 100), (.newarray .int, 0, 0, 0, .null), (.putfield 134, 11, 74, 3, .null)]
theorem kX11_init_270 : kx_oks kxL_X11 true cX11_init 270 bX11_init_270 = true := by decide +kernel
def bX11_init_333 : List kx_O := [(.aload_n 0, 0, 0, 0, .null), (.bipush 100, 0, 0, 0, .int 100), (.newarray .int, 0, 0, 0, .null), (.putfield 137, 11, 75, 3, .null), (.aload_n 0, 0, 0, 0, .null), (.bipush 40, 0, 0, 0, .int 40), (.newarray .int, 0, 0, 0, .null), (.putfield 140, 11, 81, 3, .null), (.aload_n 0, 0, 0, 0, .null), (.bipush 40, 0, 0, 0, .int 40), (.newarray .int, 0, 0, 0, .null), (.putfield 143, 11, 82, 3, .null), (.aload_n 0, 0, 0, 0, .null), (.bipush 40, 0, 0, 0, .int 40), (.newarray .int, 0, 0, 0, .null), (.putfield 146, 11, 83, 3, .null), (.aload_n 0, 0, 0, 0, .null), (.bipush 8, 0, 0, 0, .int 8), (.newarray .int, 0, 0, 0, .null), (.putfield 149, 11, 85, 3, .null), (.aload_n 0, 0, 0, 0, .null), (.bipush 8, 0, 0, 0, .int 8), (.newarray .int, 0, 0, 0, .null), (.putfield 152, 11, 86, 3, .null), (.aload_n 0, 0, 0, 0, .null), (.bipush 8, 0, 0, 0, .int 8), (.newarray .int, 0, 0, 0, .null), (.putfield 155, 11, 87, 3, .null), (.aload_n 0, 0, 0, 0, .null), (.bipush 8, 0, 0, 0, .int 8), (.newarray .int, 0, 0, 0, .null), (.putfield 158, 11, 88, 3, .null)]
theorem kX11_init_333 : kx_oks kxL_X11 true cX11_init 333 bX11_init_333 = true := by decide +kernel
def bX11_init_397 : List kx_O := [(.aload_n 0, 0, 0, 0, .null), (.bipush 8, 0, 0, 0, .int 8), (.newarray .int, 0, 0, 0, .null), (.putfield 161, 11, 89, 3, .null), (.aload_n 0, 0, 0, 0, .null), (.bipush 8, 0, 0, 0, .int 8), (.newarray .long, 1, 0, 0, .null), (.putfield 164, 11, 90, 3, .null), (.return_, 0, 0, 0, .null)]
theorem kX11_init_397 : kx_oks kxL_X11 true cX11_init 397 bX11_init_397 = true := by decide +kernel
theorem ik_94 (P : kx_P) (x y : Option kx_C) : kx_set (kx_set P 93 x) 94 y 93 = x := ks_n93 (by decide)
theorem ij_94 (P : kx_P) (x y z : Option kx_C) : kx_set (kx_set (kx_set P 93 x) 94 y) 93 z = kx_set (kx_set P 94 y) 93 z := ks_93 (by decide)
theorem ik_95 (P : kx_P) (x y : Option kx_C) : kx_set (kx_set P 93 x) 95 y 93 = x := ks_n93 (by decide)
theorem ij_95 (P : kx_P) (x y z : Option kx_C) : kx_set (kx_set (kx_set P 93 x) 95 y) 93 z = kx_set (kx_set P 95 y) 93 z := ks_93 (by decide)
theorem ik_96 (P : kx_P) (x y : Option kx_C) : kx_set (kx_set P 93 x) 96 y 93 = x := ks_n93 (by decide)
theorem ij_96 (P : kx_P) (x y z : Option kx_C) : kx_set (kx_set (kx_set P 93 x) 96 y) 93 z = kx_set (kx_set P 96 y) 93 z := ks_93 (by decide)
theorem ik_97 (P : kx_P) (x y : Option kx_C) : kx_set (kx_set P 93 x) 97 y 93 = x := ks_n93 (by decide)
theorem ij_97 (P : kx_P) (x y z : Option kx_C) : kx_set (kx_set (kx_set P 93 x) 97 y) 93 z = kx_set (kx_set P 97 y) 93 z := ks_93 (by decide)
theorem ik_98 (P : kx_P) (x y : Option kx_C) : kx_set (kx_set P 93 x) 98 y 93 = x := ks_n93 (by decide)
theorem ij_98 (P : kx_P) (x y z : Option kx_C) : kx_set (kx_set (kx_set P 93 x) 98 y) 93 z = kx_set (kx_set P 98 y) 93 z := ks_93 (by decide)
theorem ik_99 (P : kx_P) (x y : Option kx_C) : kx_set (kx_set P 93 x) 99 y 93 = x := ks_n93 (by decide)
theorem ij_99 (P : kx_P) (x y z : Option kx_C) : kx_set (kx_set (kx_set P 93 x) 99 y) 93 z = kx_set (kx_set P 99 y) 93 z := ks_93 (by decide)
theorem ik_100 (P : kx_P) (x y : Option kx_C) : kx_set (kx_set P 93 x) 100 y 93 = x := ks_n93 (by decide)
theorem ij_100 (P : kx_P) (x y z : Option kx_C) : kx_set (kx_set (kx_set P 93 x) 100 y) 93 z = kx_set (kx_set P 100 y) 93 z := ks_93 (by decide)
theorem ik_101 (P : kx_P) (x y : Option kx_C) : kx_set (kx_set P 93 x) 101 y 93 = x := ks_n93 (by decide)
theorem ij_101 (P : kx_P) (x y z : Option kx_C) : kx_set (kx_set (kx_set P 93 x) 101 y) 93 z = kx_set (kx_set P 101 y) 93 z := ks_93 (by decide)
theorem ik_102 (P : kx_P) (x y : Option kx_C) : kx_set (kx_set P 93 x) 102 y 93 = x := ks_n93 (by decide)
theorem ij_102 (P : kx_P) (x y z : Option kx_C) : kx_set (kx_set (kx_set P 93 x) 102 y) 93 z = kx_set (kx_set P 102 y) 93 z := ks_93 (by decide)
theorem ik_103 (P : kx_P) (x y : Option kx_C) : kx_set (kx_set P 93 x) 103 y 93 = x := ks_n93 (by decide)
theorem ij_103 (P : kx_P) (x y z : Option kx_C) : kx_set (kx_set (kx_set P 93 x) 103 y) 93 z = kx_set (kx_set P 103 y) 93 z := ks_93 (by decide)
theorem ik_104 (P : kx_P) (x y : Option kx_C) : kx_set (kx_set P 93 x) 104 y 93 = x := ks_n93 (by decide)
theorem ij_104 (P : kx_P) (x y z : Option kx_C) : kx_set (kx_set (kx_set P 93 x) 104 y) 93 z = kx_set (kx_set P 104 y) 93 z := ks_93 (by decide)
theorem ik_105 (P : kx_P) (x y : Option kx_C) : kx_set (kx_set P 93 x) 105 y 93 = x := ks_n93 (by decide)
theorem ij_105 (P : kx_P) (x y z : Option kx_C) : kx_set (kx_set (kx_set P 93 x) 105 y) 93 z = kx_set (kx_set P 105 y) 93 z := ks_93 (by decide)
theorem ik_106 (P : kx_P) (x y : Option kx_C) : kx_set (kx_set P 93 x) 106 y 93 = x := ks_n93 (by decide)
theorem ij_106 (P : kx_P) (x y z : Option kx_C) : kx_set (kx_set (kx_set P 93 x) 106 y) 93 z = kx_set (kx_set P 106 y) 93 z := ks_93 (by decide)
theorem ik_107 (P : kx_P) (x y : Option kx_C) : kx_set (kx_set P 93 x) 107 y 93 = x := ks_n93 (by decide)
theorem ij_107 (P : kx_P) (x y z : Option kx_C) : kx_set (kx_set (kx_set P 93 x) 107 y) 93 z = kx_set (kx_set P 107 y) 93 z := ks_93 (by decide)
theorem ik_108 (P : kx_P) (x y : Option kx_C) : kx_set (kx_set P 93 x) 108 y 93 = x := ks_n93 (by decide)
theorem ij_108 (P : kx_P) (x y z : Option kx_C) : kx_set (kx_set (kx_set P 93 x) 108 y) 93 z = kx_set (kx_set P 108 y) 93 z := ks_93 (by decide)
theorem ik_109 (P : kx_P) (x y : Option kx_C) : kx_set (kx_set P 93 x) 109 y 93 = x := ks_n93 (by decide)
theorem ij_109 (P : kx_P) (x y z : Option kx_C) : kx_set (kx_set (kx_set P 93 x) 109 y) 93 z = kx_set (kx_set P 109 y) 93 z := ks_93 (by decide)
theorem ik_110 (P : kx_P) (x y : Option kx_C) : kx_set (kx_set P 93 x) 110 y 93 = x := ks_n93 (by decide)
theorem ij_110 (P : kx_P) (x y z : Option kx_C) : kx_set (kx_set (kx_set P 93 x) 110 y) 93 z = kx_set (kx_set P 110 y) 93 z := ks_93 (by decide)
theorem ik_111 (P : kx_P) (x y : Option kx_C) : kx_set (kx_set P 93 x) 111 y 93 = x := ks_n93 (by decide)
theorem ij_111 (P : kx_P) (x y z : Option kx_C) : kx_set (kx_set (kx_set P 93 x) 111 y) 93 z = kx_set (kx_set P 111 y) 93 z := ks_93 (by decide)
theorem ik_112 (P : kx_P) (x y : Option kx_C) : kx_set (kx_set P 93 x) 112 y 93 = x := ks_n93 (by decide)
theorem ij_112 (P : kx_P) (x y z : Option kx_C) : kx_set (kx_set (kx_set P 93 x) 112 y) 93 z = kx_set (kx_set P 112 y) 93 z := ks_93 (by decide)
theorem ik_113 (P : kx_P) (x y : Option kx_C) : kx_set (kx_set P 93 x) 113 y 93 = x := ks_n93 (by decide)
theorem ij_113 (P : kx_P) (x y z : Option kx_C) : kx_set (kx_set (kx_set P 93 x) 113 y) 93 z = kx_set (kx_set P 113 y) 93 z := ks_93 (by decide)
theorem ik_114 (P : kx_P) (x y : Option kx_C) : kx_set (kx_set P 93 x) 114 y 93 = x := ks_n93 (by decide)
theorem ij_114 (P : kx_P) (x y z : Option kx_C) : kx_set (kx_set (kx_set P 93 x) 114 y) 93 z = kx_set (kx_set P 114 y) 93 z := ks_93 (by decide)
theorem ik_115 (P : kx_P) (x y : Option kx_C) : kx_set (kx_set P 93 x) 115 y 93 = x := ks_n93 (by decide)
theorem ij_115 (P : kx_P) (x y z : Option kx_C) : kx_set (kx_set (kx_set P 93 x) 115 y) 93 z = kx_set (kx_set P 115 y) 93 z := ks_93 (by decide)
theorem ik_116 (P : kx_P) (x y : Option kx_C) : kx_set (kx_set P 93 x) 116 y 93 = x := ks_n93 (by decide)
theorem ij_116 (P : kx_P) (x y z : Option kx_C) : kx_set (kx_set (kx_set P 93 x) 116 y) 93 z = kx_set (kx_set P 116 y) 93 z := ks_93 (by decide)
theorem ik_117 (P : kx_P) (x y : Option kx_C) : kx_set (kx_set P 93 x) 117 y 93 = x := ks_n93 (by decide)
theorem ij_117 (P : kx_P) (x y z : Option kx_C) : kx_set (kx_set (kx_set P 93 x) 117 y) 93 z = kx_set (kx_set P 117 y) 93 z := ks_93 (by decide)
theorem ik_118 (P : kx_P) (x y : Option kx_C) : kx_set (kx_set P 93 x) 118 y 93 = x := ks_n93 (by decide)
theorem ij_118 (P : kx_P) (x y z : Option kx_C) : kx_set (kx_set (kx_set P 93 x) 118 y) 93 z = kx_set (kx_set P 118 y) 93 z := ks_93 (by decide)
theorem ik_119 (P : kx_P) (x y : Option kx_C) : kx_set (kx_set P 93 x) 119 y 93 = x := ks_n93 (by decide)
theorem ij_119 (P : kx_P) (x y z : Option kx_C) : kx_set (kx_set (kx_set P 93 x) 119 y) 93 z = kx_set (kx_set P 119 y) 93 z := ks_93 (by decide)
theorem ik_120 (P : kx_P) (x y : Option kx_C) : kx_set (kx_set P 93 x) 120 y 93 = x := ks_n93 (by decide)
theorem ij_120 (P : kx_P) (x y z : Option kx_C) : kx_set (kx_set (kx_set P 93 x) 120 y) 93 z = kx_set (kx_set P 120 y) 93 z := ks_93 (by decide)
theorem ik_121 (P : kx_P) (x y : Option kx_C) : kx_set (kx_set P 93 x) 121 y 93 = x := ks_n93 (by decide)
theorem ij_121 (P : kx_P) (x y z : Option kx_C) : kx_set (kx_set (kx_set P 93 x) 121 y) 93 z = kx_set (kx_set P 121 y) 93 z := ks_93 (by decide)
theorem ik_122 (P : kx_P) (x y : Option kx_C) : kx_set (kx_set P 93 x) 122 y 93 = x := ks_n93 (by decide)
theorem ij_122 (P : kx_P) (x y z : Option kx_C) : kx_set (kx_set (kx_set P 93 x) 122 y) 93 z = kx_set (kx_set P 122 y) 93 z := ks_93 (by decide)
theorem ik_123 (P : kx_P) (x y : Option kx_C) : kx_set (kx_set P 93 x) 123 y 93 = x := ks_n93 (by decide)
theorem ij_123 (P : kx_P) (x y z : Option kx_C) : kx_set (kx_set (kx_set P 93 x) 123 y) 93 z = kx_set (kx_set P 123 y) 93 z := ks_93 (by decide)
theorem ik_124 (P : kx_P) (x y : Option kx_C) : kx_set (kx_set P 93 x) 124 y 93 = x := ks_n93 (by decide)
theorem ij_124 (P : kx_P) (x y z : Option kx_C) : kx_set (kx_set (kx_set P 93 x) 124 y) 93 z = kx_set (kx_set P 124 y) 93 z := ks_93 (by decide)
theorem ik_125 (P : kx_P) (x y : Option kx_C) : kx_set (kx_set P 93 x) 125 y 93 = x := ks_n93 (by decide)
theorem ij_125 (P : kx_P) (x y z : Option kx_C) : kx_set (kx_set (kx_set P 93 x) 125 y) 93 z = kx_set (kx_set P 125 y) 93 z := ks_93 (by decide)
theorem ik_126 (P : kx_P) (x y : Option kx_C) : kx_set (kx_set P 93 x) 126 y 93 = x := ks_n93 (by decide)
theorem ij_126 (P : kx_P) (x y z : Option kx_C) : kx_set (kx_set (kx_set P 93 x) 126 y) 93 z = kx_set (kx_set P 126 y) 93 z := ks_93 (by decide)
theorem ik_127 (P : kx_P) (x y : Option kx_C) : kx_set (kx_set P 93 x) 127 y 93 = x := ks_n93 (by decide)
theorem ij_127 (P : kx_P) (x y z : Option kx_C) : kx_set (kx_set (kx_set P 93 x) 127 y) 93 z = kx_set (kx_set P 127 y) 93 z := ks_93 (by decide)
theorem ik_128 (P : kx_P) (x y : Option kx_C) : kx_set (kx_set P 93 x) 128 y 93 = x := ks_n93 (by decide)
theorem ij_128 (P : kx_P) (x y z : Option kx_C) : kx_set (kx_set (kx_set P 93 x) 128 y) 93 z = kx_set (kx_set P 128 y) 93 z := ks_93 (by decide)
theorem ik_129 (P : kx_P) (x y : Option kx_C) : kx_set (kx_set P 93 x) 129 y 93 = x := ks_n93 (by decide)
theorem ij_129 (P : kx_P) (x y z : Option kx_C) : kx_set (kx_set (kx_set P 93 x) 129 y) 93 z = kx_set (kx_set P 129 y) 93 z := ks_93 (by decide)
theorem ik_130 (P : kx_P) (x y : Option kx_C) : kx_set (kx_set P 93 x) 130 y 93 = x := ks_n93 (by decide)
theorem ij_130 (P : kx_P) (x y z : Option kx_C) : kx_set (kx_set (kx_set P 93 x) 130 y) 93 z = kx_set (kx_set P 130 y) 93 z := ks_93 (by decide)
theorem ik_131 (P : kx_P) (x y : Option kx_C) : kx_set (kx_set P 93 x) 131 y 93 = x := ks_n93 (by decide)
theorem ij_131 (P : kx_P) (x y z : Option kx_C) : kx_set (kx_set (kx_set P 93 x) 131 y) 93 z = kx_set (kx_set P 131 y) 93 z := ks_93 (by decide)
theorem ik_132 (P : kx_P) (x y : Option kx_C) : kx_set (kx_set P 93 x) 132 y 93 = x := ks_n93 (by decide)
theorem ij_132 (P : kx_P) (x y z : Option kx_C) : kx_set (kx_set (kx_set P 93 x) 132 y) 93 z = kx_set (kx_set P 132 y) 93 z := ks_93 (by decide)
theorem ik_133 (P : kx_P) (x y : Option kx_C) : kx_set (kx_set P 93 x) 133 y 93 = x := ks_n93 (by decide)
theorem ij_133 (P : kx_P) (x y z : Option kx_C) : kx_set (kx_set (kx_set P 93 x) 133 y) 93 z = kx_set (kx_set P 133 y) 93 z := ks_93 (by decide)
theorem ik_134 (P : kx_P) (x y : Option kx_C) : kx_set (kx_set P 93 x) 134 y 93 = x := ks_n93 (by decide)
theorem ij_134 (P : kx_P) (x y z : Option kx_C) : kx_set (kx_set (kx_set P 93 x) 134 y) 93 z = kx_set (kx_set P 134 y) 93 z := ks_93 (by decide)
theorem ik_135 (P : kx_P) (x y : Option kx_C) : kx_set (kx_set P 93 x) 135 y 93 = x := ks_n93 (by decide)
theorem ij_135 (P : kx_P) (x y z : Option kx_C) : kx_set (kx_set (kx_set P 93 x) 135 y) 93 z = kx_set (kx_set P 135 y) 93 z := ks_93 (by decide)
theorem ik_136 (P : kx_P) (x y : Option kx_C) : kx_set (kx_set P 93 x) 136 y 93 = x := ks_n93 (by decide)
theorem ij_136 (P : kx_P) (x y z : Option kx_C) : kx_set (kx_set (kx_set P 93 x) 136 y) 93 z = kx_set (kx_set P 136 y) 93 z := ks_93 (by decide)
theorem ik_137 (P : kx_P) (x y : Option kx_C) : kx_set (kx_set P 93 x) 137 y 93 = x := ks_n93 (by decide)
theorem ij_137 (P : kx_P) (x y z : Option kx_C) : kx_set (kx_set (kx_set P 93 x) 137 y) 93 z = kx_set (kx_set P 137 y) 93 z := ks_93 (by decide)
theorem ik_138 (P : kx_P) (x y : Option kx_C) : kx_set (kx_set P 93 x) 138 y 93 = x := ks_n93 (by decide)
theorem ij_138 (P : kx_P) (x y z : Option kx_C) : kx_set (kx_set (kx_set P 93 x) 138 y) 93 z = kx_set (kx_set P 138 y) 93 z := ks_93 (by decide)
theorem ik_139 (P : kx_P) (x y : Option kx_C) : kx_set (kx_set P 93 x) 139 y 93 = x := ks_n93 (by decide)
theorem ij_139 (P : kx_P) (x y z : Option kx_C) : kx_set (kx_set (kx_set P 93 x) 139 y) 93 z = kx_set (kx_set P 139 y) 93 z := ks_93 (by decide)
theorem ik_140 (P : kx_P) (x y : Option kx_C) : kx_set (kx_set P 93 x) 140 y 93 = x := ks_n93 (by decide)
theorem ij_140 (P : kx_P) (x y z : Option kx_C) : kx_set (kx_set (kx_set P 93 x) 140 y) 93 z = kx_set (kx_set P 140 y) 93 z := ks_93 (by decide)
theorem ik_141 (P : kx_P) (x y : Option kx_C) : kx_set (kx_set P 93 x) 141 y 93 = x := ks_n93 (by decide)
theorem ij_141 (P : kx_P) (x y z : Option kx_C) : kx_set (kx_set (kx_set P 93 x) 141 y) 93 z = kx_set (kx_set P 141 y) 93 z := ks_93 (by decide)
theorem ik_142 (P : kx_P) (x y : Option kx_C) : kx_set (kx_set P 93 x) 142 y 93 = x := ks_n93 (by decide)
theorem ij_142 (P : kx_P) (x y z : Option kx_C) : kx_set (kx_set (kx_set P 93 x) 142 y) 93 z = kx_set (kx_set P 142 y) 93 z := ks_93 (by decide)
set_option maxRecDepth 100000 in
set_option maxHeartbeats 8000000 in
theorem ct_X11_init_n (l : Launch) (G : kx_G) {R : kx_P} : kx_Mn l G sX11_init 1 49 186111 [.ref 93] (kx_set R 93 (kO 11 (kx_df 11))) 94 (fun r P s => r = none ∧ kz_w P (mW (fun j => if j = 14 then -1 else 0) (fun _ _ => 0) (fun _ _ => 0) R) ∧ s = 143) := by
  refine kx_mkn kx_tab kxLok_X11 (ini := true) [some (.ref 93)] ⟨by decide, rfl, by decide, by decide⟩ (fun _ _ _ h => by rw [h.1]; rfl) rfl rfl (fun g hB hC hN => ?_)
  refine hB bX11_init_0 _ _ _ _ _ _ _ kX11_init_0 ?_
  dsimp only [bX11_init_0, kx_wp, kx_step, kx_lI, kx_lL, kx_lA, kx_gl, kx_pI, kx_pL, kx_pR, kx_pA, kx_pV, kx_s1, kx_s2, kx_sl, kx_pre, kx_c2, kx_pl, kx_cmp, kx_oF, kx_eqN, kx_nil, kx_c1, kx_ft, kx_aI, kx_aL, kx_aR, kx_ln, Nat.reduceAdd, Option.toList, List.cons_append, List.nil_append, Nat.add_eq, Nat.reduceAdd]
  repeat (simp only [ks_eq, ks_ss, ik_94, ij_94, ik_95, ij_95, ik_96, ij_96, ik_97, ij_97, ik_98, ij_98, ik_99, ij_99, ik_100, ij_100]; try dsimp only [kx_wp, kx_step, kx_lI, kx_lL, kx_lA, kx_gl, kx_pI, kx_pL, kx_pR, kx_pA, kx_pV, kx_s1, kx_s2, kx_sl, kx_pre, kx_c2, kx_pl, kx_cmp, kx_oF, kx_eqN, kx_nil, kx_c1, kx_ft, kx_aI, kx_aL, kx_aR, kx_ln, Nat.reduceAdd, Option.toList, List.cons_append, List.nil_append, Nat.add_eq, Nat.reduceAdd])
  repeat' apply And.intro
  all_goals try exact Nat.le_of_ble_eq_true rfl
  all_goals try decide
  all_goals try dsimp only [kx_ft]
  all_goals try simp only [ks_eq, ks_ss, ik_94, ij_94, ik_95, ij_95, ik_96, ij_96, ik_97, ij_97, ik_98, ij_98, ik_99, ij_99, ik_100, ij_100]
  refine hB bX11_init_69 _ _ _ _ _ _ _ kX11_init_69 ?_
  dsimp only [bX11_init_69, kx_wp, kx_step, kx_lI, kx_lL, kx_lA, kx_gl, kx_pI, kx_pL, kx_pR, kx_pA, kx_pV, kx_s1, kx_s2, kx_sl, kx_pre, kx_c2, kx_pl, kx_cmp, kx_oF, kx_eqN, kx_nil, kx_c1, kx_ft, kx_aI, kx_aL, kx_aR, kx_ln, Nat.reduceAdd, Option.toList, List.cons_append, List.nil_append, Nat.add_eq, Nat.reduceAdd]
  repeat (simp only [ks_eq, ks_ss, ik_101, ij_101, ik_102, ij_102, ik_103, ij_103, ik_104, ij_104, ik_105, ij_105, ik_106, ij_106, ik_107, ij_107, ik_108, ij_108]; try dsimp only [kx_wp, kx_step, kx_lI, kx_lL, kx_lA, kx_gl, kx_pI, kx_pL, kx_pR, kx_pA, kx_pV, kx_s1, kx_s2, kx_sl, kx_pre, kx_c2, kx_pl, kx_cmp, kx_oF, kx_eqN, kx_nil, kx_c1, kx_ft, kx_aI, kx_aL, kx_aR, kx_ln, Nat.reduceAdd, Option.toList, List.cons_append, List.nil_append, Nat.add_eq, Nat.reduceAdd])
  repeat' apply And.intro
  all_goals try exact Nat.le_of_ble_eq_true rfl
  all_goals try decide
  all_goals try dsimp only [kx_ft]
  all_goals try simp only [ks_eq, ks_ss, ik_101, ij_101, ik_102, ij_102, ik_103, ij_103, ik_104, ij_104, ik_105, ij_105, ik_106, ij_106, ik_107, ij_107, ik_108, ij_108]
  refine hB bX11_init_137 _ _ _ _ _ _ _ kX11_init_137 ?_
  dsimp only [bX11_init_137, kx_wp, kx_step, kx_lI, kx_lL, kx_lA, kx_gl, kx_pI, kx_pL, kx_pR, kx_pA, kx_pV, kx_s1, kx_s2, kx_sl, kx_pre, kx_c2, kx_pl, kx_cmp, kx_oF, kx_eqN, kx_nil, kx_c1, kx_ft, kx_aI, kx_aL, kx_aR, kx_ln, Nat.reduceAdd, Option.toList, List.cons_append, List.nil_append, Nat.add_eq, Nat.reduceAdd]
  repeat (simp only [ks_eq, ks_ss, ik_109, ij_109, ik_110, ij_110, ik_111, ij_111, ik_112, ij_112, ik_113, ij_113, ik_114, ij_114, ik_115, ij_115, ik_116, ij_116]; try dsimp only [kx_wp, kx_step, kx_lI, kx_lL, kx_lA, kx_gl, kx_pI, kx_pL, kx_pR, kx_pA, kx_pV, kx_s1, kx_s2, kx_sl, kx_pre, kx_c2, kx_pl, kx_cmp, kx_oF, kx_eqN, kx_nil, kx_c1, kx_ft, kx_aI, kx_aL, kx_aR, kx_ln, Nat.reduceAdd, Option.toList, List.cons_append, List.nil_append, Nat.add_eq, Nat.reduceAdd])
  repeat' apply And.intro
  all_goals try exact Nat.le_of_ble_eq_true rfl
  all_goals try decide
  all_goals try dsimp only [kx_ft]
  all_goals try simp only [ks_eq, ks_ss, ik_109, ij_109, ik_110, ij_110, ik_111, ij_111, ik_112, ij_112, ik_113, ij_113, ik_114, ij_114, ik_115, ij_115, ik_116, ij_116]
  refine hB bX11_init_201 _ _ _ _ _ _ _ kX11_init_201 ?_
  dsimp only [bX11_init_201, kx_wp, kx_step, kx_lI, kx_lL, kx_lA, kx_gl, kx_pI, kx_pL, kx_pR, kx_pA, kx_pV, kx_s1, kx_s2, kx_sl, kx_pre, kx_c2, kx_pl, kx_cmp, kx_oF, kx_eqN, kx_nil, kx_c1, kx_ft, kx_aI, kx_aL, kx_aR, kx_ln, Nat.reduceAdd, Option.toList, List.cons_append, List.nil_append, Nat.add_eq, Nat.reduceAdd]
  repeat (simp only [ks_eq, ks_ss, ik_117, ij_117, ik_118, ij_118, ik_119, ij_119, ik_120, ij_120, ik_121, ij_121, ik_122, ij_122, ik_123, ij_123, ik_124, ij_124]; try dsimp only [kx_wp, kx_step, kx_lI, kx_lL, kx_lA, kx_gl, kx_pI, kx_pL, kx_pR, kx_pA, kx_pV, kx_s1, kx_s2, kx_sl, kx_pre, kx_c2, kx_pl, kx_cmp, kx_oF, kx_eqN, kx_nil, kx_c1, kx_ft, kx_aI, kx_aL, kx_aR, kx_ln, Nat.reduceAdd, Option.toList, List.cons_append, List.nil_append, Nat.add_eq, Nat.reduceAdd])
  repeat' apply And.intro
  all_goals try exact Nat.le_of_ble_eq_true rfl
  all_goals try decide
  all_goals try dsimp only [kx_ft]
  all_goals try simp only [ks_eq, ks_ss, ik_117, ij_117, ik_118, ij_118, ik_119, ij_119, ik_120, ij_120, ik_121, ij_121, ik_122, ij_122, ik_123, ij_123, ik_124, ij_124]
  refine hB bX11_init_270 _ _ _ _ _ _ _ kX11_init_270 ?_
  dsimp only [bX11_init_270, kx_wp, kx_step, kx_lI, kx_lL, kx_lA, kx_gl, kx_pI, kx_pL, kx_pR, kx_pA, kx_pV, kx_s1, kx_s2, kx_sl, kx_pre, kx_c2, kx_pl, kx_cmp, kx_oF, kx_eqN, kx_nil, kx_c1, kx_ft, kx_aI, kx_aL, kx_aR, kx_ln, Nat.reduceAdd, Option.toList, List.cons_append, List.nil_append, Nat.add_eq, Nat.reduceAdd]
  repeat (simp only [ks_eq, ks_ss, ik_125, ij_125, ik_126, ij_126, ik_127, ij_127, ik_128, ij_128, ik_129, ij_129, ik_130, ij_130, ik_131, ij_131, ik_132, ij_132]; try dsimp only [kx_wp, kx_step, kx_lI, kx_lL, kx_lA, kx_gl, kx_pI, kx_pL, kx_pR, kx_pA, kx_pV, kx_s1, kx_s2, kx_sl, kx_pre, kx_c2, kx_pl, kx_cmp, kx_oF, kx_eqN, kx_nil, kx_c1, kx_ft, kx_aI, kx_aL, kx_aR, kx_ln, Nat.reduceAdd, Option.toList, List.cons_append, List.nil_append, Nat.add_eq, Nat.reduceAdd])
  repeat' apply And.intro
  all_goals try exact Nat.le_of_ble_eq_true rfl
  all_goals try decide
  all_goals try dsimp only [kx_ft]
  all_goals try simp only [ks_eq, ks_ss, ik_125, ij_125, ik_126, ij_126, ik_127, ij_127, ik_128, ij_128, ik_129, ij_129, ik_130, ij_130, ik_131, ij_131, ik_132, ij_132]
  refine hB bX11_init_333 _ _ _ _ _ _ _ kX11_init_333 ?_
  dsimp only [bX11_init_333, kx_wp, kx_step, kx_lI, kx_lL, kx_lA, kx_gl, kx_pI, kx_pL, kx_pR, kx_pA, kx_pV, kx_s1, kx_s2, kx_sl, kx_pre, kx_c2, kx_pl, kx_cmp, kx_oF, kx_eqN, kx_nil, kx_c1, kx_ft, kx_aI, kx_aL, kx_aR, kx_ln, Nat.reduceAdd, Option.toList, List.cons_append, List.nil_append, Nat.add_eq, Nat.reduceAdd]
  repeat (simp only [ks_eq, ks_ss, ik_133, ij_133, ik_134, ij_134, ik_135, ij_135, ik_136, ij_136, ik_137, ij_137, ik_138, ij_138, ik_139, ij_139, ik_140, ij_140]; try dsimp only [kx_wp, kx_step, kx_lI, kx_lL, kx_lA, kx_gl, kx_pI, kx_pL, kx_pR, kx_pA, kx_pV, kx_s1, kx_s2, kx_sl, kx_pre, kx_c2, kx_pl, kx_cmp, kx_oF, kx_eqN, kx_nil, kx_c1, kx_ft, kx_aI, kx_aL, kx_aR, kx_ln, Nat.reduceAdd, Option.toList, List.cons_append, List.nil_append, Nat.add_eq, Nat.reduceAdd])
  repeat' apply And.intro
  all_goals try exact Nat.le_of_ble_eq_true rfl
  all_goals try decide
  all_goals try dsimp only [kx_ft]
  all_goals try simp only [ks_eq, ks_ss, ik_133, ij_133, ik_134, ij_134, ik_135, ij_135, ik_136, ij_136, ik_137, ij_137, ik_138, ij_138, ik_139, ij_139, ik_140, ij_140]
  refine hB bX11_init_397 _ _ _ _ _ _ _ kX11_init_397 ?_
  dsimp only [bX11_init_397, kx_wp, kx_step, kx_lI, kx_lL, kx_lA, kx_gl, kx_pI, kx_pL, kx_pR, kx_pA, kx_pV, kx_s1, kx_s2, kx_sl, kx_pre, kx_c2, kx_pl, kx_cmp, kx_oF, kx_eqN, kx_nil, kx_c1, kx_ft, kx_aI, kx_aL, kx_aR, kx_ln, Nat.reduceAdd, Option.toList, List.cons_append, List.nil_append, Nat.add_eq, Nat.reduceAdd]
  repeat (simp only [ks_eq, ks_ss, ik_141, ij_141, ik_142, ij_142]; try dsimp only [kx_wp, kx_step, kx_lI, kx_lL, kx_lA, kx_gl, kx_pI, kx_pL, kx_pR, kx_pA, kx_pV, kx_s1, kx_s2, kx_sl, kx_pre, kx_c2, kx_pl, kx_cmp, kx_oF, kx_eqN, kx_nil, kx_c1, kx_ft, kx_aI, kx_aL, kx_aR, kx_ln, Nat.reduceAdd, Option.toList, List.cons_append, List.nil_append, Nat.add_eq, Nat.reduceAdd])
  repeat' apply And.intro
  all_goals try exact Nat.le_of_ble_eq_true rfl
  all_goals try decide
  all_goals try dsimp only [kx_ft]
  all_goals try simp only [ks_eq, ks_ss, ik_141, ij_141, ik_142, ij_142]
  intro n x hx
  by_cases hn : 93 ≤ n ∧ n ≤ 142
  · rcases (show n = 93 ∨ n = 94 ∨ n = 95 ∨ n = 96 ∨ n = 97 ∨ n = 98 ∨ n = 99 ∨ n = 100 ∨ n = 101 ∨ n = 102 ∨ n = 103 ∨ n = 104 ∨ n = 105 ∨ n = 106 ∨ n = 107 ∨ n = 108 ∨ n = 109 ∨ n = 110 ∨ n = 111 ∨ n = 112 ∨ n = 113 ∨ n = 114 ∨ n = 115 ∨ n = 116 ∨ n = 117 ∨ n = 118 ∨ n = 119 ∨ n = 120 ∨ n = 121 ∨ n = 122 ∨ n = 123 ∨ n = 124 ∨ n = 125 ∨ n = 126 ∨ n = 127 ∨ n = 128 ∨ n = 129 ∨ n = 130 ∨ n = 131 ∨ n = 132 ∨ n = 133 ∨ n = 134 ∨ n = 135 ∨ n = 136 ∨ n = 137 ∨ n = 138 ∨ n = 139 ∨ n = 140 ∨ n = 141 ∨ n = 142 by omega) with rfl | rfl | rfl | rfl | rfl | rfl | rfl | rfl | rfl | rfl | rfl | rfl | rfl | rfl | rfl | rfl | rfl | rfl | rfl | rfl | rfl | rfl | rfl | rfl | rfl | rfl | rfl | rfl | rfl | rfl | rfl | rfl | rfl | rfl | rfl | rfl | rfl | rfl | rfl | rfl | rfl | rfl | rfl | rfl | rfl | rfl | rfl | rfl | rfl | rfl
    · exact Or.inr ⟨11, _, _, by decide, ks_eq _ _ _, hx.symm, by decide +kernel⟩
    · exact Or.inl (Eq.trans (by rfl) hx)
    · exact Or.inl (Eq.trans (by rfl) hx)
    · exact Or.inl (Eq.trans (by rfl) hx)
    · exact Or.inl (Eq.trans (by rfl) hx)
    · exact Or.inl (Eq.trans (by rfl) hx)
    · exact Or.inl (Eq.trans (by rfl) hx)
    · exact Or.inl (Eq.trans (by rfl) hx)
    · exact Or.inl (Eq.trans (by rfl) hx)
    · exact Or.inl (Eq.trans (by rfl) hx)
    · exact Or.inl (Eq.trans (by rfl) hx)
    · exact Or.inl (Eq.trans (by rfl) hx)
    · exact Or.inl (Eq.trans (by rfl) hx)
    · exact Or.inl (Eq.trans (by rfl) hx)
    · exact Or.inl (Eq.trans (by rfl) hx)
    · exact Or.inl (Eq.trans (by rfl) hx)
    · exact Or.inl (Eq.trans (by rfl) hx)
    · exact Or.inl (Eq.trans (by rfl) hx)
    · exact Or.inl (Eq.trans (by rfl) hx)
    · exact Or.inl (Eq.trans (by rfl) hx)
    · exact Or.inl (Eq.trans (by rfl) hx)
    · exact Or.inl (Eq.trans (by rfl) hx)
    · exact Or.inl (Eq.trans (by rfl) hx)
    · exact Or.inl (Eq.trans (by rfl) hx)
    · exact Or.inl (Eq.trans (by rfl) hx)
    · exact Or.inl (Eq.trans (by rfl) hx)
    · exact Or.inl (Eq.trans (by rfl) hx)
    · exact Or.inl (Eq.trans (by rfl) hx)
    · exact Or.inl (Eq.trans (by rfl) hx)
    · exact Or.inl (Eq.trans (by rfl) hx)
    · exact Or.inl (Eq.trans (by rfl) hx)
    · exact Or.inl (Eq.trans (by rfl) hx)
    · exact Or.inl (Eq.trans (by rfl) hx)
    · exact Or.inl (Eq.trans (by rfl) hx)
    · exact Or.inl (Eq.trans (by rfl) hx)
    · exact Or.inl (Eq.trans (by rfl) hx)
    · exact Or.inl (Eq.trans (by rfl) hx)
    · exact Or.inl (Eq.trans (by rfl) hx)
    · exact Or.inl (Eq.trans (by rfl) hx)
    · exact Or.inl (Eq.trans (by rfl) hx)
    · exact Or.inl (Eq.trans (by rfl) hx)
    · exact Or.inl (Eq.trans (by rfl) hx)
    · exact Or.inl (Eq.trans (by rfl) hx)
    · exact Or.inl (Eq.trans (by rfl) hx)
    · exact Or.inl (Eq.trans (by rfl) hx)
    · exact Or.inl (Eq.trans (by rfl) hx)
    · exact Or.inl (Eq.trans (by rfl) hx)
    · exact Or.inl (Eq.trans (by rfl) hx)
    · exact Or.inl (Eq.trans (by rfl) hx)
    · exact Or.inl (Eq.trans (by rfl) hx)
  · refine Or.inl (Eq.trans ?_ hx)
    unfold mW
    rw [if_neg (by omega), if_neg (by omega), if_neg (by omega), if_neg (by omega)]
    repeat rw [ks_ne (by omega)]

theorem ct_X11_init (l : Launch) (G : kx_G) {R : kx_P} : kx_M l G sX11_init 1 49 186111 [.ref 93] (kx_set R 93 (kO 11 (kx_df 11))) 94 none (mW (fun j => if j = 14 then -1 else 0) (fun _ _ => 0) (fun _ _ => 0) R) 143 :=
  (ct_X11_init_n l G).w fun _ _ _ h => h
