/-! printed by wip/whole/nD2.py: the law's cases -/
def bL_law__0 : List kx_O := [(.new 8, 10, 0, 0, .null), (.dup, 0, 0, 0, .null)]
theorem kL_law__0 : kx_oks kxL_L false cL_law_ 0 bL_law__0 = true := by decide +kernel
def bL_law__7 : List kx_O := [(.astore_n 1, 1, 0, 0, .null), (.new 111, 11, 0, 0, .null), (.dup, 0, 0, 0, .null)]
theorem kL_law__7 : kx_oks kxL_L false cL_law_ 7 bL_law__7 = true := by decide +kernel
def bL_law__15 : List kx_O := [(.astore_n 2, 2, 0, 0, .null), (.iconst 1, 0, 0, 0, .int 1), (.newarray .long, 1, 0, 0, .null), (.astore_n 3, 3, 0, 0, .null), (.iconst 0, 0, 0, 0, .int 0), (.istore 4, 4, 0, 0, .null)]
theorem kL_law__15 : kx_oks kxL_L false cL_law_ 15 bL_law__15 = true := by decide +kernel
def bL_law__23 : List kx_O := [(.iload 4, 4, 0, 0, .null), (.aload_n 0, 0, 0, 0, .null), (.arraylength, 0, 0, 0, .null), (.bipush 6, 0, 0, 0, .int 6), (.isub, 0, 0, 0, .null), (.if_icmp .gt 2419, 2449, 0, 0, .null)]
theorem kL_law__23 : kx_oks kxL_L false cL_law_ 23 bL_law__23 = true := by decide +kernel
def bL_law__33 : List kx_O := [(.aload_n 0, 0, 0, 0, .null), (.iload 4, 4, 0, 0, .null), (.iaload, 0, 0, 0, .null), (.bipush 63, 0, 0, 0, .int 63), (.iand, 0, 0, 0, .null), (.tableswitch 2403 0 33 #[152, 208, 249, 322, 402, 415, 471, 527, 583, 639, 707, 775, 831, 927, 983, 1051, 1119, 1203, 1271, 1339, 1431, 1523, 1591, 1659, 1751, 1831, 1910, 1977, 2045, 2125, 2193, 2230, 2298, 2378], 2443, 152, 0, .null)]
theorem kL_law__33 : kx_oks kxL_L false cL_law_ 33 bL_law__33 = true := by decide +kernel
def bL_law__192 : List kx_O := [(.aload_n 1, 1, 0, 0, .null), (.aload_n 0, 0, 0, 0, .null), (.iload 4, 4, 0, 0, .null), (.iconst 1, 0, 0, 0, .int 1), (.iadd, 0, 0, 0, .null), (.iaload, 0, 0, 0, .null), (.aload_n 3, 3, 0, 0, .null)]
theorem kL_law__192 : kx_oks kxL_L false cL_law_ 192 bL_law__192 = true := by decide +kernel
def bL_law__203 : List kx_O := [(.istore 5, 5, 0, 0, .null), (.aload_n 2, 2, 0, 0, .null), (.aload_n 0, 0, 0, 0, .null), (.iload 4, 4, 0, 0, .null), (.iconst 1, 0, 0, 0, .int 1), (.iadd, 0, 0, 0, .null), (.iaload, 0, 0, 0, .null)]
theorem kL_law__203 : kx_oks kxL_L false cL_law_ 203 bL_law__203 = true := by decide +kernel
def bL_law__215 : List kx_O := [(.istore 6, 6, 0, 0, .null), (.aload_n 2, 2, 0, 0, .null)]
theorem kL_law__215 : kx_oks kxL_L false cL_law_ 215 bL_law__215 = true := by decide +kernel
def bL_law__221 : List kx_O := [(.iload 5, 5, 0, 0, .null), (.if_icmp .eq 5, 228, 0, 0, .null)]
theorem kL_law__221 : kx_oks kxL_L false cL_law_ 221 bL_law__221 = true := by decide +kernel
def bL_law__226 : List kx_O := [(.iconst 0, 0, 0, 0, .int 0), (.ireturn, 0, 0, 0, .null)]
theorem kL_law__226 : kx_oks kxL_L false cL_law_ 226 bL_law__226 = true := by decide +kernel
def bL_law__228 : List kx_O := [(.iload 5, 5, 0, 0, .null), (.ifCond .ne 15, 245, 0, 0, .null)]
theorem kL_law__228 : kx_oks kxL_L false cL_law_ 228 bL_law__228 = true := by decide +kernel
def bL_law__233 : List kx_O := [(.aload_n 3, 3, 0, 0, .null), (.iconst 0, 0, 0, 0, .int 0), (.laload, 0, 0, 0, .null), (.iload 6, 6, 0, 0, .null), (.i2l, 0, 0, 0, .null), (.lcmp, 0, 0, 0, .null), (.ifCond .eq 5, 245, 0, 0, .null)]
theorem kL_law__233 : kx_oks kxL_L false cL_law_ 233 bL_law__233 = true := by decide +kernel
def bL_law__243 : List kx_O := [(.iconst 0, 0, 0, 0, .int 0), (.ireturn, 0, 0, 0, .null)]
theorem kL_law__243 : kx_oks kxL_L false cL_law_ 243 bL_law__243 = true := by decide +kernel
def bL_law__245 : List kx_O := [(.goto 2198, 2443, 0, 0, .null)]
theorem kL_law__245 : kx_oks kxL_L false cL_law_ 245 bL_law__245 = true := by decide +kernel
def bL_law__248 : List kx_O := [(.aload_n 1, 1, 0, 0, .null), (.aload_n 0, 0, 0, 0, .null), (.iload 4, 4, 0, 0, .null), (.iconst 1, 0, 0, 0, .int 1), (.iadd, 0, 0, 0, .null), (.iaload, 0, 0, 0, .null), (.ifCond .eq 7, 262, 0, 0, .null)]
theorem kL_law__248 : kx_oks kxL_L false cL_law_ 248 bL_law__248 = true := by decide +kernel
def bL_law__258 : List kx_O := [(.iconst 1, 0, 0, 0, .int 1), (.goto 4, 263, 0, 0, .null)]
theorem kL_law__258 : kx_oks kxL_L false cL_law_ 258 bL_law__258 = true := by decide +kernel
def bL_law__262 : List kx_O := [(.iconst 0, 0, 0, 0, .int 0)]
theorem kL_law__262 : kx_oks kxL_L false cL_law_ 262 bL_law__262 = true := by decide +kernel
def bL_law__266 : List kx_O := [(.aload_n 2, 2, 0, 0, .null), (.aload_n 0, 0, 0, 0, .null), (.iload 4, 4, 0, 0, .null), (.iconst 1, 0, 0, 0, .int 1), (.iadd, 0, 0, 0, .null), (.iaload, 0, 0, 0, .null), (.ifCond .eq 7, 280, 0, 0, .null)]
theorem kL_law__266 : kx_oks kxL_L false cL_law_ 266 bL_law__266 = true := by decide +kernel
def bL_law__276 : List kx_O := [(.iconst 1, 0, 0, 0, .int 1), (.goto 4, 281, 0, 0, .null)]
theorem kL_law__276 : kx_oks kxL_L false cL_law_ 276 bL_law__276 = true := by decide +kernel
def bL_law__280 : List kx_O := [(.iconst 0, 0, 0, 0, .int 0)]
theorem kL_law__280 : kx_oks kxL_L false cL_law_ 280 bL_law__280 = true := by decide +kernel
def bL_law__284 : List kx_O := [(.if_icmp .eq 2159, 2443, 0, 0, .null)]
theorem kL_law__284 : kx_oks kxL_L false cL_law_ 284 bL_law__284 = true := by decide +kernel
def bL_law__287 : List kx_O := [(.iconst 0, 0, 0, 0, .int 0), (.ireturn, 0, 0, 0, .null)]
theorem kL_law__287 : kx_oks kxL_L false cL_law_ 287 bL_law__287 = true := by decide +kernel
def bL_law__289 : List kx_O := [(.aload_n 1, 1, 0, 0, .null), (.aload_n 0, 0, 0, 0, .null), (.iload 4, 4, 0, 0, .null), (.iconst 1, 0, 0, 0, .int 1), (.iadd, 0, 0, 0, .null), (.iaload, 0, 0, 0, .null), (.aload_n 0, 0, 0, 0, .null), (.iload 4, 4, 0, 0, .null), (.iconst 2, 0, 0, 0, .int 2), (.iadd, 0, 0, 0, .null), (.iaload, 0, 0, 0, .null), (.aload_n 0, 0, 0, 0, .null), (.iload 4, 4, 0, 0, .null), (.iconst 3, 0, 0, 0, .int 3), (.iadd, 0, 0, 0, .null), (.iaload, 0, 0, 0, .null), (.aload_n 0, 0, 0, 0, .null), (.iload 4, 4, 0, 0, .null), (.iconst 4, 0, 0, 0, .int 4), (.iadd, 0, 0, 0, .null), (.iaload, 0, 0, 0, .null), (.aload_n 0, 0, 0, 0, .null), (.iload 4, 4, 0, 0, .null), (.iconst 5, 0, 0, 0, .int 5), (.iadd, 0, 0, 0, .null), (.iaload, 0, 0, 0, .null)]
theorem kL_law__289 : kx_oks kxL_L false cL_law_ 289 bL_law__289 = true := by decide +kernel
def bL_law__323 : List kx_O := [(.aload_n 2, 2, 0, 0, .null), (.aload_n 0, 0, 0, 0, .null), (.iload 4, 4, 0, 0, .null), (.iconst 1, 0, 0, 0, .int 1), (.iadd, 0, 0, 0, .null), (.iaload, 0, 0, 0, .null), (.aload_n 0, 0, 0, 0, .null), (.iload 4, 4, 0, 0, .null), (.iconst 2, 0, 0, 0, .int 2), (.iadd, 0, 0, 0, .null), (.iaload, 0, 0, 0, .null), (.aload_n 0, 0, 0, 0, .null), (.iload 4, 4, 0, 0, .null), (.iconst 3, 0, 0, 0, .int 3), (.iadd, 0, 0, 0, .null), (.iaload, 0, 0, 0, .null), (.aload_n 0, 0, 0, 0, .null), (.iload 4, 4, 0, 0, .null), (.iconst 4, 0, 0, 0, .int 4), (.iadd, 0, 0, 0, .null), (.iaload, 0, 0, 0, .null), (.aload_n 0, 0, 0, 0, .null), (.iload 4, 4, 0, 0, .null), (.iconst 5, 0, 0, 0, .int 5), (.iadd, 0, 0, 0, .null), (.iaload, 0, 0, 0, .null)]
theorem kL_law__323 : kx_oks kxL_L false cL_law_ 323 bL_law__323 = true := by decide +kernel
def bL_law__357 : List kx_O := [(.if_icmp .eq 2086, 2443, 0, 0, .null)]
theorem kL_law__357 : kx_oks kxL_L false cL_law_ 357 bL_law__357 = true := by decide +kernel
def bL_law__360 : List kx_O := [(.iconst 0, 0, 0, 0, .int 0), (.ireturn, 0, 0, 0, .null)]
theorem kL_law__360 : kx_oks kxL_L false cL_law_ 360 bL_law__360 = true := by decide +kernel
def bL_law__362 : List kx_O := [(.aload_n 1, 1, 0, 0, .null), (.aload_n 0, 0, 0, 0, .null), (.iload 4, 4, 0, 0, .null), (.iconst 1, 0, 0, 0, .int 1), (.iadd, 0, 0, 0, .null), (.iaload, 0, 0, 0, .null), (.aload_n 0, 0, 0, 0, .null), (.iload 4, 4, 0, 0, .null), (.iconst 2, 0, 0, 0, .int 2), (.iadd, 0, 0, 0, .null), (.iaload, 0, 0, 0, .null), (.aload_n 0, 0, 0, 0, .null), (.iload 4, 4, 0, 0, .null), (.iconst 3, 0, 0, 0, .int 3), (.iadd, 0, 0, 0, .null), (.iaload, 0, 0, 0, .null), (.aload_n 3, 3, 0, 0, .null)]
theorem kL_law__362 : kx_oks kxL_L false cL_law_ 362 bL_law__362 = true := by decide +kernel
def bL_law__385 : List kx_O := [(.istore 5, 5, 0, 0, .null), (.aload_n 2, 2, 0, 0, .null), (.aload_n 0, 0, 0, 0, .null), (.iload 4, 4, 0, 0, .null), (.iconst 1, 0, 0, 0, .int 1), (.iadd, 0, 0, 0, .null), (.iaload, 0, 0, 0, .null), (.aload_n 0, 0, 0, 0, .null), (.iload 4, 4, 0, 0, .null), (.iconst 2, 0, 0, 0, .int 2), (.iadd, 0, 0, 0, .null), (.iaload, 0, 0, 0, .null), (.aload_n 0, 0, 0, 0, .null), (.iload 4, 4, 0, 0, .null), (.iconst 3, 0, 0, 0, .int 3), (.iadd, 0, 0, 0, .null), (.iaload, 0, 0, 0, .null)]
theorem kL_law__385 : kx_oks kxL_L false cL_law_ 385 bL_law__385 = true := by decide +kernel
def bL_law__409 : List kx_O := [(.istore 6, 6, 0, 0, .null), (.aload_n 2, 2, 0, 0, .null)]
theorem kL_law__409 : kx_oks kxL_L false cL_law_ 409 bL_law__409 = true := by decide +kernel
def bL_law__415 : List kx_O := [(.iload 5, 5, 0, 0, .null), (.if_icmp .eq 5, 422, 0, 0, .null)]
theorem kL_law__415 : kx_oks kxL_L false cL_law_ 415 bL_law__415 = true := by decide +kernel
def bL_law__420 : List kx_O := [(.iconst 0, 0, 0, 0, .int 0), (.ireturn, 0, 0, 0, .null)]
theorem kL_law__420 : kx_oks kxL_L false cL_law_ 420 bL_law__420 = true := by decide +kernel
def bL_law__422 : List kx_O := [(.iload 5, 5, 0, 0, .null), (.ifCond .ne 15, 439, 0, 0, .null)]
theorem kL_law__422 : kx_oks kxL_L false cL_law_ 422 bL_law__422 = true := by decide +kernel
def bL_law__427 : List kx_O := [(.aload_n 3, 3, 0, 0, .null), (.iconst 0, 0, 0, 0, .int 0), (.laload, 0, 0, 0, .null), (.iload 6, 6, 0, 0, .null), (.i2l, 0, 0, 0, .null), (.lcmp, 0, 0, 0, .null), (.ifCond .eq 5, 439, 0, 0, .null)]
theorem kL_law__427 : kx_oks kxL_L false cL_law_ 427 bL_law__427 = true := by decide +kernel
def bL_law__437 : List kx_O := [(.iconst 0, 0, 0, 0, .int 0), (.ireturn, 0, 0, 0, .null)]
theorem kL_law__437 : kx_oks kxL_L false cL_law_ 437 bL_law__437 = true := by decide +kernel
def bL_law__439 : List kx_O := [(.goto 2004, 2443, 0, 0, .null)]
theorem kL_law__439 : kx_oks kxL_L false cL_law_ 439 bL_law__439 = true := by decide +kernel
def bL_law__442 : List kx_O := [(.aload_n 1, 1, 0, 0, .null)]
theorem kL_law__442 : kx_oks kxL_L false cL_law_ 442 bL_law__442 = true := by decide +kernel
def bL_law__446 : List kx_O := [(.aload_n 2, 2, 0, 0, .null)]
theorem kL_law__446 : kx_oks kxL_L false cL_law_ 446 bL_law__446 = true := by decide +kernel
def bL_law__450 : List kx_O := [(.if_icmp .eq 1993, 2443, 0, 0, .null)]
theorem kL_law__450 : kx_oks kxL_L false cL_law_ 450 bL_law__450 = true := by decide +kernel
def bL_law__453 : List kx_O := [(.iconst 0, 0, 0, 0, .int 0), (.ireturn, 0, 0, 0, .null)]
theorem kL_law__453 : kx_oks kxL_L false cL_law_ 453 bL_law__453 = true := by decide +kernel
def bL_law__455 : List kx_O := [(.aload_n 1, 1, 0, 0, .null), (.aload_n 0, 0, 0, 0, .null), (.iload 4, 4, 0, 0, .null), (.iconst 1, 0, 0, 0, .int 1), (.iadd, 0, 0, 0, .null), (.iaload, 0, 0, 0, .null), (.aload_n 3, 3, 0, 0, .null)]
theorem kL_law__455 : kx_oks kxL_L false cL_law_ 455 bL_law__455 = true := by decide +kernel
def bL_law__466 : List kx_O := [(.istore 5, 5, 0, 0, .null), (.aload_n 2, 2, 0, 0, .null), (.aload_n 0, 0, 0, 0, .null), (.iload 4, 4, 0, 0, .null), (.iconst 1, 0, 0, 0, .int 1), (.iadd, 0, 0, 0, .null), (.iaload, 0, 0, 0, .null)]
theorem kL_law__466 : kx_oks kxL_L false cL_law_ 466 bL_law__466 = true := by decide +kernel
def bL_law__478 : List kx_O := [(.istore 6, 6, 0, 0, .null), (.aload_n 2, 2, 0, 0, .null)]
theorem kL_law__478 : kx_oks kxL_L false cL_law_ 478 bL_law__478 = true := by decide +kernel
def bL_law__484 : List kx_O := [(.iload 5, 5, 0, 0, .null), (.if_icmp .eq 5, 491, 0, 0, .null)]
theorem kL_law__484 : kx_oks kxL_L false cL_law_ 484 bL_law__484 = true := by decide +kernel
def bL_law__489 : List kx_O := [(.iconst 0, 0, 0, 0, .int 0), (.ireturn, 0, 0, 0, .null)]
theorem kL_law__489 : kx_oks kxL_L false cL_law_ 489 bL_law__489 = true := by decide +kernel
def bL_law__491 : List kx_O := [(.iload 5, 5, 0, 0, .null), (.ifCond .ne 15, 508, 0, 0, .null)]
theorem kL_law__491 : kx_oks kxL_L false cL_law_ 491 bL_law__491 = true := by decide +kernel
def bL_law__496 : List kx_O := [(.aload_n 3, 3, 0, 0, .null), (.iconst 0, 0, 0, 0, .int 0), (.laload, 0, 0, 0, .null), (.iload 6, 6, 0, 0, .null), (.i2l, 0, 0, 0, .null), (.lcmp, 0, 0, 0, .null), (.ifCond .eq 5, 508, 0, 0, .null)]
theorem kL_law__496 : kx_oks kxL_L false cL_law_ 496 bL_law__496 = true := by decide +kernel
def bL_law__506 : List kx_O := [(.iconst 0, 0, 0, 0, .int 0), (.ireturn, 0, 0, 0, .null)]
theorem kL_law__506 : kx_oks kxL_L false cL_law_ 506 bL_law__506 = true := by decide +kernel
def bL_law__508 : List kx_O := [(.goto 1935, 2443, 0, 0, .null)]
theorem kL_law__508 : kx_oks kxL_L false cL_law_ 508 bL_law__508 = true := by decide +kernel
def bL_law__511 : List kx_O := [(.aload_n 1, 1, 0, 0, .null), (.aload_n 0, 0, 0, 0, .null), (.iload 4, 4, 0, 0, .null), (.iconst 1, 0, 0, 0, .int 1), (.iadd, 0, 0, 0, .null), (.iaload, 0, 0, 0, .null), (.aload_n 3, 3, 0, 0, .null)]
theorem kL_law__511 : kx_oks kxL_L false cL_law_ 511 bL_law__511 = true := by decide +kernel
def bL_law__522 : List kx_O := [(.istore 5, 5, 0, 0, .null), (.aload_n 2, 2, 0, 0, .null), (.aload_n 0, 0, 0, 0, .null), (.iload 4, 4, 0, 0, .null), (.iconst 1, 0, 0, 0, .int 1), (.iadd, 0, 0, 0, .null), (.iaload, 0, 0, 0, .null)]
theorem kL_law__522 : kx_oks kxL_L false cL_law_ 522 bL_law__522 = true := by decide +kernel
def bL_law__534 : List kx_O := [(.istore 6, 6, 0, 0, .null), (.aload_n 2, 2, 0, 0, .null)]
theorem kL_law__534 : kx_oks kxL_L false cL_law_ 534 bL_law__534 = true := by decide +kernel
def bL_law__540 : List kx_O := [(.iload 5, 5, 0, 0, .null), (.if_icmp .eq 5, 547, 0, 0, .null)]
theorem kL_law__540 : kx_oks kxL_L false cL_law_ 540 bL_law__540 = true := by decide +kernel
def bL_law__545 : List kx_O := [(.iconst 0, 0, 0, 0, .int 0), (.ireturn, 0, 0, 0, .null)]
theorem kL_law__545 : kx_oks kxL_L false cL_law_ 545 bL_law__545 = true := by decide +kernel
def bL_law__547 : List kx_O := [(.iload 5, 5, 0, 0, .null), (.ifCond .ne 15, 564, 0, 0, .null)]
theorem kL_law__547 : kx_oks kxL_L false cL_law_ 547 bL_law__547 = true := by decide +kernel
def bL_law__552 : List kx_O := [(.aload_n 3, 3, 0, 0, .null), (.iconst 0, 0, 0, 0, .int 0), (.laload, 0, 0, 0, .null), (.iload 6, 6, 0, 0, .null), (.i2l, 0, 0, 0, .null), (.lcmp, 0, 0, 0, .null), (.ifCond .eq 5, 564, 0, 0, .null)]
theorem kL_law__552 : kx_oks kxL_L false cL_law_ 552 bL_law__552 = true := by decide +kernel
def bL_law__562 : List kx_O := [(.iconst 0, 0, 0, 0, .int 0), (.ireturn, 0, 0, 0, .null)]
theorem kL_law__562 : kx_oks kxL_L false cL_law_ 562 bL_law__562 = true := by decide +kernel
def bL_law__564 : List kx_O := [(.goto 1879, 2443, 0, 0, .null)]
theorem kL_law__564 : kx_oks kxL_L false cL_law_ 564 bL_law__564 = true := by decide +kernel
def bL_law__567 : List kx_O := [(.aload_n 1, 1, 0, 0, .null), (.aload_n 0, 0, 0, 0, .null), (.iload 4, 4, 0, 0, .null), (.iconst 1, 0, 0, 0, .int 1), (.iadd, 0, 0, 0, .null), (.iaload, 0, 0, 0, .null), (.aload_n 3, 3, 0, 0, .null)]
theorem kL_law__567 : kx_oks kxL_L false cL_law_ 567 bL_law__567 = true := by decide +kernel
def bL_law__578 : List kx_O := [(.istore 5, 5, 0, 0, .null), (.aload_n 2, 2, 0, 0, .null), (.aload_n 0, 0, 0, 0, .null), (.iload 4, 4, 0, 0, .null), (.iconst 1, 0, 0, 0, .int 1), (.iadd, 0, 0, 0, .null), (.iaload, 0, 0, 0, .null)]
theorem kL_law__578 : kx_oks kxL_L false cL_law_ 578 bL_law__578 = true := by decide +kernel
def bL_law__590 : List kx_O := [(.istore 6, 6, 0, 0, .null), (.aload_n 2, 2, 0, 0, .null)]
theorem kL_law__590 : kx_oks kxL_L false cL_law_ 590 bL_law__590 = true := by decide +kernel
def bL_law__596 : List kx_O := [(.iload 5, 5, 0, 0, .null), (.if_icmp .eq 5, 603, 0, 0, .null)]
theorem kL_law__596 : kx_oks kxL_L false cL_law_ 596 bL_law__596 = true := by decide +kernel
def bL_law__601 : List kx_O := [(.iconst 0, 0, 0, 0, .int 0), (.ireturn, 0, 0, 0, .null)]
theorem kL_law__601 : kx_oks kxL_L false cL_law_ 601 bL_law__601 = true := by decide +kernel
def bL_law__603 : List kx_O := [(.iload 5, 5, 0, 0, .null), (.ifCond .ne 15, 620, 0, 0, .null)]
theorem kL_law__603 : kx_oks kxL_L false cL_law_ 603 bL_law__603 = true := by decide +kernel
def bL_law__608 : List kx_O := [(.aload_n 3, 3, 0, 0, .null), (.iconst 0, 0, 0, 0, .int 0), (.laload, 0, 0, 0, .null), (.iload 6, 6, 0, 0, .null), (.i2l, 0, 0, 0, .null), (.lcmp, 0, 0, 0, .null), (.ifCond .eq 5, 620, 0, 0, .null)]
theorem kL_law__608 : kx_oks kxL_L false cL_law_ 608 bL_law__608 = true := by decide +kernel
def bL_law__618 : List kx_O := [(.iconst 0, 0, 0, 0, .int 0), (.ireturn, 0, 0, 0, .null)]
theorem kL_law__618 : kx_oks kxL_L false cL_law_ 618 bL_law__618 = true := by decide +kernel
def bL_law__620 : List kx_O := [(.goto 1823, 2443, 0, 0, .null)]
theorem kL_law__620 : kx_oks kxL_L false cL_law_ 620 bL_law__620 = true := by decide +kernel
def bL_law__623 : List kx_O := [(.aload_n 1, 1, 0, 0, .null), (.aload_n 0, 0, 0, 0, .null), (.iload 4, 4, 0, 0, .null), (.iconst 1, 0, 0, 0, .int 1), (.iadd, 0, 0, 0, .null), (.iaload, 0, 0, 0, .null), (.aload_n 3, 3, 0, 0, .null)]
theorem kL_law__623 : kx_oks kxL_L false cL_law_ 623 bL_law__623 = true := by decide +kernel
def bL_law__634 : List kx_O := [(.istore 5, 5, 0, 0, .null), (.aload_n 2, 2, 0, 0, .null), (.aload_n 0, 0, 0, 0, .null), (.iload 4, 4, 0, 0, .null), (.iconst 1, 0, 0, 0, .int 1), (.iadd, 0, 0, 0, .null), (.iaload, 0, 0, 0, .null)]
theorem kL_law__634 : kx_oks kxL_L false cL_law_ 634 bL_law__634 = true := by decide +kernel
def bL_law__646 : List kx_O := [(.istore 6, 6, 0, 0, .null), (.aload_n 2, 2, 0, 0, .null)]
theorem kL_law__646 : kx_oks kxL_L false cL_law_ 646 bL_law__646 = true := by decide +kernel
def bL_law__652 : List kx_O := [(.iload 5, 5, 0, 0, .null), (.if_icmp .eq 5, 659, 0, 0, .null)]
theorem kL_law__652 : kx_oks kxL_L false cL_law_ 652 bL_law__652 = true := by decide +kernel
def bL_law__657 : List kx_O := [(.iconst 0, 0, 0, 0, .int 0), (.ireturn, 0, 0, 0, .null)]
theorem kL_law__657 : kx_oks kxL_L false cL_law_ 657 bL_law__657 = true := by decide +kernel
def bL_law__659 : List kx_O := [(.iload 5, 5, 0, 0, .null), (.ifCond .ne 15, 676, 0, 0, .null)]
theorem kL_law__659 : kx_oks kxL_L false cL_law_ 659 bL_law__659 = true := by decide +kernel
def bL_law__664 : List kx_O := [(.aload_n 3, 3, 0, 0, .null), (.iconst 0, 0, 0, 0, .int 0), (.laload, 0, 0, 0, .null), (.iload 6, 6, 0, 0, .null), (.i2l, 0, 0, 0, .null), (.lcmp, 0, 0, 0, .null), (.ifCond .eq 5, 676, 0, 0, .null)]
theorem kL_law__664 : kx_oks kxL_L false cL_law_ 664 bL_law__664 = true := by decide +kernel
def bL_law__674 : List kx_O := [(.iconst 0, 0, 0, 0, .int 0), (.ireturn, 0, 0, 0, .null)]
theorem kL_law__674 : kx_oks kxL_L false cL_law_ 674 bL_law__674 = true := by decide +kernel
def bL_law__676 : List kx_O := [(.goto 1767, 2443, 0, 0, .null)]
theorem kL_law__676 : kx_oks kxL_L false cL_law_ 676 bL_law__676 = true := by decide +kernel
def bL_law__679 : List kx_O := [(.aload_n 1, 1, 0, 0, .null), (.aload_n 0, 0, 0, 0, .null), (.iload 4, 4, 0, 0, .null), (.iconst 1, 0, 0, 0, .int 1), (.iadd, 0, 0, 0, .null), (.iaload, 0, 0, 0, .null), (.aload_n 0, 0, 0, 0, .null), (.iload 4, 4, 0, 0, .null), (.iconst 2, 0, 0, 0, .int 2), (.iadd, 0, 0, 0, .null), (.iaload, 0, 0, 0, .null), (.aload_n 3, 3, 0, 0, .null)]
theorem kL_law__679 : kx_oks kxL_L false cL_law_ 679 bL_law__679 = true := by decide +kernel
def bL_law__696 : List kx_O := [(.istore 5, 5, 0, 0, .null), (.aload_n 2, 2, 0, 0, .null), (.aload_n 0, 0, 0, 0, .null), (.iload 4, 4, 0, 0, .null), (.iconst 1, 0, 0, 0, .int 1), (.iadd, 0, 0, 0, .null), (.iaload, 0, 0, 0, .null), (.aload_n 0, 0, 0, 0, .null), (.iload 4, 4, 0, 0, .null), (.iconst 2, 0, 0, 0, .int 2), (.iadd, 0, 0, 0, .null), (.iaload, 0, 0, 0, .null)]
theorem kL_law__696 : kx_oks kxL_L false cL_law_ 696 bL_law__696 = true := by decide +kernel
def bL_law__714 : List kx_O := [(.istore 6, 6, 0, 0, .null), (.aload_n 2, 2, 0, 0, .null)]
theorem kL_law__714 : kx_oks kxL_L false cL_law_ 714 bL_law__714 = true := by decide +kernel
def bL_law__720 : List kx_O := [(.iload 5, 5, 0, 0, .null), (.if_icmp .eq 5, 727, 0, 0, .null)]
theorem kL_law__720 : kx_oks kxL_L false cL_law_ 720 bL_law__720 = true := by decide +kernel
def bL_law__725 : List kx_O := [(.iconst 0, 0, 0, 0, .int 0), (.ireturn, 0, 0, 0, .null)]
theorem kL_law__725 : kx_oks kxL_L false cL_law_ 725 bL_law__725 = true := by decide +kernel
def bL_law__727 : List kx_O := [(.iload 5, 5, 0, 0, .null), (.ifCond .ne 15, 744, 0, 0, .null)]
theorem kL_law__727 : kx_oks kxL_L false cL_law_ 727 bL_law__727 = true := by decide +kernel
def bL_law__732 : List kx_O := [(.aload_n 3, 3, 0, 0, .null), (.iconst 0, 0, 0, 0, .int 0), (.laload, 0, 0, 0, .null), (.iload 6, 6, 0, 0, .null), (.i2l, 0, 0, 0, .null), (.lcmp, 0, 0, 0, .null), (.ifCond .eq 5, 744, 0, 0, .null)]
theorem kL_law__732 : kx_oks kxL_L false cL_law_ 732 bL_law__732 = true := by decide +kernel
def bL_law__742 : List kx_O := [(.iconst 0, 0, 0, 0, .int 0), (.ireturn, 0, 0, 0, .null)]
theorem kL_law__742 : kx_oks kxL_L false cL_law_ 742 bL_law__742 = true := by decide +kernel
def bL_law__744 : List kx_O := [(.goto 1699, 2443, 0, 0, .null)]
theorem kL_law__744 : kx_oks kxL_L false cL_law_ 744 bL_law__744 = true := by decide +kernel
def bL_law__747 : List kx_O := [(.aload_n 1, 1, 0, 0, .null), (.aload_n 0, 0, 0, 0, .null), (.iload 4, 4, 0, 0, .null), (.iconst 1, 0, 0, 0, .int 1), (.iadd, 0, 0, 0, .null), (.iaload, 0, 0, 0, .null), (.aload_n 0, 0, 0, 0, .null), (.iload 4, 4, 0, 0, .null), (.iconst 2, 0, 0, 0, .int 2), (.iadd, 0, 0, 0, .null), (.iaload, 0, 0, 0, .null), (.aload_n 3, 3, 0, 0, .null)]
theorem kL_law__747 : kx_oks kxL_L false cL_law_ 747 bL_law__747 = true := by decide +kernel
def bL_law__764 : List kx_O := [(.istore 5, 5, 0, 0, .null), (.aload_n 2, 2, 0, 0, .null), (.aload_n 0, 0, 0, 0, .null), (.iload 4, 4, 0, 0, .null), (.iconst 1, 0, 0, 0, .int 1), (.iadd, 0, 0, 0, .null), (.iaload, 0, 0, 0, .null), (.aload_n 0, 0, 0, 0, .null), (.iload 4, 4, 0, 0, .null), (.iconst 2, 0, 0, 0, .int 2), (.iadd, 0, 0, 0, .null), (.iaload, 0, 0, 0, .null)]
theorem kL_law__764 : kx_oks kxL_L false cL_law_ 764 bL_law__764 = true := by decide +kernel
def bL_law__782 : List kx_O := [(.istore 6, 6, 0, 0, .null), (.aload_n 2, 2, 0, 0, .null)]
theorem kL_law__782 : kx_oks kxL_L false cL_law_ 782 bL_law__782 = true := by decide +kernel
def bL_law__788 : List kx_O := [(.iload 5, 5, 0, 0, .null), (.if_icmp .eq 5, 795, 0, 0, .null)]
theorem kL_law__788 : kx_oks kxL_L false cL_law_ 788 bL_law__788 = true := by decide +kernel
def bL_law__793 : List kx_O := [(.iconst 0, 0, 0, 0, .int 0), (.ireturn, 0, 0, 0, .null)]
theorem kL_law__793 : kx_oks kxL_L false cL_law_ 793 bL_law__793 = true := by decide +kernel
def bL_law__795 : List kx_O := [(.iload 5, 5, 0, 0, .null), (.ifCond .ne 15, 812, 0, 0, .null)]
theorem kL_law__795 : kx_oks kxL_L false cL_law_ 795 bL_law__795 = true := by decide +kernel
def bL_law__800 : List kx_O := [(.aload_n 3, 3, 0, 0, .null), (.iconst 0, 0, 0, 0, .int 0), (.laload, 0, 0, 0, .null), (.iload 6, 6, 0, 0, .null), (.i2l, 0, 0, 0, .null), (.lcmp, 0, 0, 0, .null), (.ifCond .eq 5, 812, 0, 0, .null)]
theorem kL_law__800 : kx_oks kxL_L false cL_law_ 800 bL_law__800 = true := by decide +kernel
def bL_law__810 : List kx_O := [(.iconst 0, 0, 0, 0, .int 0), (.ireturn, 0, 0, 0, .null)]
theorem kL_law__810 : kx_oks kxL_L false cL_law_ 810 bL_law__810 = true := by decide +kernel
def bL_law__812 : List kx_O := [(.goto 1631, 2443, 0, 0, .null)]
theorem kL_law__812 : kx_oks kxL_L false cL_law_ 812 bL_law__812 = true := by decide +kernel
def bL_law__815 : List kx_O := [(.aload_n 1, 1, 0, 0, .null), (.aload_n 0, 0, 0, 0, .null), (.iload 4, 4, 0, 0, .null), (.iconst 1, 0, 0, 0, .int 1), (.iadd, 0, 0, 0, .null), (.iaload, 0, 0, 0, .null), (.aload_n 3, 3, 0, 0, .null)]
theorem kL_law__815 : kx_oks kxL_L false cL_law_ 815 bL_law__815 = true := by decide +kernel
def bL_law__826 : List kx_O := [(.istore 5, 5, 0, 0, .null), (.aload_n 2, 2, 0, 0, .null), (.aload_n 0, 0, 0, 0, .null), (.iload 4, 4, 0, 0, .null), (.iconst 1, 0, 0, 0, .int 1), (.iadd, 0, 0, 0, .null), (.iaload, 0, 0, 0, .null)]
theorem kL_law__826 : kx_oks kxL_L false cL_law_ 826 bL_law__826 = true := by decide +kernel
def bL_law__838 : List kx_O := [(.istore 6, 6, 0, 0, .null), (.aload_n 2, 2, 0, 0, .null)]
theorem kL_law__838 : kx_oks kxL_L false cL_law_ 838 bL_law__838 = true := by decide +kernel
def bL_law__844 : List kx_O := [(.iload 5, 5, 0, 0, .null), (.if_icmp .eq 5, 851, 0, 0, .null)]
theorem kL_law__844 : kx_oks kxL_L false cL_law_ 844 bL_law__844 = true := by decide +kernel
def bL_law__849 : List kx_O := [(.iconst 0, 0, 0, 0, .int 0), (.ireturn, 0, 0, 0, .null)]
theorem kL_law__849 : kx_oks kxL_L false cL_law_ 849 bL_law__849 = true := by decide +kernel
def bL_law__851 : List kx_O := [(.iload 5, 5, 0, 0, .null), (.ifCond .ne 15, 868, 0, 0, .null)]
theorem kL_law__851 : kx_oks kxL_L false cL_law_ 851 bL_law__851 = true := by decide +kernel
def bL_law__856 : List kx_O := [(.aload_n 3, 3, 0, 0, .null), (.iconst 0, 0, 0, 0, .int 0), (.laload, 0, 0, 0, .null), (.iload 6, 6, 0, 0, .null), (.i2l, 0, 0, 0, .null), (.lcmp, 0, 0, 0, .null), (.ifCond .eq 5, 868, 0, 0, .null)]
theorem kL_law__856 : kx_oks kxL_L false cL_law_ 856 bL_law__856 = true := by decide +kernel
def bL_law__866 : List kx_O := [(.iconst 0, 0, 0, 0, .int 0), (.ireturn, 0, 0, 0, .null)]
theorem kL_law__866 : kx_oks kxL_L false cL_law_ 866 bL_law__866 = true := by decide +kernel
def bL_law__868 : List kx_O := [(.goto 1575, 2443, 0, 0, .null)]
theorem kL_law__868 : kx_oks kxL_L false cL_law_ 868 bL_law__868 = true := by decide +kernel
def bL_law__871 : List kx_O := [(.aload_n 1, 1, 0, 0, .null), (.aload_n 0, 0, 0, 0, .null), (.iload 4, 4, 0, 0, .null), (.iconst 1, 0, 0, 0, .int 1), (.iadd, 0, 0, 0, .null), (.iaload, 0, 0, 0, .null), (.aload_n 0, 0, 0, 0, .null), (.iload 4, 4, 0, 0, .null), (.iconst 2, 0, 0, 0, .int 2), (.iadd, 0, 0, 0, .null), (.iaload, 0, 0, 0, .null), (.aload_n 0, 0, 0, 0, .null), (.iload 4, 4, 0, 0, .null), (.iconst 3, 0, 0, 0, .int 3), (.iadd, 0, 0, 0, .null), (.iaload, 0, 0, 0, .null), (.ifCond .eq 7, 897, 0, 0, .null)]
theorem kL_law__871 : kx_oks kxL_L false cL_law_ 871 bL_law__871 = true := by decide +kernel
def bL_law__893 : List kx_O := [(.iconst 1, 0, 0, 0, .int 1), (.goto 4, 898, 0, 0, .null)]
theorem kL_law__893 : kx_oks kxL_L false cL_law_ 893 bL_law__893 = true := by decide +kernel
def bL_law__897 : List kx_O := [(.iconst 0, 0, 0, 0, .int 0)]
theorem kL_law__897 : kx_oks kxL_L false cL_law_ 897 bL_law__897 = true := by decide +kernel
def bL_law__898 : List kx_O := [(.aload_n 3, 3, 0, 0, .null)]
theorem kL_law__898 : kx_oks kxL_L false cL_law_ 898 bL_law__898 = true := by decide +kernel
def bL_law__902 : List kx_O := [(.istore 5, 5, 0, 0, .null), (.aload_n 2, 2, 0, 0, .null), (.aload_n 0, 0, 0, 0, .null), (.iload 4, 4, 0, 0, .null), (.iconst 1, 0, 0, 0, .int 1), (.iadd, 0, 0, 0, .null), (.iaload, 0, 0, 0, .null), (.aload_n 0, 0, 0, 0, .null), (.iload 4, 4, 0, 0, .null), (.iconst 2, 0, 0, 0, .int 2), (.iadd, 0, 0, 0, .null), (.iaload, 0, 0, 0, .null), (.aload_n 0, 0, 0, 0, .null), (.iload 4, 4, 0, 0, .null), (.iconst 3, 0, 0, 0, .int 3), (.iadd, 0, 0, 0, .null), (.iaload, 0, 0, 0, .null), (.ifCond .eq 7, 930, 0, 0, .null)]
theorem kL_law__902 : kx_oks kxL_L false cL_law_ 902 bL_law__902 = true := by decide +kernel
def bL_law__926 : List kx_O := [(.iconst 1, 0, 0, 0, .int 1), (.goto 4, 931, 0, 0, .null)]
theorem kL_law__926 : kx_oks kxL_L false cL_law_ 926 bL_law__926 = true := by decide +kernel
def bL_law__930 : List kx_O := [(.iconst 0, 0, 0, 0, .int 0)]
theorem kL_law__930 : kx_oks kxL_L false cL_law_ 930 bL_law__930 = true := by decide +kernel
def bL_law__934 : List kx_O := [(.istore 6, 6, 0, 0, .null), (.aload_n 2, 2, 0, 0, .null)]
theorem kL_law__934 : kx_oks kxL_L false cL_law_ 934 bL_law__934 = true := by decide +kernel
def bL_law__940 : List kx_O := [(.iload 5, 5, 0, 0, .null), (.if_icmp .eq 5, 947, 0, 0, .null)]
theorem kL_law__940 : kx_oks kxL_L false cL_law_ 940 bL_law__940 = true := by decide +kernel
def bL_law__945 : List kx_O := [(.iconst 0, 0, 0, 0, .int 0), (.ireturn, 0, 0, 0, .null)]
theorem kL_law__945 : kx_oks kxL_L false cL_law_ 945 bL_law__945 = true := by decide +kernel
def bL_law__947 : List kx_O := [(.iload 5, 5, 0, 0, .null), (.ifCond .ne 15, 964, 0, 0, .null)]
theorem kL_law__947 : kx_oks kxL_L false cL_law_ 947 bL_law__947 = true := by decide +kernel
def bL_law__952 : List kx_O := [(.aload_n 3, 3, 0, 0, .null), (.iconst 0, 0, 0, 0, .int 0), (.laload, 0, 0, 0, .null), (.iload 6, 6, 0, 0, .null), (.i2l, 0, 0, 0, .null), (.lcmp, 0, 0, 0, .null), (.ifCond .eq 5, 964, 0, 0, .null)]
theorem kL_law__952 : kx_oks kxL_L false cL_law_ 952 bL_law__952 = true := by decide +kernel
def bL_law__962 : List kx_O := [(.iconst 0, 0, 0, 0, .int 0), (.ireturn, 0, 0, 0, .null)]
theorem kL_law__962 : kx_oks kxL_L false cL_law_ 962 bL_law__962 = true := by decide +kernel
def bL_law__964 : List kx_O := [(.goto 1479, 2443, 0, 0, .null)]
theorem kL_law__964 : kx_oks kxL_L false cL_law_ 964 bL_law__964 = true := by decide +kernel
def bL_law__967 : List kx_O := [(.aload_n 1, 1, 0, 0, .null), (.aload_n 0, 0, 0, 0, .null), (.iload 4, 4, 0, 0, .null), (.iconst 1, 0, 0, 0, .int 1), (.iadd, 0, 0, 0, .null), (.iaload, 0, 0, 0, .null), (.aload_n 3, 3, 0, 0, .null)]
theorem kL_law__967 : kx_oks kxL_L false cL_law_ 967 bL_law__967 = true := by decide +kernel
def bL_law__978 : List kx_O := [(.istore 5, 5, 0, 0, .null), (.aload_n 2, 2, 0, 0, .null), (.aload_n 0, 0, 0, 0, .null), (.iload 4, 4, 0, 0, .null), (.iconst 1, 0, 0, 0, .int 1), (.iadd, 0, 0, 0, .null), (.iaload, 0, 0, 0, .null)]
theorem kL_law__978 : kx_oks kxL_L false cL_law_ 978 bL_law__978 = true := by decide +kernel
def bL_law__990 : List kx_O := [(.istore 6, 6, 0, 0, .null), (.aload_n 2, 2, 0, 0, .null)]
theorem kL_law__990 : kx_oks kxL_L false cL_law_ 990 bL_law__990 = true := by decide +kernel
def bL_law__996 : List kx_O := [(.iload 5, 5, 0, 0, .null), (.if_icmp .eq 5, 1003, 0, 0, .null)]
theorem kL_law__996 : kx_oks kxL_L false cL_law_ 996 bL_law__996 = true := by decide +kernel
def bL_law__1001 : List kx_O := [(.iconst 0, 0, 0, 0, .int 0), (.ireturn, 0, 0, 0, .null)]
theorem kL_law__1001 : kx_oks kxL_L false cL_law_ 1001 bL_law__1001 = true := by decide +kernel
def bL_law__1003 : List kx_O := [(.iload 5, 5, 0, 0, .null), (.ifCond .ne 15, 1020, 0, 0, .null)]
theorem kL_law__1003 : kx_oks kxL_L false cL_law_ 1003 bL_law__1003 = true := by decide +kernel
def bL_law__1008 : List kx_O := [(.aload_n 3, 3, 0, 0, .null), (.iconst 0, 0, 0, 0, .int 0), (.laload, 0, 0, 0, .null), (.iload 6, 6, 0, 0, .null), (.i2l, 0, 0, 0, .null), (.lcmp, 0, 0, 0, .null), (.ifCond .eq 5, 1020, 0, 0, .null)]
theorem kL_law__1008 : kx_oks kxL_L false cL_law_ 1008 bL_law__1008 = true := by decide +kernel
def bL_law__1018 : List kx_O := [(.iconst 0, 0, 0, 0, .int 0), (.ireturn, 0, 0, 0, .null)]
theorem kL_law__1018 : kx_oks kxL_L false cL_law_ 1018 bL_law__1018 = true := by decide +kernel
def bL_law__1020 : List kx_O := [(.goto 1423, 2443, 0, 0, .null)]
theorem kL_law__1020 : kx_oks kxL_L false cL_law_ 1020 bL_law__1020 = true := by decide +kernel
def bL_law__1023 : List kx_O := [(.aload_n 1, 1, 0, 0, .null), (.aload_n 0, 0, 0, 0, .null), (.iload 4, 4, 0, 0, .null), (.iconst 1, 0, 0, 0, .int 1), (.iadd, 0, 0, 0, .null), (.iaload, 0, 0, 0, .null), (.aload_n 0, 0, 0, 0, .null), (.iload 4, 4, 0, 0, .null), (.iconst 2, 0, 0, 0, .int 2), (.iadd, 0, 0, 0, .null), (.iaload, 0, 0, 0, .null), (.aload_n 3, 3, 0, 0, .null)]
theorem kL_law__1023 : kx_oks kxL_L false cL_law_ 1023 bL_law__1023 = true := by decide +kernel
def bL_law__1040 : List kx_O := [(.istore 5, 5, 0, 0, .null), (.aload_n 2, 2, 0, 0, .null), (.aload_n 0, 0, 0, 0, .null), (.iload 4, 4, 0, 0, .null), (.iconst 1, 0, 0, 0, .int 1), (.iadd, 0, 0, 0, .null), (.iaload, 0, 0, 0, .null), (.aload_n 0, 0, 0, 0, .null), (.iload 4, 4, 0, 0, .null), (.iconst 2, 0, 0, 0, .int 2), (.iadd, 0, 0, 0, .null), (.iaload, 0, 0, 0, .null)]
theorem kL_law__1040 : kx_oks kxL_L false cL_law_ 1040 bL_law__1040 = true := by decide +kernel
def bL_law__1058 : List kx_O := [(.istore 6, 6, 0, 0, .null), (.aload_n 2, 2, 0, 0, .null)]
theorem kL_law__1058 : kx_oks kxL_L false cL_law_ 1058 bL_law__1058 = true := by decide +kernel
def bL_law__1064 : List kx_O := [(.iload 5, 5, 0, 0, .null), (.if_icmp .eq 5, 1071, 0, 0, .null)]
theorem kL_law__1064 : kx_oks kxL_L false cL_law_ 1064 bL_law__1064 = true := by decide +kernel
def bL_law__1069 : List kx_O := [(.iconst 0, 0, 0, 0, .int 0), (.ireturn, 0, 0, 0, .null)]
theorem kL_law__1069 : kx_oks kxL_L false cL_law_ 1069 bL_law__1069 = true := by decide +kernel
def bL_law__1071 : List kx_O := [(.iload 5, 5, 0, 0, .null), (.ifCond .ne 15, 1088, 0, 0, .null)]
theorem kL_law__1071 : kx_oks kxL_L false cL_law_ 1071 bL_law__1071 = true := by decide +kernel
def bL_law__1076 : List kx_O := [(.aload_n 3, 3, 0, 0, .null), (.iconst 0, 0, 0, 0, .int 0), (.laload, 0, 0, 0, .null), (.iload 6, 6, 0, 0, .null), (.i2l, 0, 0, 0, .null), (.lcmp, 0, 0, 0, .null), (.ifCond .eq 5, 1088, 0, 0, .null)]
theorem kL_law__1076 : kx_oks kxL_L false cL_law_ 1076 bL_law__1076 = true := by decide +kernel
def bL_law__1086 : List kx_O := [(.iconst 0, 0, 0, 0, .int 0), (.ireturn, 0, 0, 0, .null)]
theorem kL_law__1086 : kx_oks kxL_L false cL_law_ 1086 bL_law__1086 = true := by decide +kernel
def bL_law__1088 : List kx_O := [(.goto 1355, 2443, 0, 0, .null)]
theorem kL_law__1088 : kx_oks kxL_L false cL_law_ 1088 bL_law__1088 = true := by decide +kernel
def bL_law__1091 : List kx_O := [(.aload_n 1, 1, 0, 0, .null), (.aload_n 0, 0, 0, 0, .null), (.iload 4, 4, 0, 0, .null), (.iconst 1, 0, 0, 0, .int 1), (.iadd, 0, 0, 0, .null), (.iaload, 0, 0, 0, .null), (.aload_n 0, 0, 0, 0, .null), (.iload 4, 4, 0, 0, .null), (.iconst 2, 0, 0, 0, .int 2), (.iadd, 0, 0, 0, .null), (.iaload, 0, 0, 0, .null), (.aload_n 3, 3, 0, 0, .null)]
theorem kL_law__1091 : kx_oks kxL_L false cL_law_ 1091 bL_law__1091 = true := by decide +kernel
def bL_law__1108 : List kx_O := [(.istore 5, 5, 0, 0, .null), (.aload_n 2, 2, 0, 0, .null), (.aload_n 0, 0, 0, 0, .null), (.iload 4, 4, 0, 0, .null), (.iconst 1, 0, 0, 0, .int 1), (.iadd, 0, 0, 0, .null), (.iaload, 0, 0, 0, .null), (.aload_n 0, 0, 0, 0, .null), (.iload 4, 4, 0, 0, .null), (.iconst 2, 0, 0, 0, .int 2), (.iadd, 0, 0, 0, .null), (.iaload, 0, 0, 0, .null)]
theorem kL_law__1108 : kx_oks kxL_L false cL_law_ 1108 bL_law__1108 = true := by decide +kernel
def bL_law__1126 : List kx_O := [(.istore 6, 6, 0, 0, .null), (.aload_n 2, 2, 0, 0, .null)]
theorem kL_law__1126 : kx_oks kxL_L false cL_law_ 1126 bL_law__1126 = true := by decide +kernel
def bL_law__1132 : List kx_O := [(.iload 5, 5, 0, 0, .null), (.if_icmp .eq 5, 1139, 0, 0, .null)]
theorem kL_law__1132 : kx_oks kxL_L false cL_law_ 1132 bL_law__1132 = true := by decide +kernel
def bL_law__1137 : List kx_O := [(.iconst 0, 0, 0, 0, .int 0), (.ireturn, 0, 0, 0, .null)]
theorem kL_law__1137 : kx_oks kxL_L false cL_law_ 1137 bL_law__1137 = true := by decide +kernel
def bL_law__1139 : List kx_O := [(.iload 5, 5, 0, 0, .null), (.ifCond .ne 15, 1156, 0, 0, .null)]
theorem kL_law__1139 : kx_oks kxL_L false cL_law_ 1139 bL_law__1139 = true := by decide +kernel
def bL_law__1144 : List kx_O := [(.aload_n 3, 3, 0, 0, .null), (.iconst 0, 0, 0, 0, .int 0), (.laload, 0, 0, 0, .null), (.iload 6, 6, 0, 0, .null), (.i2l, 0, 0, 0, .null), (.lcmp, 0, 0, 0, .null), (.ifCond .eq 5, 1156, 0, 0, .null)]
theorem kL_law__1144 : kx_oks kxL_L false cL_law_ 1144 bL_law__1144 = true := by decide +kernel
def bL_law__1154 : List kx_O := [(.iconst 0, 0, 0, 0, .int 0), (.ireturn, 0, 0, 0, .null)]
theorem kL_law__1154 : kx_oks kxL_L false cL_law_ 1154 bL_law__1154 = true := by decide +kernel
def bL_law__1156 : List kx_O := [(.goto 1287, 2443, 0, 0, .null)]
theorem kL_law__1156 : kx_oks kxL_L false cL_law_ 1156 bL_law__1156 = true := by decide +kernel
def bL_law__1159 : List kx_O := [(.aload_n 1, 1, 0, 0, .null), (.aload_n 0, 0, 0, 0, .null), (.iload 4, 4, 0, 0, .null), (.iconst 1, 0, 0, 0, .int 1), (.iadd, 0, 0, 0, .null), (.iaload, 0, 0, 0, .null), (.aload_n 0, 0, 0, 0, .null), (.iload 4, 4, 0, 0, .null), (.iconst 2, 0, 0, 0, .int 2), (.iadd, 0, 0, 0, .null), (.iaload, 0, 0, 0, .null), (.ifCond .eq 7, 1179, 0, 0, .null)]
theorem kL_law__1159 : kx_oks kxL_L false cL_law_ 1159 bL_law__1159 = true := by decide +kernel
def bL_law__1175 : List kx_O := [(.iconst 1, 0, 0, 0, .int 1), (.goto 4, 1180, 0, 0, .null)]
theorem kL_law__1175 : kx_oks kxL_L false cL_law_ 1175 bL_law__1175 = true := by decide +kernel
def bL_law__1179 : List kx_O := [(.iconst 0, 0, 0, 0, .int 0)]
theorem kL_law__1179 : kx_oks kxL_L false cL_law_ 1179 bL_law__1179 = true := by decide +kernel
def bL_law__1180 : List kx_O := [(.aload_n 3, 3, 0, 0, .null)]
theorem kL_law__1180 : kx_oks kxL_L false cL_law_ 1180 bL_law__1180 = true := by decide +kernel
def bL_law__1184 : List kx_O := [(.istore 5, 5, 0, 0, .null), (.aload_n 2, 2, 0, 0, .null), (.aload_n 0, 0, 0, 0, .null), (.iload 4, 4, 0, 0, .null), (.iconst 1, 0, 0, 0, .int 1), (.iadd, 0, 0, 0, .null), (.iaload, 0, 0, 0, .null), (.aload_n 0, 0, 0, 0, .null), (.iload 4, 4, 0, 0, .null), (.iconst 2, 0, 0, 0, .int 2), (.iadd, 0, 0, 0, .null), (.iaload, 0, 0, 0, .null), (.ifCond .eq 7, 1206, 0, 0, .null)]
theorem kL_law__1184 : kx_oks kxL_L false cL_law_ 1184 bL_law__1184 = true := by decide +kernel
def bL_law__1202 : List kx_O := [(.iconst 1, 0, 0, 0, .int 1), (.goto 4, 1207, 0, 0, .null)]
theorem kL_law__1202 : kx_oks kxL_L false cL_law_ 1202 bL_law__1202 = true := by decide +kernel
def bL_law__1206 : List kx_O := [(.iconst 0, 0, 0, 0, .int 0)]
theorem kL_law__1206 : kx_oks kxL_L false cL_law_ 1206 bL_law__1206 = true := by decide +kernel
def bL_law__1210 : List kx_O := [(.istore 6, 6, 0, 0, .null), (.aload_n 2, 2, 0, 0, .null)]
theorem kL_law__1210 : kx_oks kxL_L false cL_law_ 1210 bL_law__1210 = true := by decide +kernel
def bL_law__1216 : List kx_O := [(.iload 5, 5, 0, 0, .null), (.if_icmp .eq 5, 1223, 0, 0, .null)]
theorem kL_law__1216 : kx_oks kxL_L false cL_law_ 1216 bL_law__1216 = true := by decide +kernel
def bL_law__1221 : List kx_O := [(.iconst 0, 0, 0, 0, .int 0), (.ireturn, 0, 0, 0, .null)]
theorem kL_law__1221 : kx_oks kxL_L false cL_law_ 1221 bL_law__1221 = true := by decide +kernel
def bL_law__1223 : List kx_O := [(.iload 5, 5, 0, 0, .null), (.ifCond .ne 15, 1240, 0, 0, .null)]
theorem kL_law__1223 : kx_oks kxL_L false cL_law_ 1223 bL_law__1223 = true := by decide +kernel
def bL_law__1228 : List kx_O := [(.aload_n 3, 3, 0, 0, .null), (.iconst 0, 0, 0, 0, .int 0), (.laload, 0, 0, 0, .null), (.iload 6, 6, 0, 0, .null), (.i2l, 0, 0, 0, .null), (.lcmp, 0, 0, 0, .null), (.ifCond .eq 5, 1240, 0, 0, .null)]
theorem kL_law__1228 : kx_oks kxL_L false cL_law_ 1228 bL_law__1228 = true := by decide +kernel
def bL_law__1238 : List kx_O := [(.iconst 0, 0, 0, 0, .int 0), (.ireturn, 0, 0, 0, .null)]
theorem kL_law__1238 : kx_oks kxL_L false cL_law_ 1238 bL_law__1238 = true := by decide +kernel
def bL_law__1240 : List kx_O := [(.goto 1203, 2443, 0, 0, .null)]
theorem kL_law__1240 : kx_oks kxL_L false cL_law_ 1240 bL_law__1240 = true := by decide +kernel
def bL_law__1243 : List kx_O := [(.aload_n 1, 1, 0, 0, .null), (.aload_n 0, 0, 0, 0, .null), (.iload 4, 4, 0, 0, .null), (.iconst 1, 0, 0, 0, .int 1), (.iadd, 0, 0, 0, .null), (.iaload, 0, 0, 0, .null), (.aload_n 0, 0, 0, 0, .null), (.iload 4, 4, 0, 0, .null), (.iconst 2, 0, 0, 0, .int 2), (.iadd, 0, 0, 0, .null), (.iaload, 0, 0, 0, .null), (.aload_n 3, 3, 0, 0, .null)]
theorem kL_law__1243 : kx_oks kxL_L false cL_law_ 1243 bL_law__1243 = true := by decide +kernel
def bL_law__1260 : List kx_O := [(.istore 5, 5, 0, 0, .null), (.aload_n 2, 2, 0, 0, .null), (.aload_n 0, 0, 0, 0, .null), (.iload 4, 4, 0, 0, .null), (.iconst 1, 0, 0, 0, .int 1), (.iadd, 0, 0, 0, .null), (.iaload, 0, 0, 0, .null), (.aload_n 0, 0, 0, 0, .null), (.iload 4, 4, 0, 0, .null), (.iconst 2, 0, 0, 0, .int 2), (.iadd, 0, 0, 0, .null), (.iaload, 0, 0, 0, .null)]
theorem kL_law__1260 : kx_oks kxL_L false cL_law_ 1260 bL_law__1260 = true := by decide +kernel
def bL_law__1278 : List kx_O := [(.istore 6, 6, 0, 0, .null), (.aload_n 2, 2, 0, 0, .null)]
theorem kL_law__1278 : kx_oks kxL_L false cL_law_ 1278 bL_law__1278 = true := by decide +kernel
def bL_law__1284 : List kx_O := [(.iload 5, 5, 0, 0, .null), (.if_icmp .eq 5, 1291, 0, 0, .null)]
theorem kL_law__1284 : kx_oks kxL_L false cL_law_ 1284 bL_law__1284 = true := by decide +kernel
def bL_law__1289 : List kx_O := [(.iconst 0, 0, 0, 0, .int 0), (.ireturn, 0, 0, 0, .null)]
theorem kL_law__1289 : kx_oks kxL_L false cL_law_ 1289 bL_law__1289 = true := by decide +kernel
def bL_law__1291 : List kx_O := [(.iload 5, 5, 0, 0, .null), (.ifCond .ne 15, 1308, 0, 0, .null)]
theorem kL_law__1291 : kx_oks kxL_L false cL_law_ 1291 bL_law__1291 = true := by decide +kernel
def bL_law__1296 : List kx_O := [(.aload_n 3, 3, 0, 0, .null), (.iconst 0, 0, 0, 0, .int 0), (.laload, 0, 0, 0, .null), (.iload 6, 6, 0, 0, .null), (.i2l, 0, 0, 0, .null), (.lcmp, 0, 0, 0, .null), (.ifCond .eq 5, 1308, 0, 0, .null)]
theorem kL_law__1296 : kx_oks kxL_L false cL_law_ 1296 bL_law__1296 = true := by decide +kernel
def bL_law__1306 : List kx_O := [(.iconst 0, 0, 0, 0, .int 0), (.ireturn, 0, 0, 0, .null)]
theorem kL_law__1306 : kx_oks kxL_L false cL_law_ 1306 bL_law__1306 = true := by decide +kernel
def bL_law__1308 : List kx_O := [(.goto 1135, 2443, 0, 0, .null)]
theorem kL_law__1308 : kx_oks kxL_L false cL_law_ 1308 bL_law__1308 = true := by decide +kernel
def bL_law__1311 : List kx_O := [(.aload_n 1, 1, 0, 0, .null), (.aload_n 0, 0, 0, 0, .null), (.iload 4, 4, 0, 0, .null), (.iconst 1, 0, 0, 0, .int 1), (.iadd, 0, 0, 0, .null), (.iaload, 0, 0, 0, .null), (.aload_n 0, 0, 0, 0, .null), (.iload 4, 4, 0, 0, .null), (.iconst 2, 0, 0, 0, .int 2), (.iadd, 0, 0, 0, .null), (.iaload, 0, 0, 0, .null), (.aload_n 3, 3, 0, 0, .null)]
theorem kL_law__1311 : kx_oks kxL_L false cL_law_ 1311 bL_law__1311 = true := by decide +kernel
def bL_law__1328 : List kx_O := [(.istore 5, 5, 0, 0, .null), (.aload_n 2, 2, 0, 0, .null), (.aload_n 0, 0, 0, 0, .null), (.iload 4, 4, 0, 0, .null), (.iconst 1, 0, 0, 0, .int 1), (.iadd, 0, 0, 0, .null), (.iaload, 0, 0, 0, .null), (.aload_n 0, 0, 0, 0, .null), (.iload 4, 4, 0, 0, .null), (.iconst 2, 0, 0, 0, .int 2), (.iadd, 0, 0, 0, .null), (.iaload, 0, 0, 0, .null)]
theorem kL_law__1328 : kx_oks kxL_L false cL_law_ 1328 bL_law__1328 = true := by decide +kernel
def bL_law__1346 : List kx_O := [(.istore 6, 6, 0, 0, .null), (.aload_n 2, 2, 0, 0, .null)]
theorem kL_law__1346 : kx_oks kxL_L false cL_law_ 1346 bL_law__1346 = true := by decide +kernel
def bL_law__1352 : List kx_O := [(.iload 5, 5, 0, 0, .null), (.if_icmp .eq 5, 1359, 0, 0, .null)]
theorem kL_law__1352 : kx_oks kxL_L false cL_law_ 1352 bL_law__1352 = true := by decide +kernel
def bL_law__1357 : List kx_O := [(.iconst 0, 0, 0, 0, .int 0), (.ireturn, 0, 0, 0, .null)]
theorem kL_law__1357 : kx_oks kxL_L false cL_law_ 1357 bL_law__1357 = true := by decide +kernel
def bL_law__1359 : List kx_O := [(.iload 5, 5, 0, 0, .null), (.ifCond .ne 15, 1376, 0, 0, .null)]
theorem kL_law__1359 : kx_oks kxL_L false cL_law_ 1359 bL_law__1359 = true := by decide +kernel
def bL_law__1364 : List kx_O := [(.aload_n 3, 3, 0, 0, .null), (.iconst 0, 0, 0, 0, .int 0), (.laload, 0, 0, 0, .null), (.iload 6, 6, 0, 0, .null), (.i2l, 0, 0, 0, .null), (.lcmp, 0, 0, 0, .null), (.ifCond .eq 5, 1376, 0, 0, .null)]
theorem kL_law__1364 : kx_oks kxL_L false cL_law_ 1364 bL_law__1364 = true := by decide +kernel
def bL_law__1374 : List kx_O := [(.iconst 0, 0, 0, 0, .int 0), (.ireturn, 0, 0, 0, .null)]
theorem kL_law__1374 : kx_oks kxL_L false cL_law_ 1374 bL_law__1374 = true := by decide +kernel
def bL_law__1376 : List kx_O := [(.goto 1067, 2443, 0, 0, .null)]
theorem kL_law__1376 : kx_oks kxL_L false cL_law_ 1376 bL_law__1376 = true := by decide +kernel
def bL_law__1379 : List kx_O := [(.aload_n 1, 1, 0, 0, .null), (.aload_n 0, 0, 0, 0, .null), (.iload 4, 4, 0, 0, .null), (.iconst 1, 0, 0, 0, .int 1), (.iadd, 0, 0, 0, .null), (.iaload, 0, 0, 0, .null), (.aload_n 0, 0, 0, 0, .null), (.iload 4, 4, 0, 0, .null), (.iconst 2, 0, 0, 0, .int 2), (.iadd, 0, 0, 0, .null), (.iaload, 0, 0, 0, .null), (.aload_n 0, 0, 0, 0, .null), (.iload 4, 4, 0, 0, .null), (.iconst 3, 0, 0, 0, .int 3), (.iadd, 0, 0, 0, .null), (.iaload, 0, 0, 0, .null), (.aload_n 0, 0, 0, 0, .null), (.iload 4, 4, 0, 0, .null), (.iconst 4, 0, 0, 0, .int 4), (.iadd, 0, 0, 0, .null), (.iaload, 0, 0, 0, .null), (.aload_n 3, 3, 0, 0, .null)]
theorem kL_law__1379 : kx_oks kxL_L false cL_law_ 1379 bL_law__1379 = true := by decide +kernel
def bL_law__1408 : List kx_O := [(.istore 5, 5, 0, 0, .null), (.aload_n 2, 2, 0, 0, .null), (.aload_n 0, 0, 0, 0, .null), (.iload 4, 4, 0, 0, .null), (.iconst 1, 0, 0, 0, .int 1), (.iadd, 0, 0, 0, .null), (.iaload, 0, 0, 0, .null), (.aload_n 0, 0, 0, 0, .null), (.iload 4, 4, 0, 0, .null), (.iconst 2, 0, 0, 0, .int 2), (.iadd, 0, 0, 0, .null), (.iaload, 0, 0, 0, .null), (.aload_n 0, 0, 0, 0, .null), (.iload 4, 4, 0, 0, .null), (.iconst 3, 0, 0, 0, .int 3), (.iadd, 0, 0, 0, .null), (.iaload, 0, 0, 0, .null), (.aload_n 0, 0, 0, 0, .null), (.iload 4, 4, 0, 0, .null), (.iconst 4, 0, 0, 0, .int 4), (.iadd, 0, 0, 0, .null), (.iaload, 0, 0, 0, .null)]
theorem kL_law__1408 : kx_oks kxL_L false cL_law_ 1408 bL_law__1408 = true := by decide +kernel
def bL_law__1438 : List kx_O := [(.istore 6, 6, 0, 0, .null), (.aload_n 2, 2, 0, 0, .null)]
theorem kL_law__1438 : kx_oks kxL_L false cL_law_ 1438 bL_law__1438 = true := by decide +kernel
def bL_law__1444 : List kx_O := [(.iload 5, 5, 0, 0, .null), (.if_icmp .eq 5, 1451, 0, 0, .null)]
theorem kL_law__1444 : kx_oks kxL_L false cL_law_ 1444 bL_law__1444 = true := by decide +kernel
def bL_law__1449 : List kx_O := [(.iconst 0, 0, 0, 0, .int 0), (.ireturn, 0, 0, 0, .null)]
theorem kL_law__1449 : kx_oks kxL_L false cL_law_ 1449 bL_law__1449 = true := by decide +kernel
def bL_law__1451 : List kx_O := [(.iload 5, 5, 0, 0, .null), (.ifCond .ne 15, 1468, 0, 0, .null)]
theorem kL_law__1451 : kx_oks kxL_L false cL_law_ 1451 bL_law__1451 = true := by decide +kernel
def bL_law__1456 : List kx_O := [(.aload_n 3, 3, 0, 0, .null), (.iconst 0, 0, 0, 0, .int 0), (.laload, 0, 0, 0, .null), (.iload 6, 6, 0, 0, .null), (.i2l, 0, 0, 0, .null), (.lcmp, 0, 0, 0, .null), (.ifCond .eq 5, 1468, 0, 0, .null)]
theorem kL_law__1456 : kx_oks kxL_L false cL_law_ 1456 bL_law__1456 = true := by decide +kernel
def bL_law__1466 : List kx_O := [(.iconst 0, 0, 0, 0, .int 0), (.ireturn, 0, 0, 0, .null)]
theorem kL_law__1466 : kx_oks kxL_L false cL_law_ 1466 bL_law__1466 = true := by decide +kernel
def bL_law__1468 : List kx_O := [(.goto 975, 2443, 0, 0, .null)]
theorem kL_law__1468 : kx_oks kxL_L false cL_law_ 1468 bL_law__1468 = true := by decide +kernel
def bL_law__1471 : List kx_O := [(.aload_n 1, 1, 0, 0, .null), (.aload_n 0, 0, 0, 0, .null), (.iload 4, 4, 0, 0, .null), (.iconst 1, 0, 0, 0, .int 1), (.iadd, 0, 0, 0, .null), (.iaload, 0, 0, 0, .null), (.aload_n 0, 0, 0, 0, .null), (.iload 4, 4, 0, 0, .null), (.iconst 2, 0, 0, 0, .int 2), (.iadd, 0, 0, 0, .null), (.iaload, 0, 0, 0, .null), (.aload_n 0, 0, 0, 0, .null), (.iload 4, 4, 0, 0, .null), (.iconst 3, 0, 0, 0, .int 3), (.iadd, 0, 0, 0, .null), (.iaload, 0, 0, 0, .null), (.aload_n 0, 0, 0, 0, .null), (.iload 4, 4, 0, 0, .null), (.iconst 4, 0, 0, 0, .int 4), (.iadd, 0, 0, 0, .null), (.iaload, 0, 0, 0, .null), (.aload_n 3, 3, 0, 0, .null)]
theorem kL_law__1471 : kx_oks kxL_L false cL_law_ 1471 bL_law__1471 = true := by decide +kernel
def bL_law__1500 : List kx_O := [(.istore 5, 5, 0, 0, .null), (.aload_n 2, 2, 0, 0, .null), (.aload_n 0, 0, 0, 0, .null), (.iload 4, 4, 0, 0, .null), (.iconst 1, 0, 0, 0, .int 1), (.iadd, 0, 0, 0, .null), (.iaload, 0, 0, 0, .null), (.aload_n 0, 0, 0, 0, .null), (.iload 4, 4, 0, 0, .null), (.iconst 2, 0, 0, 0, .int 2), (.iadd, 0, 0, 0, .null), (.iaload, 0, 0, 0, .null), (.aload_n 0, 0, 0, 0, .null), (.iload 4, 4, 0, 0, .null), (.iconst 3, 0, 0, 0, .int 3), (.iadd, 0, 0, 0, .null), (.iaload, 0, 0, 0, .null), (.aload_n 0, 0, 0, 0, .null), (.iload 4, 4, 0, 0, .null), (.iconst 4, 0, 0, 0, .int 4), (.iadd, 0, 0, 0, .null), (.iaload, 0, 0, 0, .null)]
theorem kL_law__1500 : kx_oks kxL_L false cL_law_ 1500 bL_law__1500 = true := by decide +kernel
def bL_law__1530 : List kx_O := [(.istore 6, 6, 0, 0, .null), (.aload_n 2, 2, 0, 0, .null)]
theorem kL_law__1530 : kx_oks kxL_L false cL_law_ 1530 bL_law__1530 = true := by decide +kernel
def bL_law__1536 : List kx_O := [(.iload 5, 5, 0, 0, .null), (.if_icmp .eq 5, 1543, 0, 0, .null)]
theorem kL_law__1536 : kx_oks kxL_L false cL_law_ 1536 bL_law__1536 = true := by decide +kernel
def bL_law__1541 : List kx_O := [(.iconst 0, 0, 0, 0, .int 0), (.ireturn, 0, 0, 0, .null)]
theorem kL_law__1541 : kx_oks kxL_L false cL_law_ 1541 bL_law__1541 = true := by decide +kernel
def bL_law__1543 : List kx_O := [(.iload 5, 5, 0, 0, .null), (.ifCond .ne 15, 1560, 0, 0, .null)]
theorem kL_law__1543 : kx_oks kxL_L false cL_law_ 1543 bL_law__1543 = true := by decide +kernel
def bL_law__1548 : List kx_O := [(.aload_n 3, 3, 0, 0, .null), (.iconst 0, 0, 0, 0, .int 0), (.laload, 0, 0, 0, .null), (.iload 6, 6, 0, 0, .null), (.i2l, 0, 0, 0, .null), (.lcmp, 0, 0, 0, .null), (.ifCond .eq 5, 1560, 0, 0, .null)]
theorem kL_law__1548 : kx_oks kxL_L false cL_law_ 1548 bL_law__1548 = true := by decide +kernel
def bL_law__1558 : List kx_O := [(.iconst 0, 0, 0, 0, .int 0), (.ireturn, 0, 0, 0, .null)]
theorem kL_law__1558 : kx_oks kxL_L false cL_law_ 1558 bL_law__1558 = true := by decide +kernel
def bL_law__1560 : List kx_O := [(.goto 883, 2443, 0, 0, .null)]
theorem kL_law__1560 : kx_oks kxL_L false cL_law_ 1560 bL_law__1560 = true := by decide +kernel
def bL_law__1563 : List kx_O := [(.aload_n 1, 1, 0, 0, .null), (.aload_n 0, 0, 0, 0, .null), (.iload 4, 4, 0, 0, .null), (.iconst 1, 0, 0, 0, .int 1), (.iadd, 0, 0, 0, .null), (.iaload, 0, 0, 0, .null), (.aload_n 0, 0, 0, 0, .null), (.iload 4, 4, 0, 0, .null), (.iconst 2, 0, 0, 0, .int 2), (.iadd, 0, 0, 0, .null), (.iaload, 0, 0, 0, .null), (.aload_n 3, 3, 0, 0, .null)]
theorem kL_law__1563 : kx_oks kxL_L false cL_law_ 1563 bL_law__1563 = true := by decide +kernel
def bL_law__1580 : List kx_O := [(.istore 5, 5, 0, 0, .null), (.aload_n 2, 2, 0, 0, .null), (.aload_n 0, 0, 0, 0, .null), (.iload 4, 4, 0, 0, .null), (.iconst 1, 0, 0, 0, .int 1), (.iadd, 0, 0, 0, .null), (.iaload, 0, 0, 0, .null), (.aload_n 0, 0, 0, 0, .null), (.iload 4, 4, 0, 0, .null), (.iconst 2, 0, 0, 0, .int 2), (.iadd, 0, 0, 0, .null), (.iaload, 0, 0, 0, .null)]
theorem kL_law__1580 : kx_oks kxL_L false cL_law_ 1580 bL_law__1580 = true := by decide +kernel
def bL_law__1598 : List kx_O := [(.istore 6, 6, 0, 0, .null), (.aload_n 2, 2, 0, 0, .null)]
theorem kL_law__1598 : kx_oks kxL_L false cL_law_ 1598 bL_law__1598 = true := by decide +kernel
def bL_law__1604 : List kx_O := [(.iload 5, 5, 0, 0, .null), (.if_icmp .eq 5, 1611, 0, 0, .null)]
theorem kL_law__1604 : kx_oks kxL_L false cL_law_ 1604 bL_law__1604 = true := by decide +kernel
def bL_law__1609 : List kx_O := [(.iconst 0, 0, 0, 0, .int 0), (.ireturn, 0, 0, 0, .null)]
theorem kL_law__1609 : kx_oks kxL_L false cL_law_ 1609 bL_law__1609 = true := by decide +kernel
def bL_law__1611 : List kx_O := [(.iload 5, 5, 0, 0, .null), (.ifCond .ne 15, 1628, 0, 0, .null)]
theorem kL_law__1611 : kx_oks kxL_L false cL_law_ 1611 bL_law__1611 = true := by decide +kernel
def bL_law__1616 : List kx_O := [(.aload_n 3, 3, 0, 0, .null), (.iconst 0, 0, 0, 0, .int 0), (.laload, 0, 0, 0, .null), (.iload 6, 6, 0, 0, .null), (.i2l, 0, 0, 0, .null), (.lcmp, 0, 0, 0, .null), (.ifCond .eq 5, 1628, 0, 0, .null)]
theorem kL_law__1616 : kx_oks kxL_L false cL_law_ 1616 bL_law__1616 = true := by decide +kernel
def bL_law__1626 : List kx_O := [(.iconst 0, 0, 0, 0, .int 0), (.ireturn, 0, 0, 0, .null)]
theorem kL_law__1626 : kx_oks kxL_L false cL_law_ 1626 bL_law__1626 = true := by decide +kernel
def bL_law__1628 : List kx_O := [(.goto 815, 2443, 0, 0, .null)]
theorem kL_law__1628 : kx_oks kxL_L false cL_law_ 1628 bL_law__1628 = true := by decide +kernel
def bL_law__1631 : List kx_O := [(.aload_n 1, 1, 0, 0, .null), (.aload_n 0, 0, 0, 0, .null), (.iload 4, 4, 0, 0, .null), (.iconst 1, 0, 0, 0, .int 1), (.iadd, 0, 0, 0, .null), (.iaload, 0, 0, 0, .null), (.aload_n 0, 0, 0, 0, .null), (.iload 4, 4, 0, 0, .null), (.iconst 2, 0, 0, 0, .int 2), (.iadd, 0, 0, 0, .null), (.iaload, 0, 0, 0, .null), (.aload_n 3, 3, 0, 0, .null)]
theorem kL_law__1631 : kx_oks kxL_L false cL_law_ 1631 bL_law__1631 = true := by decide +kernel
def bL_law__1648 : List kx_O := [(.istore 5, 5, 0, 0, .null), (.aload_n 2, 2, 0, 0, .null), (.aload_n 0, 0, 0, 0, .null), (.iload 4, 4, 0, 0, .null), (.iconst 1, 0, 0, 0, .int 1), (.iadd, 0, 0, 0, .null), (.iaload, 0, 0, 0, .null), (.aload_n 0, 0, 0, 0, .null), (.iload 4, 4, 0, 0, .null), (.iconst 2, 0, 0, 0, .int 2), (.iadd, 0, 0, 0, .null), (.iaload, 0, 0, 0, .null)]
theorem kL_law__1648 : kx_oks kxL_L false cL_law_ 1648 bL_law__1648 = true := by decide +kernel
def bL_law__1666 : List kx_O := [(.istore 6, 6, 0, 0, .null), (.aload_n 2, 2, 0, 0, .null)]
theorem kL_law__1666 : kx_oks kxL_L false cL_law_ 1666 bL_law__1666 = true := by decide +kernel
def bL_law__1672 : List kx_O := [(.iload 5, 5, 0, 0, .null), (.if_icmp .eq 5, 1679, 0, 0, .null)]
theorem kL_law__1672 : kx_oks kxL_L false cL_law_ 1672 bL_law__1672 = true := by decide +kernel
def bL_law__1677 : List kx_O := [(.iconst 0, 0, 0, 0, .int 0), (.ireturn, 0, 0, 0, .null)]
theorem kL_law__1677 : kx_oks kxL_L false cL_law_ 1677 bL_law__1677 = true := by decide +kernel
def bL_law__1679 : List kx_O := [(.iload 5, 5, 0, 0, .null), (.ifCond .ne 15, 1696, 0, 0, .null)]
theorem kL_law__1679 : kx_oks kxL_L false cL_law_ 1679 bL_law__1679 = true := by decide +kernel
def bL_law__1684 : List kx_O := [(.aload_n 3, 3, 0, 0, .null), (.iconst 0, 0, 0, 0, .int 0), (.laload, 0, 0, 0, .null), (.iload 6, 6, 0, 0, .null), (.i2l, 0, 0, 0, .null), (.lcmp, 0, 0, 0, .null), (.ifCond .eq 5, 1696, 0, 0, .null)]
theorem kL_law__1684 : kx_oks kxL_L false cL_law_ 1684 bL_law__1684 = true := by decide +kernel
def bL_law__1694 : List kx_O := [(.iconst 0, 0, 0, 0, .int 0), (.ireturn, 0, 0, 0, .null)]
theorem kL_law__1694 : kx_oks kxL_L false cL_law_ 1694 bL_law__1694 = true := by decide +kernel
def bL_law__1696 : List kx_O := [(.goto 747, 2443, 0, 0, .null)]
theorem kL_law__1696 : kx_oks kxL_L false cL_law_ 1696 bL_law__1696 = true := by decide +kernel
def bL_law__1699 : List kx_O := [(.aload_n 1, 1, 0, 0, .null), (.aload_n 0, 0, 0, 0, .null), (.iload 4, 4, 0, 0, .null), (.iconst 1, 0, 0, 0, .int 1), (.iadd, 0, 0, 0, .null), (.iaload, 0, 0, 0, .null), (.aload_n 0, 0, 0, 0, .null), (.iload 4, 4, 0, 0, .null), (.iconst 2, 0, 0, 0, .int 2), (.iadd, 0, 0, 0, .null), (.iaload, 0, 0, 0, .null), (.aload_n 0, 0, 0, 0, .null), (.iload 4, 4, 0, 0, .null), (.iconst 3, 0, 0, 0, .int 3), (.iadd, 0, 0, 0, .null), (.iaload, 0, 0, 0, .null), (.aload_n 0, 0, 0, 0, .null), (.iload 4, 4, 0, 0, .null), (.iconst 4, 0, 0, 0, .int 4), (.iadd, 0, 0, 0, .null), (.iaload, 0, 0, 0, .null), (.aload_n 3, 3, 0, 0, .null)]
theorem kL_law__1699 : kx_oks kxL_L false cL_law_ 1699 bL_law__1699 = true := by decide +kernel
def bL_law__1728 : List kx_O := [(.istore 5, 5, 0, 0, .null), (.aload_n 2, 2, 0, 0, .null), (.aload_n 0, 0, 0, 0, .null), (.iload 4, 4, 0, 0, .null), (.iconst 1, 0, 0, 0, .int 1), (.iadd, 0, 0, 0, .null), (.iaload, 0, 0, 0, .null), (.aload_n 0, 0, 0, 0, .null), (.iload 4, 4, 0, 0, .null), (.iconst 2, 0, 0, 0, .int 2), (.iadd, 0, 0, 0, .null), (.iaload, 0, 0, 0, .null), (.aload_n 0, 0, 0, 0, .null), (.iload 4, 4, 0, 0, .null), (.iconst 3, 0, 0, 0, .int 3), (.iadd, 0, 0, 0, .null), (.iaload, 0, 0, 0, .null), (.aload_n 0, 0, 0, 0, .null), (.iload 4, 4, 0, 0, .null), (.iconst 4, 0, 0, 0, .int 4), (.iadd, 0, 0, 0, .null), (.iaload, 0, 0, 0, .null)]
theorem kL_law__1728 : kx_oks kxL_L false cL_law_ 1728 bL_law__1728 = true := by decide +kernel
def bL_law__1758 : List kx_O := [(.istore 6, 6, 0, 0, .null), (.aload_n 2, 2, 0, 0, .null)]
theorem kL_law__1758 : kx_oks kxL_L false cL_law_ 1758 bL_law__1758 = true := by decide +kernel
def bL_law__1764 : List kx_O := [(.iload 5, 5, 0, 0, .null), (.if_icmp .eq 5, 1771, 0, 0, .null)]
theorem kL_law__1764 : kx_oks kxL_L false cL_law_ 1764 bL_law__1764 = true := by decide +kernel
def bL_law__1769 : List kx_O := [(.iconst 0, 0, 0, 0, .int 0), (.ireturn, 0, 0, 0, .null)]
theorem kL_law__1769 : kx_oks kxL_L false cL_law_ 1769 bL_law__1769 = true := by decide +kernel
def bL_law__1771 : List kx_O := [(.iload 5, 5, 0, 0, .null), (.ifCond .ne 15, 1788, 0, 0, .null)]
theorem kL_law__1771 : kx_oks kxL_L false cL_law_ 1771 bL_law__1771 = true := by decide +kernel
def bL_law__1776 : List kx_O := [(.aload_n 3, 3, 0, 0, .null), (.iconst 0, 0, 0, 0, .int 0), (.laload, 0, 0, 0, .null), (.iload 6, 6, 0, 0, .null), (.i2l, 0, 0, 0, .null), (.lcmp, 0, 0, 0, .null), (.ifCond .eq 5, 1788, 0, 0, .null)]
theorem kL_law__1776 : kx_oks kxL_L false cL_law_ 1776 bL_law__1776 = true := by decide +kernel
def bL_law__1786 : List kx_O := [(.iconst 0, 0, 0, 0, .int 0), (.ireturn, 0, 0, 0, .null)]
theorem kL_law__1786 : kx_oks kxL_L false cL_law_ 1786 bL_law__1786 = true := by decide +kernel
def bL_law__1788 : List kx_O := [(.goto 655, 2443, 0, 0, .null)]
theorem kL_law__1788 : kx_oks kxL_L false cL_law_ 1788 bL_law__1788 = true := by decide +kernel
def bL_law__1791 : List kx_O := [(.aload_n 1, 1, 0, 0, .null), (.aload_n 0, 0, 0, 0, .null), (.iload 4, 4, 0, 0, .null), (.iconst 1, 0, 0, 0, .int 1), (.iadd, 0, 0, 0, .null), (.iaload, 0, 0, 0, .null), (.aload_n 0, 0, 0, 0, .null), (.iload 4, 4, 0, 0, .null), (.iconst 2, 0, 0, 0, .int 2), (.iadd, 0, 0, 0, .null), (.iaload, 0, 0, 0, .null), (.aload_n 0, 0, 0, 0, .null), (.iload 4, 4, 0, 0, .null), (.iconst 3, 0, 0, 0, .int 3), (.iadd, 0, 0, 0, .null), (.iaload, 0, 0, 0, .null), (.aload_n 3, 3, 0, 0, .null)]
theorem kL_law__1791 : kx_oks kxL_L false cL_law_ 1791 bL_law__1791 = true := by decide +kernel
def bL_law__1814 : List kx_O := [(.istore 5, 5, 0, 0, .null), (.aload_n 2, 2, 0, 0, .null), (.aload_n 0, 0, 0, 0, .null), (.iload 4, 4, 0, 0, .null), (.iconst 1, 0, 0, 0, .int 1), (.iadd, 0, 0, 0, .null), (.iaload, 0, 0, 0, .null), (.aload_n 0, 0, 0, 0, .null), (.iload 4, 4, 0, 0, .null), (.iconst 2, 0, 0, 0, .int 2), (.iadd, 0, 0, 0, .null), (.iaload, 0, 0, 0, .null), (.aload_n 0, 0, 0, 0, .null), (.iload 4, 4, 0, 0, .null), (.iconst 3, 0, 0, 0, .int 3), (.iadd, 0, 0, 0, .null), (.iaload, 0, 0, 0, .null)]
theorem kL_law__1814 : kx_oks kxL_L false cL_law_ 1814 bL_law__1814 = true := by decide +kernel
def bL_law__1838 : List kx_O := [(.istore 6, 6, 0, 0, .null), (.aload_n 2, 2, 0, 0, .null)]
theorem kL_law__1838 : kx_oks kxL_L false cL_law_ 1838 bL_law__1838 = true := by decide +kernel
def bL_law__1844 : List kx_O := [(.iload 5, 5, 0, 0, .null), (.if_icmp .eq 5, 1851, 0, 0, .null)]
theorem kL_law__1844 : kx_oks kxL_L false cL_law_ 1844 bL_law__1844 = true := by decide +kernel
def bL_law__1849 : List kx_O := [(.iconst 0, 0, 0, 0, .int 0), (.ireturn, 0, 0, 0, .null)]
theorem kL_law__1849 : kx_oks kxL_L false cL_law_ 1849 bL_law__1849 = true := by decide +kernel
def bL_law__1851 : List kx_O := [(.iload 5, 5, 0, 0, .null), (.ifCond .ne 15, 1868, 0, 0, .null)]
theorem kL_law__1851 : kx_oks kxL_L false cL_law_ 1851 bL_law__1851 = true := by decide +kernel
def bL_law__1856 : List kx_O := [(.aload_n 3, 3, 0, 0, .null), (.iconst 0, 0, 0, 0, .int 0), (.laload, 0, 0, 0, .null), (.iload 6, 6, 0, 0, .null), (.i2l, 0, 0, 0, .null), (.lcmp, 0, 0, 0, .null), (.ifCond .eq 5, 1868, 0, 0, .null)]
theorem kL_law__1856 : kx_oks kxL_L false cL_law_ 1856 bL_law__1856 = true := by decide +kernel
def bL_law__1866 : List kx_O := [(.iconst 0, 0, 0, 0, .int 0), (.ireturn, 0, 0, 0, .null)]
theorem kL_law__1866 : kx_oks kxL_L false cL_law_ 1866 bL_law__1866 = true := by decide +kernel
def bL_law__1868 : List kx_O := [(.goto 575, 2443, 0, 0, .null)]
theorem kL_law__1868 : kx_oks kxL_L false cL_law_ 1868 bL_law__1868 = true := by decide +kernel
def bL_law__1871 : List kx_O := [(.aload_n 1, 1, 0, 0, .null), (.aload_n 0, 0, 0, 0, .null), (.iload 4, 4, 0, 0, .null), (.iconst 1, 0, 0, 0, .int 1), (.iadd, 0, 0, 0, .null), (.iaload, 0, 0, 0, .null), (.aload_n 0, 0, 0, 0, .null), (.iload 4, 4, 0, 0, .null), (.iconst 2, 0, 0, 0, .int 2), (.iadd, 0, 0, 0, .null), (.iaload, 0, 0, 0, .null), (.aload_n 0, 0, 0, 0, .null), (.iload 4, 4, 0, 0, .null), (.iconst 3, 0, 0, 0, .int 3), (.iadd, 0, 0, 0, .null), (.iaload, 0, 0, 0, .null), (.aload_n 3, 3, 0, 0, .null)]
theorem kL_law__1871 : kx_oks kxL_L false cL_law_ 1871 bL_law__1871 = true := by decide +kernel
def bL_law__1894 : List kx_O := [(.istore 5, 5, 0, 0, .null), (.aload_n 2, 2, 0, 0, .null), (.aload_n 0, 0, 0, 0, .null), (.iload 4, 4, 0, 0, .null), (.iconst 1, 0, 0, 0, .int 1), (.iadd, 0, 0, 0, .null), (.iaload, 0, 0, 0, .null), (.aload_n 0, 0, 0, 0, .null), (.iload 4, 4, 0, 0, .null), (.iconst 2, 0, 0, 0, .int 2), (.iadd, 0, 0, 0, .null), (.iaload, 0, 0, 0, .null), (.aload_n 0, 0, 0, 0, .null), (.iload 4, 4, 0, 0, .null), (.iconst 3, 0, 0, 0, .int 3), (.iadd, 0, 0, 0, .null), (.iaload, 0, 0, 0, .null)]
theorem kL_law__1894 : kx_oks kxL_L false cL_law_ 1894 bL_law__1894 = true := by decide +kernel
def bL_law__1918 : List kx_O := [(.lstore 6, 6, 0, 0, .null), (.aload_n 2, 2, 0, 0, .null)]
theorem kL_law__1918 : kx_oks kxL_L false cL_law_ 1918 bL_law__1918 = true := by decide +kernel
def bL_law__1924 : List kx_O := [(.iload 5, 5, 0, 0, .null), (.if_icmp .eq 5, 1931, 0, 0, .null)]
theorem kL_law__1924 : kx_oks kxL_L false cL_law_ 1924 bL_law__1924 = true := by decide +kernel
def bL_law__1929 : List kx_O := [(.iconst 0, 0, 0, 0, .int 0), (.ireturn, 0, 0, 0, .null)]
theorem kL_law__1929 : kx_oks kxL_L false cL_law_ 1929 bL_law__1929 = true := by decide +kernel
def bL_law__1931 : List kx_O := [(.iload 5, 5, 0, 0, .null), (.ifCond .ne 14, 1947, 0, 0, .null)]
theorem kL_law__1931 : kx_oks kxL_L false cL_law_ 1931 bL_law__1931 = true := by decide +kernel
def bL_law__1936 : List kx_O := [(.aload_n 3, 3, 0, 0, .null), (.iconst 0, 0, 0, 0, .int 0), (.laload, 0, 0, 0, .null), (.lload 6, 6, 0, 0, .null), (.lcmp, 0, 0, 0, .null), (.ifCond .eq 5, 1947, 0, 0, .null)]
theorem kL_law__1936 : kx_oks kxL_L false cL_law_ 1936 bL_law__1936 = true := by decide +kernel
def bL_law__1945 : List kx_O := [(.iconst 0, 0, 0, 0, .int 0), (.ireturn, 0, 0, 0, .null)]
theorem kL_law__1945 : kx_oks kxL_L false cL_law_ 1945 bL_law__1945 = true := by decide +kernel
def bL_law__1947 : List kx_O := [(.goto 496, 2443, 0, 0, .null)]
theorem kL_law__1947 : kx_oks kxL_L false cL_law_ 1947 bL_law__1947 = true := by decide +kernel
def bL_law__1950 : List kx_O := [(.aload_n 1, 1, 0, 0, .null), (.aload_n 0, 0, 0, 0, .null), (.iload 4, 4, 0, 0, .null), (.iconst 1, 0, 0, 0, .int 1), (.iadd, 0, 0, 0, .null), (.iaload, 0, 0, 0, .null), (.aload_n 0, 0, 0, 0, .null), (.iload 4, 4, 0, 0, .null), (.iconst 2, 0, 0, 0, .int 2), (.iadd, 0, 0, 0, .null), (.iaload, 0, 0, 0, .null), (.aload_n 3, 3, 0, 0, .null)]
theorem kL_law__1950 : kx_oks kxL_L false cL_law_ 1950 bL_law__1950 = true := by decide +kernel
def bL_law__1967 : List kx_O := [(.istore 5, 5, 0, 0, .null), (.aload_n 2, 2, 0, 0, .null), (.aload_n 0, 0, 0, 0, .null), (.iload 4, 4, 0, 0, .null), (.iconst 1, 0, 0, 0, .int 1), (.iadd, 0, 0, 0, .null), (.iaload, 0, 0, 0, .null), (.aload_n 0, 0, 0, 0, .null), (.iload 4, 4, 0, 0, .null), (.iconst 2, 0, 0, 0, .int 2), (.iadd, 0, 0, 0, .null), (.iaload, 0, 0, 0, .null)]
theorem kL_law__1967 : kx_oks kxL_L false cL_law_ 1967 bL_law__1967 = true := by decide +kernel
def bL_law__1985 : List kx_O := [(.lstore 6, 6, 0, 0, .null), (.aload_n 2, 2, 0, 0, .null)]
theorem kL_law__1985 : kx_oks kxL_L false cL_law_ 1985 bL_law__1985 = true := by decide +kernel
def bL_law__1991 : List kx_O := [(.iload 5, 5, 0, 0, .null), (.if_icmp .eq 5, 1998, 0, 0, .null)]
theorem kL_law__1991 : kx_oks kxL_L false cL_law_ 1991 bL_law__1991 = true := by decide +kernel
def bL_law__1996 : List kx_O := [(.iconst 0, 0, 0, 0, .int 0), (.ireturn, 0, 0, 0, .null)]
theorem kL_law__1996 : kx_oks kxL_L false cL_law_ 1996 bL_law__1996 = true := by decide +kernel
def bL_law__1998 : List kx_O := [(.iload 5, 5, 0, 0, .null), (.ifCond .ne 14, 2014, 0, 0, .null)]
theorem kL_law__1998 : kx_oks kxL_L false cL_law_ 1998 bL_law__1998 = true := by decide +kernel
def bL_law__2003 : List kx_O := [(.aload_n 3, 3, 0, 0, .null), (.iconst 0, 0, 0, 0, .int 0), (.laload, 0, 0, 0, .null), (.lload 6, 6, 0, 0, .null), (.lcmp, 0, 0, 0, .null), (.ifCond .eq 5, 2014, 0, 0, .null)]
theorem kL_law__2003 : kx_oks kxL_L false cL_law_ 2003 bL_law__2003 = true := by decide +kernel
def bL_law__2012 : List kx_O := [(.iconst 0, 0, 0, 0, .int 0), (.ireturn, 0, 0, 0, .null)]
theorem kL_law__2012 : kx_oks kxL_L false cL_law_ 2012 bL_law__2012 = true := by decide +kernel
def bL_law__2014 : List kx_O := [(.goto 429, 2443, 0, 0, .null)]
theorem kL_law__2014 : kx_oks kxL_L false cL_law_ 2014 bL_law__2014 = true := by decide +kernel
def bL_law__2017 : List kx_O := [(.aload_n 1, 1, 0, 0, .null), (.aload_n 0, 0, 0, 0, .null), (.iload 4, 4, 0, 0, .null), (.iconst 1, 0, 0, 0, .int 1), (.iadd, 0, 0, 0, .null), (.iaload, 0, 0, 0, .null), (.aload_n 0, 0, 0, 0, .null), (.iload 4, 4, 0, 0, .null), (.iconst 2, 0, 0, 0, .int 2), (.iadd, 0, 0, 0, .null), (.iaload, 0, 0, 0, .null), (.aload_n 3, 3, 0, 0, .null)]
theorem kL_law__2017 : kx_oks kxL_L false cL_law_ 2017 bL_law__2017 = true := by decide +kernel
def bL_law__2034 : List kx_O := [(.istore 5, 5, 0, 0, .null), (.aload_n 2, 2, 0, 0, .null), (.aload_n 0, 0, 0, 0, .null), (.iload 4, 4, 0, 0, .null), (.iconst 1, 0, 0, 0, .int 1), (.iadd, 0, 0, 0, .null), (.iaload, 0, 0, 0, .null), (.aload_n 0, 0, 0, 0, .null), (.iload 4, 4, 0, 0, .null), (.iconst 2, 0, 0, 0, .int 2), (.iadd, 0, 0, 0, .null), (.iaload, 0, 0, 0, .null)]
theorem kL_law__2034 : kx_oks kxL_L false cL_law_ 2034 bL_law__2034 = true := by decide +kernel
def bL_law__2052 : List kx_O := [(.istore 6, 6, 0, 0, .null), (.aload_n 2, 2, 0, 0, .null)]
theorem kL_law__2052 : kx_oks kxL_L false cL_law_ 2052 bL_law__2052 = true := by decide +kernel
def bL_law__2058 : List kx_O := [(.iload 5, 5, 0, 0, .null), (.if_icmp .eq 5, 2065, 0, 0, .null)]
theorem kL_law__2058 : kx_oks kxL_L false cL_law_ 2058 bL_law__2058 = true := by decide +kernel
def bL_law__2063 : List kx_O := [(.iconst 0, 0, 0, 0, .int 0), (.ireturn, 0, 0, 0, .null)]
theorem kL_law__2063 : kx_oks kxL_L false cL_law_ 2063 bL_law__2063 = true := by decide +kernel
def bL_law__2065 : List kx_O := [(.iload 5, 5, 0, 0, .null), (.ifCond .ne 15, 2082, 0, 0, .null)]
theorem kL_law__2065 : kx_oks kxL_L false cL_law_ 2065 bL_law__2065 = true := by decide +kernel
def bL_law__2070 : List kx_O := [(.aload_n 3, 3, 0, 0, .null), (.iconst 0, 0, 0, 0, .int 0), (.laload, 0, 0, 0, .null), (.iload 6, 6, 0, 0, .null), (.i2l, 0, 0, 0, .null), (.lcmp, 0, 0, 0, .null), (.ifCond .eq 5, 2082, 0, 0, .null)]
theorem kL_law__2070 : kx_oks kxL_L false cL_law_ 2070 bL_law__2070 = true := by decide +kernel
def bL_law__2080 : List kx_O := [(.iconst 0, 0, 0, 0, .int 0), (.ireturn, 0, 0, 0, .null)]
theorem kL_law__2080 : kx_oks kxL_L false cL_law_ 2080 bL_law__2080 = true := by decide +kernel
def bL_law__2082 : List kx_O := [(.goto 361, 2443, 0, 0, .null)]
theorem kL_law__2082 : kx_oks kxL_L false cL_law_ 2082 bL_law__2082 = true := by decide +kernel
def bL_law__2085 : List kx_O := [(.aload_n 1, 1, 0, 0, .null), (.aload_n 0, 0, 0, 0, .null), (.iload 4, 4, 0, 0, .null), (.iconst 1, 0, 0, 0, .int 1), (.iadd, 0, 0, 0, .null), (.iaload, 0, 0, 0, .null), (.aload_n 0, 0, 0, 0, .null), (.iload 4, 4, 0, 0, .null), (.iconst 2, 0, 0, 0, .int 2), (.iadd, 0, 0, 0, .null), (.iaload, 0, 0, 0, .null), (.aload_n 0, 0, 0, 0, .null), (.iload 4, 4, 0, 0, .null), (.iconst 3, 0, 0, 0, .int 3), (.iadd, 0, 0, 0, .null), (.iaload, 0, 0, 0, .null), (.aload_n 3, 3, 0, 0, .null)]
theorem kL_law__2085 : kx_oks kxL_L false cL_law_ 2085 bL_law__2085 = true := by decide +kernel
def bL_law__2108 : List kx_O := [(.istore 5, 5, 0, 0, .null), (.aload_n 2, 2, 0, 0, .null), (.aload_n 0, 0, 0, 0, .null), (.iload 4, 4, 0, 0, .null), (.iconst 1, 0, 0, 0, .int 1), (.iadd, 0, 0, 0, .null), (.iaload, 0, 0, 0, .null), (.aload_n 0, 0, 0, 0, .null), (.iload 4, 4, 0, 0, .null), (.iconst 2, 0, 0, 0, .int 2), (.iadd, 0, 0, 0, .null), (.iaload, 0, 0, 0, .null), (.aload_n 0, 0, 0, 0, .null), (.iload 4, 4, 0, 0, .null), (.iconst 3, 0, 0, 0, .int 3), (.iadd, 0, 0, 0, .null), (.iaload, 0, 0, 0, .null)]
theorem kL_law__2108 : kx_oks kxL_L false cL_law_ 2108 bL_law__2108 = true := by decide +kernel
def bL_law__2132 : List kx_O := [(.istore 6, 6, 0, 0, .null), (.aload_n 2, 2, 0, 0, .null)]
theorem kL_law__2132 : kx_oks kxL_L false cL_law_ 2132 bL_law__2132 = true := by decide +kernel
def bL_law__2138 : List kx_O := [(.iload 5, 5, 0, 0, .null), (.if_icmp .eq 5, 2145, 0, 0, .null)]
theorem kL_law__2138 : kx_oks kxL_L false cL_law_ 2138 bL_law__2138 = true := by decide +kernel
def bL_law__2143 : List kx_O := [(.iconst 0, 0, 0, 0, .int 0), (.ireturn, 0, 0, 0, .null)]
theorem kL_law__2143 : kx_oks kxL_L false cL_law_ 2143 bL_law__2143 = true := by decide +kernel
def bL_law__2145 : List kx_O := [(.iload 5, 5, 0, 0, .null), (.ifCond .ne 15, 2162, 0, 0, .null)]
theorem kL_law__2145 : kx_oks kxL_L false cL_law_ 2145 bL_law__2145 = true := by decide +kernel
def bL_law__2150 : List kx_O := [(.aload_n 3, 3, 0, 0, .null), (.iconst 0, 0, 0, 0, .int 0), (.laload, 0, 0, 0, .null), (.iload 6, 6, 0, 0, .null), (.i2l, 0, 0, 0, .null), (.lcmp, 0, 0, 0, .null), (.ifCond .eq 5, 2162, 0, 0, .null)]
theorem kL_law__2150 : kx_oks kxL_L false cL_law_ 2150 bL_law__2150 = true := by decide +kernel
def bL_law__2160 : List kx_O := [(.iconst 0, 0, 0, 0, .int 0), (.ireturn, 0, 0, 0, .null)]
theorem kL_law__2160 : kx_oks kxL_L false cL_law_ 2160 bL_law__2160 = true := by decide +kernel
def bL_law__2162 : List kx_O := [(.goto 281, 2443, 0, 0, .null)]
theorem kL_law__2162 : kx_oks kxL_L false cL_law_ 2162 bL_law__2162 = true := by decide +kernel
def bL_law__2165 : List kx_O := [(.aload_n 1, 1, 0, 0, .null), (.aload_n 0, 0, 0, 0, .null), (.iload 4, 4, 0, 0, .null), (.iconst 1, 0, 0, 0, .int 1), (.iadd, 0, 0, 0, .null), (.iaload, 0, 0, 0, .null), (.aload_n 0, 0, 0, 0, .null), (.iload 4, 4, 0, 0, .null), (.iconst 2, 0, 0, 0, .int 2), (.iadd, 0, 0, 0, .null), (.iaload, 0, 0, 0, .null), (.aload_n 3, 3, 0, 0, .null)]
theorem kL_law__2165 : kx_oks kxL_L false cL_law_ 2165 bL_law__2165 = true := by decide +kernel
def bL_law__2182 : List kx_O := [(.istore 5, 5, 0, 0, .null), (.aload_n 2, 2, 0, 0, .null), (.aload_n 0, 0, 0, 0, .null), (.iload 4, 4, 0, 0, .null), (.iconst 1, 0, 0, 0, .int 1), (.iadd, 0, 0, 0, .null), (.iaload, 0, 0, 0, .null), (.aload_n 0, 0, 0, 0, .null), (.iload 4, 4, 0, 0, .null), (.iconst 2, 0, 0, 0, .int 2), (.iadd, 0, 0, 0, .null), (.iaload, 0, 0, 0, .null)]
theorem kL_law__2182 : kx_oks kxL_L false cL_law_ 2182 bL_law__2182 = true := by decide +kernel
def bL_law__2200 : List kx_O := [(.istore 6, 6, 0, 0, .null), (.aload_n 2, 2, 0, 0, .null)]
theorem kL_law__2200 : kx_oks kxL_L false cL_law_ 2200 bL_law__2200 = true := by decide +kernel
def bL_law__2206 : List kx_O := [(.iload 5, 5, 0, 0, .null), (.if_icmp .eq 5, 2213, 0, 0, .null)]
theorem kL_law__2206 : kx_oks kxL_L false cL_law_ 2206 bL_law__2206 = true := by decide +kernel
def bL_law__2211 : List kx_O := [(.iconst 0, 0, 0, 0, .int 0), (.ireturn, 0, 0, 0, .null)]
theorem kL_law__2211 : kx_oks kxL_L false cL_law_ 2211 bL_law__2211 = true := by decide +kernel
def bL_law__2213 : List kx_O := [(.iload 5, 5, 0, 0, .null), (.ifCond .ne 15, 2230, 0, 0, .null)]
theorem kL_law__2213 : kx_oks kxL_L false cL_law_ 2213 bL_law__2213 = true := by decide +kernel
def bL_law__2218 : List kx_O := [(.aload_n 3, 3, 0, 0, .null), (.iconst 0, 0, 0, 0, .int 0), (.laload, 0, 0, 0, .null), (.iload 6, 6, 0, 0, .null), (.i2l, 0, 0, 0, .null), (.lcmp, 0, 0, 0, .null), (.ifCond .eq 5, 2230, 0, 0, .null)]
theorem kL_law__2218 : kx_oks kxL_L false cL_law_ 2218 bL_law__2218 = true := by decide +kernel
def bL_law__2228 : List kx_O := [(.iconst 0, 0, 0, 0, .int 0), (.ireturn, 0, 0, 0, .null)]
theorem kL_law__2228 : kx_oks kxL_L false cL_law_ 2228 bL_law__2228 = true := by decide +kernel
def bL_law__2230 : List kx_O := [(.goto 213, 2443, 0, 0, .null)]
theorem kL_law__2230 : kx_oks kxL_L false cL_law_ 2230 bL_law__2230 = true := by decide +kernel
def bL_law__2233 : List kx_O := [(.aload_n 1, 1, 0, 0, .null), (.aload_n 0, 0, 0, 0, .null), (.iload 4, 4, 0, 0, .null), (.iconst 1, 0, 0, 0, .int 1), (.iadd, 0, 0, 0, .null), (.iaload, 0, 0, 0, .null), (.aload_n 0, 0, 0, 0, .null), (.iload 4, 4, 0, 0, .null), (.iconst 2, 0, 0, 0, .int 2), (.iadd, 0, 0, 0, .null), (.iaload, 0, 0, 0, .null)]
theorem kL_law__2233 : kx_oks kxL_L false cL_law_ 2233 bL_law__2233 = true := by decide +kernel
def bL_law__2249 : List kx_O := [(.aload_n 2, 2, 0, 0, .null), (.aload_n 0, 0, 0, 0, .null), (.iload 4, 4, 0, 0, .null), (.iconst 1, 0, 0, 0, .int 1), (.iadd, 0, 0, 0, .null), (.iaload, 0, 0, 0, .null), (.aload_n 0, 0, 0, 0, .null), (.iload 4, 4, 0, 0, .null), (.iconst 2, 0, 0, 0, .int 2), (.iadd, 0, 0, 0, .null), (.iaload, 0, 0, 0, .null)]
theorem kL_law__2249 : kx_oks kxL_L false cL_law_ 2249 bL_law__2249 = true := by decide +kernel
def bL_law__2265 : List kx_O := [(.if_icmp .eq 178, 2443, 0, 0, .null)]
theorem kL_law__2265 : kx_oks kxL_L false cL_law_ 2265 bL_law__2265 = true := by decide +kernel
def bL_law__2268 : List kx_O := [(.iconst 0, 0, 0, 0, .int 0), (.ireturn, 0, 0, 0, .null)]
theorem kL_law__2268 : kx_oks kxL_L false cL_law_ 2268 bL_law__2268 = true := by decide +kernel
def bL_law__2270 : List kx_O := [(.aload_n 1, 1, 0, 0, .null), (.aload_n 0, 0, 0, 0, .null), (.iload 4, 4, 0, 0, .null), (.iconst 1, 0, 0, 0, .int 1), (.iadd, 0, 0, 0, .null), (.iaload, 0, 0, 0, .null), (.aload_n 0, 0, 0, 0, .null), (.iload 4, 4, 0, 0, .null), (.iconst 2, 0, 0, 0, .int 2), (.iadd, 0, 0, 0, .null), (.iaload, 0, 0, 0, .null), (.aload_n 3, 3, 0, 0, .null)]
theorem kL_law__2270 : kx_oks kxL_L false cL_law_ 2270 bL_law__2270 = true := by decide +kernel
def bL_law__2287 : List kx_O := [(.istore 5, 5, 0, 0, .null), (.aload_n 2, 2, 0, 0, .null), (.aload_n 0, 0, 0, 0, .null), (.iload 4, 4, 0, 0, .null), (.iconst 1, 0, 0, 0, .int 1), (.iadd, 0, 0, 0, .null), (.iaload, 0, 0, 0, .null), (.aload_n 0, 0, 0, 0, .null), (.iload 4, 4, 0, 0, .null), (.iconst 2, 0, 0, 0, .int 2), (.iadd, 0, 0, 0, .null), (.iaload, 0, 0, 0, .null)]
theorem kL_law__2287 : kx_oks kxL_L false cL_law_ 2287 bL_law__2287 = true := by decide +kernel
def bL_law__2305 : List kx_O := [(.istore 6, 6, 0, 0, .null), (.aload_n 2, 2, 0, 0, .null)]
theorem kL_law__2305 : kx_oks kxL_L false cL_law_ 2305 bL_law__2305 = true := by decide +kernel
def bL_law__2311 : List kx_O := [(.iload 5, 5, 0, 0, .null), (.if_icmp .eq 5, 2318, 0, 0, .null)]
theorem kL_law__2311 : kx_oks kxL_L false cL_law_ 2311 bL_law__2311 = true := by decide +kernel
def bL_law__2316 : List kx_O := [(.iconst 0, 0, 0, 0, .int 0), (.ireturn, 0, 0, 0, .null)]
theorem kL_law__2316 : kx_oks kxL_L false cL_law_ 2316 bL_law__2316 = true := by decide +kernel
def bL_law__2318 : List kx_O := [(.iload 5, 5, 0, 0, .null), (.ifCond .ne 15, 2335, 0, 0, .null)]
theorem kL_law__2318 : kx_oks kxL_L false cL_law_ 2318 bL_law__2318 = true := by decide +kernel
def bL_law__2323 : List kx_O := [(.aload_n 3, 3, 0, 0, .null), (.iconst 0, 0, 0, 0, .int 0), (.laload, 0, 0, 0, .null), (.iload 6, 6, 0, 0, .null), (.i2l, 0, 0, 0, .null), (.lcmp, 0, 0, 0, .null), (.ifCond .eq 5, 2335, 0, 0, .null)]
theorem kL_law__2323 : kx_oks kxL_L false cL_law_ 2323 bL_law__2323 = true := by decide +kernel
def bL_law__2333 : List kx_O := [(.iconst 0, 0, 0, 0, .int 0), (.ireturn, 0, 0, 0, .null)]
theorem kL_law__2333 : kx_oks kxL_L false cL_law_ 2333 bL_law__2333 = true := by decide +kernel
def bL_law__2335 : List kx_O := [(.goto 108, 2443, 0, 0, .null)]
theorem kL_law__2335 : kx_oks kxL_L false cL_law_ 2335 bL_law__2335 = true := by decide +kernel
def bL_law__2338 : List kx_O := [(.aload_n 1, 1, 0, 0, .null), (.aload_n 0, 0, 0, 0, .null), (.iload 4, 4, 0, 0, .null), (.iconst 1, 0, 0, 0, .int 1), (.iadd, 0, 0, 0, .null), (.iaload, 0, 0, 0, .null), (.aload_n 0, 0, 0, 0, .null), (.iload 4, 4, 0, 0, .null), (.iconst 2, 0, 0, 0, .int 2), (.iadd, 0, 0, 0, .null), (.iaload, 0, 0, 0, .null), (.aload_n 0, 0, 0, 0, .null), (.iload 4, 4, 0, 0, .null), (.iconst 3, 0, 0, 0, .int 3), (.iadd, 0, 0, 0, .null), (.iaload, 0, 0, 0, .null), (.aload_n 3, 3, 0, 0, .null)]
theorem kL_law__2338 : kx_oks kxL_L false cL_law_ 2338 bL_law__2338 = true := by decide +kernel
def bL_law__2361 : List kx_O := [(.istore 5, 5, 0, 0, .null), (.aload_n 2, 2, 0, 0, .null), (.aload_n 0, 0, 0, 0, .null), (.iload 4, 4, 0, 0, .null), (.iconst 1, 0, 0, 0, .int 1), (.iadd, 0, 0, 0, .null), (.iaload, 0, 0, 0, .null), (.aload_n 0, 0, 0, 0, .null), (.iload 4, 4, 0, 0, .null), (.iconst 2, 0, 0, 0, .int 2), (.iadd, 0, 0, 0, .null), (.iaload, 0, 0, 0, .null), (.aload_n 0, 0, 0, 0, .null), (.iload 4, 4, 0, 0, .null), (.iconst 3, 0, 0, 0, .int 3), (.iadd, 0, 0, 0, .null), (.iaload, 0, 0, 0, .null)]
theorem kL_law__2361 : kx_oks kxL_L false cL_law_ 2361 bL_law__2361 = true := by decide +kernel
def bL_law__2385 : List kx_O := [(.istore 6, 6, 0, 0, .null), (.aload_n 2, 2, 0, 0, .null)]
theorem kL_law__2385 : kx_oks kxL_L false cL_law_ 2385 bL_law__2385 = true := by decide +kernel
def bL_law__2391 : List kx_O := [(.iload 5, 5, 0, 0, .null), (.if_icmp .eq 5, 2398, 0, 0, .null)]
theorem kL_law__2391 : kx_oks kxL_L false cL_law_ 2391 bL_law__2391 = true := by decide +kernel
def bL_law__2396 : List kx_O := [(.iconst 0, 0, 0, 0, .int 0), (.ireturn, 0, 0, 0, .null)]
theorem kL_law__2396 : kx_oks kxL_L false cL_law_ 2396 bL_law__2396 = true := by decide +kernel
def bL_law__2398 : List kx_O := [(.iload 5, 5, 0, 0, .null), (.ifCond .ne 15, 2415, 0, 0, .null)]
theorem kL_law__2398 : kx_oks kxL_L false cL_law_ 2398 bL_law__2398 = true := by decide +kernel
def bL_law__2403 : List kx_O := [(.aload_n 3, 3, 0, 0, .null), (.iconst 0, 0, 0, 0, .int 0), (.laload, 0, 0, 0, .null), (.iload 6, 6, 0, 0, .null), (.i2l, 0, 0, 0, .null), (.lcmp, 0, 0, 0, .null), (.ifCond .eq 5, 2415, 0, 0, .null)]
theorem kL_law__2403 : kx_oks kxL_L false cL_law_ 2403 bL_law__2403 = true := by decide +kernel
def bL_law__2413 : List kx_O := [(.iconst 0, 0, 0, 0, .int 0), (.ireturn, 0, 0, 0, .null)]
theorem kL_law__2413 : kx_oks kxL_L false cL_law_ 2413 bL_law__2413 = true := by decide +kernel
def bL_law__2415 : List kx_O := [(.goto 28, 2443, 0, 0, .null)]
theorem kL_law__2415 : kx_oks kxL_L false cL_law_ 2415 bL_law__2415 = true := by decide +kernel
def bL_law__2418 : List kx_O := [(.aload_n 1, 1, 0, 0, .null), (.aload_n 0, 0, 0, 0, .null), (.iload 4, 4, 0, 0, .null), (.iconst 1, 0, 0, 0, .int 1), (.iadd, 0, 0, 0, .null), (.iaload, 0, 0, 0, .null)]
theorem kL_law__2418 : kx_oks kxL_L false cL_law_ 2418 bL_law__2418 = true := by decide +kernel
def bL_law__2428 : List kx_O := [(.aload_n 2, 2, 0, 0, .null), (.aload_n 0, 0, 0, 0, .null), (.iload 4, 4, 0, 0, .null), (.iconst 1, 0, 0, 0, .int 1), (.iadd, 0, 0, 0, .null), (.iaload, 0, 0, 0, .null)]
theorem kL_law__2428 : kx_oks kxL_L false cL_law_ 2428 bL_law__2428 = true := by decide +kernel
def bL_law__2438 : List kx_O := [(.if_icmp .eq 5, 2443, 0, 0, .null)]
theorem kL_law__2438 : kx_oks kxL_L false cL_law_ 2438 bL_law__2438 = true := by decide +kernel
def bL_law__2441 : List kx_O := [(.iconst 0, 0, 0, 0, .int 0), (.ireturn, 0, 0, 0, .null)]
theorem kL_law__2441 : kx_oks kxL_L false cL_law_ 2441 bL_law__2441 = true := by decide +kernel
def bL_law__2443 : List kx_O := [(.iinc 4 6, 4, 0, 0, .int 6), (.goto (-2423), 23, 0, 0, .null)]
theorem kL_law__2443 : kx_oks kxL_L false cL_law_ 2443 bL_law__2443 = true := by decide +kernel
def bL_law__2449 : List kx_O := [(.iconst 1, 0, 0, 0, .int 1), (.ireturn, 0, 0, 0, .null)]
theorem kL_law__2449 : kx_oks kxL_L false cL_law_ 2449 bL_law__2449 = true := by decide +kernel
theorem dL_law__4 : decode cL_law_ 4 = .ok (.invokespecial 110, 3) := by decide +kernel
theorem dL_law__12 : decode cL_law_ 12 = .ok (.invokespecial 113, 3) := by decide +kernel
theorem dL_law__200 : decode cL_law_ 200 = .ok (.invokestatic 114, 3) := by decide +kernel
theorem dL_law__212 : decode cL_law_ 212 = .ok (.invokevirtual 119, 3) := by decide +kernel
theorem dL_law__218 : decode cL_law_ 218 = .ok (.invokevirtual 120, 3) := by decide +kernel
theorem dL_law__263 : decode cL_law_ 263 = .ok (.invokevirtual 124, 3) := by decide +kernel
theorem dL_law__281 : decode cL_law_ 281 = .ok (.invokevirtual 128, 3) := by decide +kernel
theorem dL_law__320 : decode cL_law_ 320 = .ok (.invokevirtual 129, 3) := by decide +kernel
theorem dL_law__354 : decode cL_law_ 354 = .ok (.invokevirtual 133, 3) := by decide +kernel
theorem dL_law__382 : decode cL_law_ 382 = .ok (.invokestatic 134, 3) := by decide +kernel
theorem dL_law__406 : decode cL_law_ 406 = .ok (.invokevirtual 137, 3) := by decide +kernel
theorem dL_law__412 : decode cL_law_ 412 = .ok (.invokevirtual 120, 3) := by decide +kernel
theorem dL_law__443 : decode cL_law_ 443 = .ok (.invokevirtual 138, 3) := by decide +kernel
theorem dL_law__447 : decode cL_law_ 447 = .ok (.invokevirtual 141, 3) := by decide +kernel
theorem dL_law__463 : decode cL_law_ 463 = .ok (.invokestatic 142, 3) := by decide +kernel
theorem dL_law__475 : decode cL_law_ 475 = .ok (.invokevirtual 144, 3) := by decide +kernel
theorem dL_law__481 : decode cL_law_ 481 = .ok (.invokevirtual 120, 3) := by decide +kernel
theorem dL_law__519 : decode cL_law_ 519 = .ok (.invokestatic 145, 3) := by decide +kernel
theorem dL_law__531 : decode cL_law_ 531 = .ok (.invokevirtual 147, 3) := by decide +kernel
theorem dL_law__537 : decode cL_law_ 537 = .ok (.invokevirtual 120, 3) := by decide +kernel
theorem dL_law__575 : decode cL_law_ 575 = .ok (.invokestatic 148, 3) := by decide +kernel
theorem dL_law__587 : decode cL_law_ 587 = .ok (.invokevirtual 150, 3) := by decide +kernel
theorem dL_law__593 : decode cL_law_ 593 = .ok (.invokevirtual 120, 3) := by decide +kernel
theorem dL_law__631 : decode cL_law_ 631 = .ok (.invokestatic 151, 3) := by decide +kernel
theorem dL_law__643 : decode cL_law_ 643 = .ok (.invokevirtual 153, 3) := by decide +kernel
theorem dL_law__649 : decode cL_law_ 649 = .ok (.invokevirtual 120, 3) := by decide +kernel
theorem dL_law__693 : decode cL_law_ 693 = .ok (.invokestatic 154, 3) := by decide +kernel
theorem dL_law__711 : decode cL_law_ 711 = .ok (.invokevirtual 157, 3) := by decide +kernel
theorem dL_law__717 : decode cL_law_ 717 = .ok (.invokevirtual 120, 3) := by decide +kernel
theorem dL_law__761 : decode cL_law_ 761 = .ok (.invokestatic 158, 3) := by decide +kernel
theorem dL_law__779 : decode cL_law_ 779 = .ok (.invokevirtual 160, 3) := by decide +kernel
theorem dL_law__785 : decode cL_law_ 785 = .ok (.invokevirtual 120, 3) := by decide +kernel
theorem dL_law__823 : decode cL_law_ 823 = .ok (.invokestatic 161, 3) := by decide +kernel
theorem dL_law__835 : decode cL_law_ 835 = .ok (.invokevirtual 163, 3) := by decide +kernel
theorem dL_law__841 : decode cL_law_ 841 = .ok (.invokevirtual 120, 3) := by decide +kernel
theorem dL_law__899 : decode cL_law_ 899 = .ok (.invokestatic 164, 3) := by decide +kernel
theorem dL_law__931 : decode cL_law_ 931 = .ok (.invokevirtual 167, 3) := by decide +kernel
theorem dL_law__937 : decode cL_law_ 937 = .ok (.invokevirtual 120, 3) := by decide +kernel
theorem dL_law__975 : decode cL_law_ 975 = .ok (.invokestatic 168, 3) := by decide +kernel
theorem dL_law__987 : decode cL_law_ 987 = .ok (.invokevirtual 170, 3) := by decide +kernel
theorem dL_law__993 : decode cL_law_ 993 = .ok (.invokevirtual 120, 3) := by decide +kernel
theorem dL_law__1037 : decode cL_law_ 1037 = .ok (.invokestatic 171, 3) := by decide +kernel
theorem dL_law__1055 : decode cL_law_ 1055 = .ok (.invokevirtual 173, 3) := by decide +kernel
theorem dL_law__1061 : decode cL_law_ 1061 = .ok (.invokevirtual 120, 3) := by decide +kernel
theorem dL_law__1105 : decode cL_law_ 1105 = .ok (.invokestatic 174, 3) := by decide +kernel
theorem dL_law__1123 : decode cL_law_ 1123 = .ok (.invokevirtual 176, 3) := by decide +kernel
theorem dL_law__1129 : decode cL_law_ 1129 = .ok (.invokevirtual 120, 3) := by decide +kernel
theorem dL_law__1181 : decode cL_law_ 1181 = .ok (.invokestatic 177, 3) := by decide +kernel
theorem dL_law__1207 : decode cL_law_ 1207 = .ok (.invokevirtual 180, 3) := by decide +kernel
theorem dL_law__1213 : decode cL_law_ 1213 = .ok (.invokevirtual 120, 3) := by decide +kernel
theorem dL_law__1257 : decode cL_law_ 1257 = .ok (.invokestatic 181, 3) := by decide +kernel
theorem dL_law__1275 : decode cL_law_ 1275 = .ok (.invokevirtual 183, 3) := by decide +kernel
theorem dL_law__1281 : decode cL_law_ 1281 = .ok (.invokevirtual 120, 3) := by decide +kernel
theorem dL_law__1325 : decode cL_law_ 1325 = .ok (.invokestatic 184, 3) := by decide +kernel
theorem dL_law__1343 : decode cL_law_ 1343 = .ok (.invokevirtual 186, 3) := by decide +kernel
theorem dL_law__1349 : decode cL_law_ 1349 = .ok (.invokevirtual 120, 3) := by decide +kernel
theorem dL_law__1405 : decode cL_law_ 1405 = .ok (.invokestatic 187, 3) := by decide +kernel
theorem dL_law__1435 : decode cL_law_ 1435 = .ok (.invokevirtual 190, 3) := by decide +kernel
theorem dL_law__1441 : decode cL_law_ 1441 = .ok (.invokevirtual 120, 3) := by decide +kernel
theorem dL_law__1497 : decode cL_law_ 1497 = .ok (.invokestatic 191, 3) := by decide +kernel
theorem dL_law__1527 : decode cL_law_ 1527 = .ok (.invokevirtual 193, 3) := by decide +kernel
theorem dL_law__1533 : decode cL_law_ 1533 = .ok (.invokevirtual 120, 3) := by decide +kernel
theorem dL_law__1577 : decode cL_law_ 1577 = .ok (.invokestatic 194, 3) := by decide +kernel
theorem dL_law__1595 : decode cL_law_ 1595 = .ok (.invokevirtual 196, 3) := by decide +kernel
theorem dL_law__1601 : decode cL_law_ 1601 = .ok (.invokevirtual 120, 3) := by decide +kernel
theorem dL_law__1645 : decode cL_law_ 1645 = .ok (.invokestatic 197, 3) := by decide +kernel
theorem dL_law__1663 : decode cL_law_ 1663 = .ok (.invokevirtual 199, 3) := by decide +kernel
theorem dL_law__1669 : decode cL_law_ 1669 = .ok (.invokevirtual 120, 3) := by decide +kernel
theorem dL_law__1725 : decode cL_law_ 1725 = .ok (.invokestatic 200, 3) := by decide +kernel
theorem dL_law__1755 : decode cL_law_ 1755 = .ok (.invokevirtual 202, 3) := by decide +kernel
theorem dL_law__1761 : decode cL_law_ 1761 = .ok (.invokevirtual 120, 3) := by decide +kernel
theorem dL_law__1811 : decode cL_law_ 1811 = .ok (.invokestatic 203, 3) := by decide +kernel
theorem dL_law__1835 : decode cL_law_ 1835 = .ok (.invokevirtual 205, 3) := by decide +kernel
theorem dL_law__1841 : decode cL_law_ 1841 = .ok (.invokevirtual 120, 3) := by decide +kernel
theorem dL_law__1891 : decode cL_law_ 1891 = .ok (.invokestatic 206, 3) := by decide +kernel
theorem dL_law__1915 : decode cL_law_ 1915 = .ok (.invokevirtual 208, 3) := by decide +kernel
theorem dL_law__1921 : decode cL_law_ 1921 = .ok (.invokevirtual 120, 3) := by decide +kernel
theorem dL_law__1964 : decode cL_law_ 1964 = .ok (.invokestatic 209, 3) := by decide +kernel
theorem dL_law__1982 : decode cL_law_ 1982 = .ok (.invokevirtual 211, 3) := by decide +kernel
theorem dL_law__1988 : decode cL_law_ 1988 = .ok (.invokevirtual 120, 3) := by decide +kernel
theorem dL_law__2031 : decode cL_law_ 2031 = .ok (.invokestatic 212, 3) := by decide +kernel
theorem dL_law__2049 : decode cL_law_ 2049 = .ok (.invokevirtual 214, 3) := by decide +kernel
theorem dL_law__2055 : decode cL_law_ 2055 = .ok (.invokevirtual 120, 3) := by decide +kernel
theorem dL_law__2105 : decode cL_law_ 2105 = .ok (.invokestatic 215, 3) := by decide +kernel
theorem dL_law__2129 : decode cL_law_ 2129 = .ok (.invokevirtual 217, 3) := by decide +kernel
theorem dL_law__2135 : decode cL_law_ 2135 = .ok (.invokevirtual 120, 3) := by decide +kernel
theorem dL_law__2179 : decode cL_law_ 2179 = .ok (.invokestatic 218, 3) := by decide +kernel
theorem dL_law__2197 : decode cL_law_ 2197 = .ok (.invokevirtual 220, 3) := by decide +kernel
theorem dL_law__2203 : decode cL_law_ 2203 = .ok (.invokevirtual 120, 3) := by decide +kernel
theorem dL_law__2246 : decode cL_law_ 2246 = .ok (.invokevirtual 221, 3) := by decide +kernel
theorem dL_law__2262 : decode cL_law_ 2262 = .ok (.invokevirtual 224, 3) := by decide +kernel
theorem dL_law__2284 : decode cL_law_ 2284 = .ok (.invokestatic 225, 3) := by decide +kernel
theorem dL_law__2302 : decode cL_law_ 2302 = .ok (.invokevirtual 227, 3) := by decide +kernel
theorem dL_law__2308 : decode cL_law_ 2308 = .ok (.invokevirtual 120, 3) := by decide +kernel
theorem dL_law__2358 : decode cL_law_ 2358 = .ok (.invokestatic 228, 3) := by decide +kernel
theorem dL_law__2382 : decode cL_law_ 2382 = .ok (.invokevirtual 230, 3) := by decide +kernel
theorem dL_law__2388 : decode cL_law_ 2388 = .ok (.invokevirtual 120, 3) := by decide +kernel
theorem dL_law__2425 : decode cL_law_ 2425 = .ok (.invokevirtual 231, 3) := by decide +kernel
theorem dL_law__2435 : decode cL_law_ 2435 = .ok (.invokevirtual 234, 3) := by decide +kernel
