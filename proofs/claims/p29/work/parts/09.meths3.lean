def bs_X9_suspects : en_Bs := [
  (0, [(.iconst 0, 1, 0, 0, 0), (.istore_n 1, 1, 0, 0, 0), (.iconst 0, 1, 0, 0, 0), (.istore_n 2, 1, 0, 0, 0)]),
  (4, [(.iload_n 2, 1, 0, 0, 0), (.aload_n 0, 1, 0, 0, 0), (.getfield 9, 3, 9, 0, 217), (.getfield 32, 3, 0, 0, 88), (.if_icmp .ge 23, 3, 35, 0, 0)]),
  (15, [(.aload_n 0, 1, 0, 0, 0), (.iload_n 2, 1, 0, 0, 0), (.invokevirtual 43, 3, 99, 2, 1114)]),
  (20, [(.ifCond .eq 9, 3, 29, 0, 0)]),
  (23, [(.iload_n 1, 1, 0, 0, 0), (.iconst 1, 1, 0, 0, 0), (.iload_n 2, 1, 0, 0, 0), (.ishl, 1, 0, 0, 0), (.ior, 1, 0, 0, 0), (.istore_n 1, 1, 0, 0, 0)]),
  (29, [(.iinc 2 1, 3, 0, 0, 0), (.goto (-28), 3, 4, 0, 0)]),
  (35, [(.iload_n 1, 1, 0, 0, 0), (.ireturn, 1, 0, 0, 0)])]
set_option maxRecDepth 20000 in
theorem ck_X9_suspects : en_ck 98 bs_X9_suspects = true := en_ckF_ok (J := (yX9_suspects, cX9_suspects, 3, some .int, 9, 0)) (q := (1113, 1111, 1220, 6)) rfl rfl rfl (by decide +kernel)
def bs_X9_fitsSigns : en_Bs := [
  (0, [(.iconst 0, 1, 0, 0, 0), (.istore_n 2, 1, 0, 0, 0)]),
  (2, [(.iload_n 2, 1, 0, 0, 0), (.aload_n 0, 1, 0, 0, 0), (.getfield 9, 3, 9, 0, 217), (.getfield 47, 3, 0, 12, 123), (.if_icmp .ge 43, 3, 53, 0, 0)]),
  (13, [(.iload_n 2, 1, 0, 0, 0), (.bipush 8, 2, 0, 0, 0), (.if_icmp .ge 37, 3, 53, 0, 0)]),
  (19, [(.aload_n 0, 1, 0, 0, 0), (.iload_n 1, 1, 0, 0, 0), (.aload_n 0, 1, 0, 0, 0), (.getfield 9, 3, 9, 0, 217), (.getfield 50, 3, 0, 14, 129), (.iload_n 2, 1, 0, 0, 0), (.iaload, 1, 0, 0, 0), (.invokevirtual 29, 3, 102, 3, 776)]),
  (33, [(.aload_n 0, 1, 0, 0, 0), (.getfield 9, 3, 9, 0, 217), (.getfield 54, 3, 0, 13, 126), (.iload_n 2, 1, 0, 0, 0), (.iaload, 1, 0, 0, 0), (.if_icmp .eq 5, 3, 47, 0, 0)]),
  (45, [(.iconst 0, 1, 0, 0, 0), (.ireturn, 1, 0, 0, 0)]),
  (47, [(.iinc 2 1, 3, 0, 0, 0), (.goto (-48), 3, 2, 0, 0)]),
  (53, [(.iconst 1, 1, 0, 0, 0), (.ireturn, 1, 0, 0, 0)])]
set_option maxRecDepth 20000 in
theorem ck_X9_fitsSigns : en_ck 99 bs_X9_fitsSigns = true := en_ckF_ok (J := (yX9_fitsSigns, cX9_fitsSigns, 3, some .boolean, 9, 0)) (q := (1117, 1116, 49, 6)) rfl rfl rfl (by decide +kernel)
def bs_X9_meeting : en_Bs := [
  (0, [(.iload_n 1, 1, 0, 0, 0), (.istore 4, 2, 0, 0, 0), (.iload_n 2, 1, 0, 0, 0), (.istore 5, 2, 0, 0, 0), (.iconst 0, 1, 0, 0, 0), (.istore 6, 2, 0, 0, 0)]),
  (9, [(.iload 6, 2, 0, 0, 0), (.sipush 144, 3, 0, 0, 0), (.if_icmp .gt 62, 3, 76, 0, 0)]),
  (17, [(.iload 4, 2, 0, 0, 0), (.iconst (-1), 1, 0, 0, 0), (.if_icmp .eq 56, 3, 76, 0, 0)]),
  (23, [(.iload 5, 2, 0, 0, 0), (.iconst (-1), 1, 0, 0, 0), (.if_icmp .eq 50, 3, 76, 0, 0)]),
  (29, [(.iload 4, 2, 0, 0, 0), (.iload 5, 2, 0, 0, 0), (.if_icmp .ne 15, 3, 48, 0, 0)]),
  (36, [(.iload_n 3, 1, 0, 0, 0), (.ifCond .ne 8, 3, 45, 0, 0)]),
  (40, [(.iload 6, 2, 0, 0, 0), (.goto 5, 3, 47, 0, 0)]),
  (45, [(.iload 4, 2, 0, 0, 0)]),
  (47, [(.ireturn, 1, 0, 0, 0)]),
  (48, [(.aload_n 0, 1, 0, 0, 0), (.getfield 9, 3, 9, 0, 217), (.iload 4, 2, 0, 0, 0), (.invokevirtual 40, 3, 12, 2, 780)]),
  (57, [(.istore 4, 2, 0, 0, 0), (.aload_n 0, 1, 0, 0, 0), (.getfield 9, 3, 9, 0, 217), (.iload 5, 2, 0, 0, 0), (.invokevirtual 40, 3, 12, 2, 780)]),
  (68, [(.istore 5, 2, 0, 0, 0), (.iinc 6 1, 3, 0, 0, 0), (.goto (-64), 3, 9, 0, 0)]),
  (76, [(.iconst (-1), 1, 0, 0, 0), (.ireturn, 1, 0, 0, 0)])]
set_option maxRecDepth 20000 in
theorem ck_X9_meeting : en_ck 100 bs_X9_meeting = true := en_ckF_ok (J := (yX9_meeting, cX9_meeting, 7, some .int, 9, 0)) (q := (1125, 1123, 1232, 6)) rfl rfl rfl (by decide +kernel)
def bs_X9_minutesInPieces : en_Bs := [
  (0, [(.aload_n 0, 1, 0, 0, 0), (.getfield 9, 3, 9, 0, 217), (.iload_n 1, 1, 0, 0, 0), (.invokevirtual 15, 3, 14, 2, 773)]),
  (8, [(.istore_n 2, 1, 0, 0, 0), (.aload_n 0, 1, 0, 0, 0), (.getfield 9, 3, 9, 0, 217), (.iload_n 1, 1, 0, 0, 0), (.iconst 1, 1, 0, 0, 0), (.invokevirtual 25, 3, 11, 3, 775)]),
  (18, [(.istore_n 3, 1, 0, 0, 0), (.bipush 9, 2, 0, 0, 0), (.istore 4, 2, 0, 0, 0), (.iconst 0, 1, 0, 0, 0), (.istore 5, 2, 0, 0, 0)]),
  (26, [(.iload 5, 2, 0, 0, 0), (.iload_n 2, 1, 0, 0, 0), (.if_icmp .ge 45, 3, 74, 0, 0)]),
  (32, [(.aload_n 0, 1, 0, 0, 0), (.getfield 9, 3, 9, 0, 217), (.iload_n 3, 1, 0, 0, 0), (.invokevirtual 57, 3, 3, 2, 1096)]),
  (40, [(.ifCond .eq 34, 3, 74, 0, 0)]),
  (43, [(.iload 4, 2, 0, 0, 0), (.aload_n 0, 1, 0, 0, 0), (.getfield 9, 3, 9, 0, 217), (.getfield 60, 3, 0, 2, 97), (.iload_n 3, 1, 0, 0, 0), (.iaload, 1, 0, 0, 0), (.invokestatic 63, 3, 903, 0, 1097), (.istore 4, 2, 0, 0, 0), (.aload_n 0, 1, 0, 0, 0), (.getfield 9, 3, 9, 0, 217), (.iload_n 3, 1, 0, 0, 0), (.invokevirtual 40, 3, 12, 2, 780)]),
  (67, [(.istore_n 3, 1, 0, 0, 0), (.iinc 5 1, 3, 0, 0, 0), (.goto (-45), 3, 26, 0, 0)]),
  (74, [(.iload_n 2, 1, 0, 0, 0), (.ifCond .le 9, 3, 84, 0, 0)]),
  (78, [(.iload 4, 2, 0, 0, 0), (.iconst 1, 1, 0, 0, 0), (.if_icmp .ge 5, 3, 86, 0, 0)]),
  (84, [(.iload_n 2, 1, 0, 0, 0), (.ireturn, 1, 0, 0, 0)]),
  (86, [(.iload_n 2, 1, 0, 0, 0), (.aload_n 0, 1, 0, 0, 0), (.getfield 9, 3, 9, 0, 217), (.iload_n 1, 1, 0, 0, 0), (.iconst 0, 1, 0, 0, 0), (.invokevirtual 25, 3, 11, 3, 775)]),
  (96, [(.iload 4, 2, 0, 0, 0), (.iadd, 1, 0, 0, 0), (.iconst 1, 1, 0, 0, 0), (.isub, 1, 0, 0, 0), (.iload 4, 2, 0, 0, 0), (.idiv, 1, 0, 0, 0), (.iadd, 1, 0, 0, 0), (.iconst 1, 1, 0, 0, 0), (.isub, 1, 0, 0, 0), (.ireturn, 1, 0, 0, 0)])]
set_option maxRecDepth 20000 in
theorem ck_X9_minutesInPieces : en_ck 101 bs_X9_minutesInPieces = true := en_ckF_ok (J := (yX9_minutesInPieces, cX9_minutesInPieces, 6, some .int, 9, 0)) (q := (1095, 1093, 1202, 6)) rfl rfl rfl (by decide +kernel)
def bs_X9_standAfter : en_Bs := [
  (0, [(.iload_n 1, 1, 0, 0, 0), (.istore_n 3, 1, 0, 0, 0), (.iconst 0, 1, 0, 0, 0), (.istore 4, 2, 0, 0, 0)]),
  (5, [(.iload 4, 2, 0, 0, 0), (.iload_n 2, 1, 0, 0, 0), (.if_icmp .ge 23, 3, 31, 0, 0)]),
  (11, [(.iload_n 3, 1, 0, 0, 0), (.iconst (-1), 1, 0, 0, 0), (.if_icmp .eq 18, 3, 31, 0, 0)]),
  (16, [(.aload_n 0, 1, 0, 0, 0), (.getfield 9, 3, 9, 0, 217), (.iload_n 3, 1, 0, 0, 0), (.invokevirtual 40, 3, 12, 2, 780)]),
  (24, [(.istore_n 3, 1, 0, 0, 0), (.iinc 4 1, 3, 0, 0, 0), (.goto (-23), 3, 5, 0, 0)]),
  (31, [(.iload_n 3, 1, 0, 0, 0), (.ireturn, 1, 0, 0, 0)])]
set_option maxRecDepth 20000 in
theorem ck_X9_standAfter : en_ck 102 bs_X9_standAfter = true := en_ckF_ok (J := (yX9_standAfter, cX9_standAfter, 5, some .int, 9, 0)) (q := (779, 778, 20, 6)) rfl rfl rfl (by decide +kernel)
def bs_X10_init : en_Bs := [
  (0, [(.aload_n 0, 1, 0, 0, 0), (.invokespecial 1, 3, 900, 0, 26), (.aload_n 0, 1, 0, 0, 0), (.new 7, 3, 0, 0, 29), (.dup, 1, 0, 0, 0), (.invokespecial 9, 3, 1, 1, 31)]),
  (12, [(.putfield 10, 3, 10, 0, 408), (.aload_n 0, 1, 0, 0, 0), (.iconst 2, 1, 0, 0, 0), (.anewarray 7, 3, 4, 0, 29), (.putfield 16, 3, 10, 1, 409), (.iconst 0, 1, 0, 0, 0), (.istore_n 1, 1, 0, 0, 0)]),
  (25, [(.iload_n 1, 1, 0, 0, 0), (.iconst 2, 1, 0, 0, 0), (.if_icmp .ge 22, 3, 49, 0, 0)]),
  (30, [(.aload_n 0, 1, 0, 0, 0), (.getfield 16, 3, 10, 1, 409), (.iload_n 1, 1, 0, 0, 0), (.new 7, 3, 0, 0, 29), (.dup, 1, 0, 0, 0), (.invokespecial 9, 3, 1, 1, 31)]),
  (42, [(.aastore, 1, 0, 0, 0), (.iinc 1 1, 3, 0, 0, 0), (.goto (-21), 3, 25, 0, 0)]),
  (49, [(.aload_n 0, 1, 0, 0, 0), (.iconst 2, 1, 0, 0, 0), (.newarray .boolean, 2, 0, 0, 0), (.putfield 20, 3, 10, 2, 410), (.aload_n 0, 1, 0, 0, 0), (.new 24, 3, 8, 0, 163), (.dup, 1, 0, 0, 0), (.invokespecial 26, 3, 92, 1, 5001)]),
  (64, [(.putfield 27, 3, 10, 3, 411), (.aload_n 0, 1, 0, 0, 0), (.new 31, 3, 5, 0, 179), (.dup, 1, 0, 0, 0), (.aload_n 0, 1, 0, 0, 0), (.getfield 27, 3, 10, 3, 411), (.invokespecial 33, 3, 62, 2, 181)]),
  (79, [(.putfield 36, 3, 10, 4, 412), (.aload_n 0, 1, 0, 0, 0), (.new 40, 3, 9, 0, 211), (.dup, 1, 0, 0, 0), (.aload_n 0, 1, 0, 0, 0), (.getfield 10, 3, 10, 0, 408), (.invokespecial 42, 3, 95, 2, 213)]),
  (94, [(.putfield 45, 3, 10, 5, 413), (.new 49, 3, 3, 0, 221), (.dup, 1, 0, 0, 0), (.aload_n 0, 1, 0, 0, 0), (.getfield 10, 3, 10, 0, 408), (.invokespecial 51, 3, 50, 2, 223)]),
  (108, [(.astore_n 1, 1, 0, 0, 0), (.aload_n 0, 1, 0, 0, 0), (.new 52, 3, 1, 0, 241), (.dup, 1, 0, 0, 0), (.aload_n 0, 1, 0, 0, 0), (.getfield 10, 3, 10, 0, 408), (.aload_n 1, 1, 0, 0, 0), (.invokespecial 54, 3, 15, 3, 243)]),
  (122, [(.putfield 57, 3, 10, 6, 414), (.aload_n 0, 1, 0, 0, 0), (.new 52, 3, 1, 0, 241), (.dup, 1, 0, 0, 0), (.aload_n 0, 1, 0, 0, 0), (.getfield 10, 3, 10, 0, 408), (.aload_n 1, 1, 0, 0, 0), (.invokespecial 54, 3, 15, 3, 243)]),
  (138, [(.putfield 61, 3, 10, 7, 415), (.aload_n 0, 1, 0, 0, 0), (.new 64, 3, 7, 0, 312), (.dup, 1, 0, 0, 0), (.aload_n 0, 1, 0, 0, 0), (.getfield 10, 3, 10, 0, 408), (.aload_n 0, 1, 0, 0, 0), (.getfield 61, 3, 10, 7, 415), (.invokespecial 66, 3, 83, 3, 314)]),
  (157, [(.putfield 69, 3, 10, 8, 416), (.aload_n 0, 1, 0, 0, 0), (.new 73, 3, 6, 0, 337), (.dup, 1, 0, 0, 0), (.aload_n 0, 1, 0, 0, 0), (.getfield 10, 3, 10, 0, 408), (.aload_n 0, 1, 0, 0, 0), (.getfield 61, 3, 10, 7, 415), (.invokespecial 75, 3, 79, 3, 339)]),
  (176, [(.putfield 76, 3, 10, 9, 417), (.aload_n 0, 1, 0, 0, 0), (.new 80, 3, 2, 0, 362), (.dup, 1, 0, 0, 0), (.aload_n 0, 1, 0, 0, 0), (.getfield 10, 3, 10, 0, 408), (.aload_n 1, 1, 0, 0, 0), (.invokespecial 82, 3, 37, 3, 364)]),
  (192, [(.putfield 83, 3, 10, 10, 418), (.aload_n 0, 1, 0, 0, 0), (.bipush 8, 2, 0, 0, 0), (.newarray .int, 2, 0, 0, 0), (.putfield 87, 3, 10, 11, 419), (.aload_n 0, 1, 0, 0, 0), (.bipush 8, 2, 0, 0, 0), (.newarray .int, 2, 0, 0, 0), (.putfield 91, 3, 10, 12, 420), (.aload_n 0, 1, 0, 0, 0), (.bipush 7, 2, 0, 0, 0), (.newarray .int, 2, 0, 0, 0), (.putfield 94, 3, 10, 13, 421), (.return_, 1, 0, 0, 0)])]
set_option maxRecDepth 20000 in
theorem ck_X10_init : en_ck 103 bs_X10_init = true := en_ckF_ok (J := (yX10_init, cX10_init, 2, none, 10, 0)) (q := (25, 24, 0, 1)) rfl rfl rfl (by decide +kernel)
def bs_X10_stand : en_Bs := [
  (0, [(.iload_n 1, 1, 0, 0, 0), (.iconst (-1), 1, 0, 0, 0), (.bipush 11, 2, 0, 0, 0), (.invokestatic 97, 3, 154, 3, 467)]),
  (7, [(.ifCond .eq 17, 3, 24, 0, 0)]),
  (10, [(.iload_n 2, 1, 0, 0, 0), (.invokestatic 101, 3, 152, 1, 470)]),
  (14, [(.ifCond .eq 10, 3, 24, 0, 0)]),
  (17, [(.iload_n 3, 1, 0, 0, 0), (.invokestatic 105, 3, 153, 1, 473)]),
  (21, [(.ifCond .ne 9, 3, 30, 0, 0)]),
  (24, [(.aload_n 0, 1, 0, 0, 0), (.iconst (-1), 1, 0, 0, 0), (.invokevirtual 108, 3, 144, 2, 476)]),
  (29, [(.ireturn, 1, 0, 0, 0)]),
  (30, [(.aload_n 0, 1, 0, 0, 0), (.getfield 10, 3, 10, 0, 408), (.getfield 112, 3, 0, 0, 86), (.bipush 12, 2, 0, 0, 0), (.if_icmp .lt 10, 3, 49, 0, 0)]),
  (42, [(.aload_n 0, 1, 0, 0, 0), (.bipush (-5), 2, 0, 0, 0), (.invokevirtual 108, 3, 144, 2, 476)]),
  (48, [(.ireturn, 1, 0, 0, 0)]),
  (49, [(.aload_n 0, 1, 0, 0, 0), (.invokevirtual 116, 3, 146, 1, 480)]),
  (53, [(.aload_n 0, 1, 0, 0, 0), (.aload_n 0, 1, 0, 0, 0), (.getfield 10, 3, 10, 0, 408), (.iload_n 1, 1, 0, 0, 0), (.iload_n 2, 1, 0, 0, 0), (.iload_n 3, 1, 0, 0, 0), (.invokevirtual 119, 3, 5, 4, 496)]),
  (64, [(.invokevirtual 123, 3, 145, 2, 500)]),
  (67, [(.ireturn, 1, 0, 0, 0)])]
set_option maxRecDepth 20000 in
theorem ck_X10_stand : en_ck 104 bs_X10_stand = true := en_ckF_ok (J := (yX10_stand, cX10_stand, 4, some .int, 10, 0)) (q := (466, 464, 573, 1)) rfl rfl rfl (by decide +kernel)
def bs_X10_put : en_Bs := [
  (0, [(.iload_n 2, 1, 0, 0, 0), (.ifCond .ne 13, 3, 14, 0, 0)]),
  (4, [(.iload_n 3, 1, 0, 0, 0), (.iconst (-1), 1, 0, 0, 0), (.bipush 11, 2, 0, 0, 0), (.invokestatic 97, 3, 154, 3, 467)]),
  (11, [(.ifCond .ne 27, 3, 38, 0, 0)]),
  (14, [(.iload_n 2, 1, 0, 0, 0), (.iconst 1, 1, 0, 0, 0), (.if_icmp .ne 10, 3, 26, 0, 0)]),
  (19, [(.iload_n 3, 1, 0, 0, 0), (.invokestatic 101, 3, 152, 1, 470)]),
  (23, [(.ifCond .ne 15, 3, 38, 0, 0)]),
  (26, [(.iload_n 2, 1, 0, 0, 0), (.iconst 2, 1, 0, 0, 0), (.if_icmp .ne 14, 3, 42, 0, 0)]),
  (31, [(.iload_n 3, 1, 0, 0, 0), (.invokestatic 105, 3, 153, 1, 473)]),
  (35, [(.ifCond .eq 7, 3, 42, 0, 0)]),
  (38, [(.iconst 1, 1, 0, 0, 0), (.goto 4, 3, 43, 0, 0)]),
  (42, [(.iconst 0, 1, 0, 0, 0)]),
  (43, [(.istore 4, 2, 0, 0, 0), (.iload 4, 2, 0, 0, 0), (.ifCond .ne 9, 3, 56, 0, 0)]),
  (50, [(.aload_n 0, 1, 0, 0, 0), (.iconst (-1), 1, 0, 0, 0), (.invokevirtual 108, 3, 144, 2, 476)]),
  (55, [(.ireturn, 1, 0, 0, 0)]),
  (56, [(.aload_n 0, 1, 0, 0, 0), (.getfield 10, 3, 10, 0, 408), (.iload_n 1, 1, 0, 0, 0), (.invokevirtual 126, 3, 3, 2, 508)]),
  (64, [(.ifCond .ne 10, 3, 74, 0, 0)]),
  (67, [(.aload_n 0, 1, 0, 0, 0), (.bipush (-2), 2, 0, 0, 0), (.invokevirtual 108, 3, 144, 2, 476)]),
  (73, [(.ireturn, 1, 0, 0, 0)]),
  (74, [(.iload_n 2, 1, 0, 0, 0), (.ifCond .ne 13, 3, 88, 0, 0)]),
  (78, [(.aload_n 0, 1, 0, 0, 0), (.getfield 10, 3, 10, 0, 408), (.getfield 129, 3, 0, 1, 93), (.goto 25, 3, 110, 0, 0)]),
  (88, [(.iload_n 2, 1, 0, 0, 0), (.iconst 1, 1, 0, 0, 0), (.if_icmp .ne 13, 3, 103, 0, 0)]),
  (93, [(.aload_n 0, 1, 0, 0, 0), (.getfield 10, 3, 10, 0, 408), (.getfield 132, 3, 0, 2, 96), (.goto 10, 3, 110, 0, 0)]),
  (103, [(.aload_n 0, 1, 0, 0, 0), (.getfield 10, 3, 10, 0, 408), (.getfield 135, 3, 0, 3, 101)]),
  (110, [(.astore 5, 2, 0, 0, 0), (.aload 5, 2, 0, 0, 0), (.iload_n 1, 1, 0, 0, 0), (.iaload, 1, 0, 0, 0), (.istore 6, 2, 0, 0, 0), (.aload 5, 2, 0, 0, 0), (.iload_n 1, 1, 0, 0, 0), (.iload_n 3, 1, 0, 0, 0), (.iastore, 1, 0, 0, 0), (.aload_n 0, 1, 0, 0, 0), (.invokevirtual 116, 3, 146, 1, 480)]),
  (127, [(.aload_n 0, 1, 0, 0, 0), (.iload 6, 2, 0, 0, 0), (.invokevirtual 123, 3, 145, 2, 500)]),
  (133, [(.ireturn, 1, 0, 0, 0)])]
set_option maxRecDepth 20000 in
theorem ck_X10_put : en_ck 105 bs_X10_put = true := en_ckF_ok (J := (yX10_put, cX10_put, 7, some .int, 10, 0)) (q := (507, 505, 614, 1)) rfl rfl rfl (by decide +kernel)
def bs_X10_of : en_Bs := [
  (0, [(.aload_n 0, 1, 0, 0, 0), (.getfield 10, 3, 10, 0, 408), (.iload_n 1, 1, 0, 0, 0), (.invokevirtual 126, 3, 3, 2, 508)]),
  (8, [(.ifCond .ne 5, 3, 13, 0, 0)]),
  (11, [(.iconst (-1), 1, 0, 0, 0), (.ireturn, 1, 0, 0, 0)]),
  (13, [(.iload_n 2, 1, 0, 0, 0), (.tableswitch 69 0 3 #[30, 40, 50, 60], 30, 0, 0, 0)]),
  (44, [(.aload_n 0, 1, 0, 0, 0), (.getfield 10, 3, 10, 0, 408), (.getfield 129, 3, 0, 1, 93), (.iload_n 1, 1, 0, 0, 0), (.iaload, 1, 0, 0, 0), (.ireturn, 1, 0, 0, 0)]),
  (54, [(.aload_n 0, 1, 0, 0, 0), (.getfield 10, 3, 10, 0, 408), (.getfield 132, 3, 0, 2, 96), (.iload_n 1, 1, 0, 0, 0), (.iaload, 1, 0, 0, 0), (.ireturn, 1, 0, 0, 0)]),
  (64, [(.aload_n 0, 1, 0, 0, 0), (.getfield 10, 3, 10, 0, 408), (.getfield 135, 3, 0, 3, 101), (.iload_n 1, 1, 0, 0, 0), (.iaload, 1, 0, 0, 0), (.ireturn, 1, 0, 0, 0)]),
  (74, [(.aload_n 0, 1, 0, 0, 0), (.getfield 10, 3, 10, 0, 408), (.iload_n 1, 1, 0, 0, 0), (.invokevirtual 138, 3, 12, 2, 516)]),
  (82, [(.ireturn, 1, 0, 0, 0)]),
  (83, [(.iconst (-1), 1, 0, 0, 0), (.ireturn, 1, 0, 0, 0)])]
set_option maxRecDepth 20000 in
theorem ck_X10_of : en_ck 106 bs_X10_of = true := en_ckF_ok (J := (yX10_of, cX10_of, 3, some .int, 10, 0)) (q := (515, 513, 622, 1)) rfl rfl rfl (by decide +kernel)
def bs_X10_load : en_Bs := [
  (0, [(.aload_n 0, 1, 0, 0, 0), (.iload_n 1, 1, 0, 0, 0), (.iload_n 2, 1, 0, 0, 0), (.iload_n 3, 1, 0, 0, 0), (.iload 4, 2, 0, 0, 0), (.iload 5, 2, 0, 0, 0), (.iload 6, 2, 0, 0, 0), (.invokevirtual 141, 3, 149, 7, 525)]),
  (13, [(.istore 7, 2, 0, 0, 0), (.iload 7, 2, 0, 0, 0), (.ifCond .eq 10, 3, 27, 0, 0)]),
  (20, [(.aload_n 0, 1, 0, 0, 0), (.iload 7, 2, 0, 0, 0), (.invokevirtual 108, 3, 144, 2, 476)]),
  (26, [(.ireturn, 1, 0, 0, 0)]),
  (27, [(.aload_n 0, 1, 0, 0, 0), (.invokevirtual 116, 3, 146, 1, 480)]),
  (31, [(.aload_n 0, 1, 0, 0, 0), (.aload_n 0, 1, 0, 0, 0), (.getfield 10, 3, 10, 0, 408), (.iload_n 1, 1, 0, 0, 0), (.iload_n 2, 1, 0, 0, 0), (.iload_n 3, 1, 0, 0, 0), (.iload 4, 2, 0, 0, 0), (.iload 5, 2, 0, 0, 0), (.iload 6, 2, 0, 0, 0), (.invokevirtual 145, 3, 6, 7, 529)]),
  (48, [(.invokevirtual 123, 3, 145, 2, 500)]),
  (51, [(.ireturn, 1, 0, 0, 0)])]
set_option maxRecDepth 20000 in
theorem ck_X10_load : en_ck 107 bs_X10_load = true := en_ckF_ok (J := (yX10_load, cX10_load, 8, some .int, 10, 0)) (q := (524, 522, 631, 1)) rfl rfl rfl (by decide +kernel)
def bs_X10_fact : en_Bs := [
  (0, [(.aload_n 0, 1, 0, 0, 0), (.getfield 10, 3, 10, 0, 408), (.iload_n 1, 1, 0, 0, 0), (.invokevirtual 148, 3, 4, 2, 537)]),
  (8, [(.ifCond .eq 24, 3, 32, 0, 0)]),
  (11, [(.iload_n 2, 1, 0, 0, 0), (.iconst 0, 1, 0, 0, 0), (.iconst 5, 1, 0, 0, 0), (.invokestatic 97, 3, 154, 3, 467)]),
  (17, [(.ifCond .eq 15, 3, 32, 0, 0)]),
  (20, [(.aload_n 0, 1, 0, 0, 0), (.getfield 10, 3, 10, 0, 408), (.iload_n 1, 1, 0, 0, 0), (.iload_n 2, 1, 0, 0, 0), (.invokevirtual 151, 3, 11, 3, 541)]),
  (29, [(.goto 4, 3, 33, 0, 0)]),
  (32, [(.iconst (-1), 1, 0, 0, 0)]),
  (33, [(.ireturn, 1, 0, 0, 0)])]
set_option maxRecDepth 20000 in
theorem ck_X10_fact : en_ck 108 bs_X10_fact = true := en_ckF_ok (J := (yX10_fact, cX10_fact, 3, some .int, 10, 0)) (q := (536, 534, 643, 1)) rfl rfl rfl (by decide +kernel)
def bs_X10_drop : en_Bs := [
  (0, [(.aload_n 0, 1, 0, 0, 0), (.getfield 10, 3, 10, 0, 408), (.iload_n 1, 1, 0, 0, 0), (.invokevirtual 148, 3, 4, 2, 537)]),
  (8, [(.ifCond .ne 10, 3, 18, 0, 0)]),
  (11, [(.aload_n 0, 1, 0, 0, 0), (.bipush (-2), 2, 0, 0, 0), (.invokevirtual 108, 3, 144, 2, 476)]),
  (17, [(.ireturn, 1, 0, 0, 0)]),
  (18, [(.aload_n 0, 1, 0, 0, 0), (.getfield 10, 3, 10, 0, 408), (.iload_n 1, 1, 0, 0, 0), (.invokevirtual 155, 3, 7, 2, 549)]),
  (26, [(.aload_n 0, 1, 0, 0, 0), (.invokevirtual 116, 3, 146, 1, 480)]),
  (30, [(.aload_n 0, 1, 0, 0, 0), (.aload_n 0, 1, 0, 0, 0), (.getfield 10, 3, 10, 0, 408), (.getfield 159, 3, 0, 4, 106), (.invokevirtual 123, 3, 145, 2, 500)]),
  (41, [(.ireturn, 1, 0, 0, 0)])]
set_option maxRecDepth 20000 in
theorem ck_X10_drop : en_ck 109 bs_X10_drop = true := en_ckF_ok (J := (yX10_drop, cX10_drop, 2, some .int, 10, 0)) (q := (548, 546, 655, 1)) rfl rfl rfl (by decide +kernel)
def bs_X10_terms : en_Bs := [
  (0, [(.iload_n 1, 1, 0, 0, 0), (.ifCond .ne 32, 3, 33, 0, 0)]),
  (4, [(.iload_n 2, 1, 0, 0, 0), (.iconst 0, 1, 0, 0, 0), (.bipush 99, 2, 0, 0, 0), (.invokestatic 97, 3, 154, 3, 467)]),
  (11, [(.ifCond .eq 22, 3, 33, 0, 0)]),
  (14, [(.aload_n 0, 1, 0, 0, 0), (.getfield 10, 3, 10, 0, 408), (.getfield 162, 3, 0, 10, 117), (.istore_n 3, 1, 0, 0, 0), (.aload_n 0, 1, 0, 0, 0), (.getfield 10, 3, 10, 0, 408), (.iload_n 2, 1, 0, 0, 0), (.putfield 162, 3, 0, 10, 117), (.goto 42, 3, 72, 0, 0)]),
  (33, [(.iload_n 1, 1, 0, 0, 0), (.iconst 1, 1, 0, 0, 0), (.if_icmp .ne 31, 3, 66, 0, 0)]),
  (38, [(.iload_n 2, 1, 0, 0, 0), (.iconst 1, 1, 0, 0, 0), (.iconst 4, 1, 0, 0, 0), (.invokestatic 97, 3, 154, 3, 467)]),
  (44, [(.ifCond .eq 22, 3, 66, 0, 0)]),
  (47, [(.aload_n 0, 1, 0, 0, 0), (.getfield 10, 3, 10, 0, 408), (.getfield 165, 3, 0, 11, 120), (.istore_n 3, 1, 0, 0, 0), (.aload_n 0, 1, 0, 0, 0), (.getfield 10, 3, 10, 0, 408), (.iload_n 2, 1, 0, 0, 0), (.putfield 165, 3, 0, 11, 120), (.goto 9, 3, 72, 0, 0)]),
  (66, [(.aload_n 0, 1, 0, 0, 0), (.iconst (-1), 1, 0, 0, 0), (.invokevirtual 108, 3, 144, 2, 476)]),
  (71, [(.ireturn, 1, 0, 0, 0)]),
  (72, [(.aload_n 0, 1, 0, 0, 0), (.invokevirtual 116, 3, 146, 1, 480)]),
  (76, [(.aload_n 0, 1, 0, 0, 0), (.iload_n 3, 1, 0, 0, 0), (.invokevirtual 123, 3, 145, 2, 500)]),
  (81, [(.ireturn, 1, 0, 0, 0)])]
set_option maxRecDepth 20000 in
theorem ck_X10_terms : en_ck 110 bs_X10_terms = true := en_ckF_ok (J := (yX10_terms, cX10_terms, 4, some .int, 10, 0)) (q := (560, 558, 667, 1)) rfl rfl rfl (by decide +kernel)
def bs_X10_feed : en_Bs := [
  (0, [(.aload_n 0, 1, 0, 0, 0), (.getfield 27, 3, 10, 3, 411), (.getfield 168, 3, 8, 1, 171), (.bipush 20, 2, 0, 0, 0), (.iadd, 1, 0, 0, 0), (.sipush 400, 3, 0, 0, 0), (.if_icmp .le 5, 3, 18, 0, 0)]),
  (16, [(.iconst (-1), 1, 0, 0, 0), (.ireturn, 1, 0, 0, 0)]),
  (18, [(.aload_n 0, 1, 0, 0, 0), (.getfield 27, 3, 10, 3, 411), (.iload_n 1, 1, 0, 0, 0), (.invokevirtual 171, 3, 93, 2, 565)]),
  (26, [(.aload_n 0, 1, 0, 0, 0), (.getfield 27, 3, 10, 3, 411), (.iload_n 2, 1, 0, 0, 0), (.invokevirtual 171, 3, 93, 2, 565)]),
  (34, [(.aload_n 0, 1, 0, 0, 0), (.getfield 27, 3, 10, 3, 411), (.iload_n 3, 1, 0, 0, 0), (.invokevirtual 171, 3, 93, 2, 565)]),
  (42, [(.aload_n 0, 1, 0, 0, 0), (.getfield 27, 3, 10, 3, 411), (.iload 4, 2, 0, 0, 0), (.invokevirtual 171, 3, 93, 2, 565)]),
  (51, [(.aload_n 0, 1, 0, 0, 0), (.getfield 27, 3, 10, 3, 411), (.iload 5, 2, 0, 0, 0), (.invokevirtual 171, 3, 93, 2, 565)]),
  (60, [(.aload_n 0, 1, 0, 0, 0), (.getfield 27, 3, 10, 3, 411), (.getfield 168, 3, 8, 1, 171), (.ireturn, 1, 0, 0, 0)])]
set_option maxRecDepth 20000 in
theorem ck_X10_feed : en_ck 111 bs_X10_feed = true := en_ckF_ok (J := (yX10_feed, cX10_feed, 6, some .int, 10, 0)) (q := (564, 562, 671, 1)) rfl rfl rfl (by decide +kernel)
def bs_X10_end : en_Bs := [
  (0, [(.iload_n 1, 1, 0, 0, 0), (.iconst 0, 1, 0, 0, 0), (.aload_n 0, 1, 0, 0, 0), (.getfield 27, 3, 10, 3, 411), (.getfield 168, 3, 8, 1, 171), (.invokestatic 97, 3, 154, 3, 467)]),
  (12, [(.ifCond .ne 5, 3, 17, 0, 0)]),
  (15, [(.iconst (-1), 1, 0, 0, 0), (.ireturn, 1, 0, 0, 0)]),
  (17, [(.aload_n 0, 1, 0, 0, 0), (.getfield 27, 3, 10, 3, 411), (.iload_n 1, 1, 0, 0, 0), (.putfield 168, 3, 8, 1, 171), (.iload_n 1, 1, 0, 0, 0), (.ireturn, 1, 0, 0, 0)])]
set_option maxRecDepth 20000 in
theorem ck_X10_end : en_ck 112 bs_X10_end = true := en_ckF_ok (J := (yX10_end, cX10_end, 2, some .int, 10, 0)) (q := (572, 570, 679, 1)) rfl rfl rfl (by decide +kernel)
def bs_X10_row : en_Bs := [
  (0, [(.aload_n 0, 1, 0, 0, 0), (.getfield 27, 3, 10, 3, 411), (.getfield 168, 3, 8, 1, 171), (.istore_n 1, 1, 0, 0, 0), (.iload_n 1, 1, 0, 0, 0), (.ifCond .ne 10, 3, 19, 0, 0)]),
  (12, [(.aload_n 0, 1, 0, 0, 0), (.bipush (-6), 2, 0, 0, 0), (.invokevirtual 108, 3, 144, 2, 476)]),
  (18, [(.ireturn, 1, 0, 0, 0)]),
  (19, [(.iconst 0, 1, 0, 0, 0), (.istore_n 2, 1, 0, 0, 0), (.iconst 0, 1, 0, 0, 0), (.istore_n 3, 1, 0, 0, 0), (.iconst 0, 1, 0, 0, 0), (.istore 4, 2, 0, 0, 0)]),
  (26, [(.iload 4, 2, 0, 0, 0), (.iload_n 1, 1, 0, 0, 0), (.if_icmp .ge 36, 3, 65, 0, 0)]),
  (32, [(.iload 4, 2, 0, 0, 0), (.bipush 6, 2, 0, 0, 0), (.iadd, 1, 0, 0, 0), (.iload_n 1, 1, 0, 0, 0), (.if_icmp .gt 18, 3, 56, 0, 0)]),
  (41, [(.aload_n 0, 1, 0, 0, 0), (.iload 4, 2, 0, 0, 0), (.invokevirtual 174, 3, 150, 2, 577)]),
  (47, [(.ifCond .eq 9, 3, 56, 0, 0)]),
  (50, [(.iinc 2 1, 3, 0, 0, 0), (.goto 6, 3, 59, 0, 0)]),
  (56, [(.iinc 3 1, 3, 0, 0, 0)]),
  (59, [(.iinc 4 6, 3, 0, 0, 0), (.goto (-36), 3, 26, 0, 0)]),
  (65, [(.aload_n 0, 1, 0, 0, 0), (.getfield 27, 3, 10, 3, 411), (.iconst 0, 1, 0, 0, 0), (.putfield 168, 3, 8, 1, 171), (.aload_n 0, 1, 0, 0, 0), (.iload_n 3, 1, 0, 0, 0), (.putfield 177, 3, 10, 16, 424), (.aload_n 0, 1, 0, 0, 0), (.invokevirtual 116, 3, 146, 1, 480)]),
  (82, [(.aload_n 0, 1, 0, 0, 0), (.iload_n 2, 1, 0, 0, 0), (.invokevirtual 123, 3, 145, 2, 500)]),
  (87, [(.ireturn, 1, 0, 0, 0)])]
set_option maxRecDepth 20000 in
theorem ck_X10_row : en_ck 113 bs_X10_row = true := en_ckF_ok (J := (yX10_row, cX10_row, 5, some .int, 10, 0)) (q := (576, 574, 683, 1)) rfl rfl rfl (by decide +kernel)
def bs_X10_dropped : en_Bs := [
  (0, [(.aload_n 0, 1, 0, 0, 0), (.getfield 177, 3, 10, 16, 424), (.ireturn, 1, 0, 0, 0)])]
set_option maxRecDepth 20000 in
theorem ck_X10_dropped : en_ck 114 bs_X10_dropped = true := en_ckF_ok (J := (yX10_dropped, cX10_dropped, 1, some .int, 10, 0)) (q := (588, 586, 695, 1)) rfl rfl rfl (by decide +kernel)
def bs_X10_law : en_Bs := [
  (0, [(.aload_n 0, 1, 0, 0, 0), (.getfield 10, 3, 10, 0, 408), (.getfield 180, 3, 0, 6, 110), (.bipush 6, 2, 0, 0, 0), (.if_icmp .lt 18, 3, 27, 0, 0)]),
  (12, [(.aload_n 0, 1, 0, 0, 0), (.getfield 27, 3, 10, 3, 411), (.iconst 0, 1, 0, 0, 0), (.putfield 168, 3, 8, 1, 171), (.aload_n 0, 1, 0, 0, 0), (.bipush (-5), 2, 0, 0, 0), (.invokevirtual 108, 3, 144, 2, 476)]),
  (26, [(.ireturn, 1, 0, 0, 0)]),
  (27, [(.aload_n 0, 1, 0, 0, 0), (.getfield 36, 3, 10, 4, 412), (.invokevirtual 183, 3, 63, 1, 593)]),
  (34, [(.istore_n 1, 1, 0, 0, 0), (.aload_n 0, 1, 0, 0, 0), (.getfield 27, 3, 10, 3, 411), (.iconst 0, 1, 0, 0, 0), (.putfield 168, 3, 8, 1, 171), (.iload_n 1, 1, 0, 0, 0), (.ifCond .ne 10, 3, 54, 0, 0)]),
  (47, [(.aload_n 0, 1, 0, 0, 0), (.bipush (-6), 2, 0, 0, 0), (.invokevirtual 108, 3, 144, 2, 476)]),
  (53, [(.ireturn, 1, 0, 0, 0)]),
  (54, [(.aload_n 0, 1, 0, 0, 0), (.aload_n 0, 1, 0, 0, 0), (.getfield 10, 3, 10, 0, 408), (.aload_n 0, 1, 0, 0, 0), (.getfield 36, 3, 10, 4, 412), (.getfield 187, 3, 5, 1, 189), (.invokevirtual 191, 3, 8, 2, 737)]),
  (69, [(.invokevirtual 123, 3, 145, 2, 500)]),
  (72, [(.ireturn, 1, 0, 0, 0)])]
set_option maxRecDepth 20000 in
theorem ck_X10_law : en_ck 115 bs_X10_law = true := en_ckF_ok (J := (yX10_law, cX10_law, 2, some .int, 10, 0)) (q := (592, 590, 699, 1)) rfl rfl rfl (by decide +kernel)
def bs_X10_fault : en_Bs := [
  (0, [(.aload_n 0, 1, 0, 0, 0), (.getfield 36, 3, 10, 4, 412), (.getfield 195, 3, 5, 2, 191), (.ireturn, 1, 0, 0, 0)])]
set_option maxRecDepth 20000 in
theorem ck_X10_fault : en_ck 116 bs_X10_fault = true := en_ckF_ok (J := (yX10_fault, cX10_fault, 1, some .int, 10, 0)) (q := (754, 752, 861, 1)) rfl rfl rfl (by decide +kernel)
def bs_X10_force : en_Bs := [
  (0, [(.iload_n 1, 1, 0, 0, 0), (.iconst (-1), 1, 0, 0, 0), (.if_icmp .eq 27, 3, 29, 0, 0)]),
  (5, [(.iload_n 1, 1, 0, 0, 0), (.iconst 0, 1, 0, 0, 0), (.aload_n 0, 1, 0, 0, 0), (.getfield 10, 3, 10, 0, 408), (.getfield 180, 3, 0, 6, 110), (.iconst 1, 1, 0, 0, 0), (.isub, 1, 0, 0, 0), (.invokestatic 97, 3, 154, 3, 467)]),
  (19, [(.ifCond .ne 10, 3, 29, 0, 0)]),
  (22, [(.aload_n 0, 1, 0, 0, 0), (.bipush (-2), 2, 0, 0, 0), (.invokevirtual 108, 3, 144, 2, 476)]),
  (28, [(.ireturn, 1, 0, 0, 0)]),
  (29, [(.aload_n 0, 1, 0, 0, 0), (.getfield 10, 3, 10, 0, 408), (.getfield 198, 3, 0, 9, 114), (.istore_n 2, 1, 0, 0, 0), (.aload_n 0, 1, 0, 0, 0), (.getfield 10, 3, 10, 0, 408), (.iload_n 1, 1, 0, 0, 0), (.putfield 198, 3, 0, 9, 114), (.aload_n 0, 1, 0, 0, 0), (.invokevirtual 116, 3, 146, 1, 480)]),
  (49, [(.aload_n 0, 1, 0, 0, 0), (.iload_n 2, 1, 0, 0, 0), (.invokevirtual 123, 3, 145, 2, 500)]),
  (54, [(.ireturn, 1, 0, 0, 0)])]
set_option maxRecDepth 20000 in
theorem ck_X10_force : en_ck 117 bs_X10_force = true := en_ckF_ok (J := (yX10_force, cX10_force, 3, some .int, 10, 0)) (q := (758, 756, 865, 1)) rfl rfl rfl (by decide +kernel)
def bs_X10_way : en_Bs := [
  (0, [(.aload_n 0, 1, 0, 0, 0), (.getfield 10, 3, 10, 0, 408), (.iload_n 1, 1, 0, 0, 0), (.invokevirtual 148, 3, 4, 2, 537)]),
  (8, [(.ifCond .ne 5, 3, 13, 0, 0)]),
  (11, [(.iconst (-1), 1, 0, 0, 0), (.ireturn, 1, 0, 0, 0)]),
  (13, [(.iload_n 2, 1, 0, 0, 0), (.iconst (-1), 1, 0, 0, 0), (.if_icmp .ne 14, 3, 29, 0, 0)]),
  (18, [(.aload_n 0, 1, 0, 0, 0), (.getfield 10, 3, 10, 0, 408), (.iload_n 1, 1, 0, 0, 0), (.invokevirtual 201, 3, 14, 2, 763)]),
  (26, [(.goto 12, 3, 38, 0, 0)]),
  (29, [(.aload_n 0, 1, 0, 0, 0), (.getfield 45, 3, 10, 5, 413), (.iload_n 1, 1, 0, 0, 0), (.iload_n 2, 1, 0, 0, 0), (.invokevirtual 204, 3, 96, 3, 769)]),
  (38, [(.ireturn, 1, 0, 0, 0)])]
set_option maxRecDepth 20000 in
theorem ck_X10_way : en_ck 118 bs_X10_way = true := en_ckF_ok (J := (yX10_way, cX10_way, 3, some .int, 10, 0)) (q := (762, 760, 869, 1)) rfl rfl rfl (by decide +kernel)
def bs_X10_enter : en_Bs := [
  (0, [(.aload_n 0, 1, 0, 0, 0), (.getfield 10, 3, 10, 0, 408), (.iload_n 1, 1, 0, 0, 0), (.invokevirtual 126, 3, 3, 2, 508)]),
  (8, [(.ifCond .eq 29, 3, 37, 0, 0)]),
  (11, [(.iload_n 2, 1, 0, 0, 0), (.aload_n 0, 1, 0, 0, 0), (.getfield 10, 3, 10, 0, 408), (.getfield 112, 3, 0, 0, 86), (.invokestatic 207, 3, 156, 2, 785)]),
  (22, [(.ifCond .eq 15, 3, 37, 0, 0)]),
  (25, [(.aload_n 0, 1, 0, 0, 0), (.getfield 45, 3, 10, 5, 413), (.iload_n 1, 1, 0, 0, 0), (.iload_n 2, 1, 0, 0, 0), (.invokevirtual 211, 3, 97, 3, 788)]),
  (34, [(.goto 4, 3, 38, 0, 0)]),
  (37, [(.iconst (-1), 1, 0, 0, 0)]),
  (38, [(.ireturn, 1, 0, 0, 0)])]
set_option maxRecDepth 20000 in
theorem ck_X10_enter : en_ck 119 bs_X10_enter = true := en_ckF_ok (J := (yX10_enter, cX10_enter, 3, some .int, 10, 0)) (q := (784, 782, 891, 1)) rfl rfl rfl (by decide +kernel)
def bs_X10_day : en_Bs := [
  (0, [(.aload_n 0, 1, 0, 0, 0), (.getfield 10, 3, 10, 0, 408), (.iload_n 1, 1, 0, 0, 0), (.invokevirtual 148, 3, 4, 2, 537)]),
  (8, [(.ifCond .ne 5, 3, 13, 0, 0)]),
  (11, [(.iconst (-1), 1, 0, 0, 0), (.ireturn, 1, 0, 0, 0)]),
  (13, [(.aload_n 0, 1, 0, 0, 0), (.invokevirtual 214, 3, 147, 1, 799)]),
  (17, [(.astore_n 3, 1, 0, 0, 0), (.aload_n 3, 1, 0, 0, 0), (.getfield 218, 3, 1, 9, 262), (.iload_n 1, 1, 0, 0, 0), (.iaload, 1, 0, 0, 0), (.istore 4, 2, 0, 0, 0), (.iload_n 2, 1, 0, 0, 0), (.tableswitch 71 0 3 #[29, 32, 57, 64], 29, 0, 0, 0)]),
  (56, [(.iload 4, 2, 0, 0, 0), (.ireturn, 1, 0, 0, 0)]),
  (59, [(.iload 4, 2, 0, 0, 0), (.iconst (-1), 1, 0, 0, 0), (.if_icmp .ne 7, 3, 69, 0, 0)]),
  (65, [(.iconst (-1), 1, 0, 0, 0), (.goto 17, 3, 83, 0, 0)]),
  (69, [(.iconst 0, 1, 0, 0, 0), (.iload 4, 2, 0, 0, 0), (.aload_n 0, 1, 0, 0, 0), (.getfield 10, 3, 10, 0, 408), (.getfield 162, 3, 0, 10, 117), (.isub, 1, 0, 0, 0), (.invokestatic 221, 3, 902, 0, 890)]),
  (83, [(.ireturn, 1, 0, 0, 0)]),
  (84, [(.aload_n 3, 1, 0, 0, 0), (.getfield 226, 3, 1, 8, 260), (.iload_n 1, 1, 0, 0, 0), (.iaload, 1, 0, 0, 0), (.ireturn, 1, 0, 0, 0)]),
  (91, [(.aload_n 3, 1, 0, 0, 0), (.getfield 229, 3, 1, 10, 264), (.iload_n 1, 1, 0, 0, 0), (.iaload, 1, 0, 0, 0), (.ireturn, 1, 0, 0, 0)]),
  (98, [(.iconst (-1), 1, 0, 0, 0), (.ireturn, 1, 0, 0, 0)])]
set_option maxRecDepth 20000 in
theorem ck_X10_day : en_ck 120 bs_X10_day = true := en_ckF_ok (J := (yX10_day, cX10_day, 5, some .int, 10, 0)) (q := (798, 796, 905, 1)) rfl rfl rfl (by decide +kernel)
def bs_X10_where : en_Bs := [
  (0, [(.aload_n 0, 1, 0, 0, 0), (.getfield 10, 3, 10, 0, 408), (.iload_n 1, 1, 0, 0, 0), (.invokevirtual 148, 3, 4, 2, 537)]),
  (8, [(.ifCond .eq 25, 3, 33, 0, 0)]),
  (11, [(.iload_n 2, 1, 0, 0, 0), (.iconst 0, 1, 0, 0, 0), (.bipush 99, 2, 0, 0, 0), (.invokestatic 97, 3, 154, 3, 467)]),
  (18, [(.ifCond .eq 15, 3, 33, 0, 0)]),
  (21, [(.aload_n 0, 1, 0, 0, 0), (.invokevirtual 214, 3, 147, 1, 799)]),
  (25, [(.iload_n 1, 1, 0, 0, 0), (.iload_n 2, 1, 0, 0, 0), (.invokevirtual 232, 3, 31, 3, 895)]),
  (30, [(.goto 4, 3, 34, 0, 0)]),
  (33, [(.iconst (-1), 1, 0, 0, 0)]),
  (34, [(.ireturn, 1, 0, 0, 0)])]
set_option maxRecDepth 20000 in
theorem ck_X10_where : en_ck 121 bs_X10_where = true := en_ckF_ok (J := (yX10_where, cX10_where, 3, some .int, 10, 0)) (q := (894, 892, 1001, 1)) rfl rfl rfl (by decide +kernel)
def bs_X10_held : en_Bs := [
  (0, [(.aload_n 0, 1, 0, 0, 0), (.getfield 10, 3, 10, 0, 408), (.iload_n 1, 1, 0, 0, 0), (.invokevirtual 126, 3, 3, 2, 508)]),
  (8, [(.ifCond .eq 22, 3, 30, 0, 0)]),
  (11, [(.iload_n 2, 1, 0, 0, 0), (.iconst 0, 1, 0, 0, 0), (.bipush 99, 2, 0, 0, 0), (.invokestatic 97, 3, 154, 3, 467)]),
  (18, [(.ifCond .eq 12, 3, 30, 0, 0)]),
  (21, [(.iload_n 3, 1, 0, 0, 0), (.iconst 0, 1, 0, 0, 0), (.iconst 1, 1, 0, 0, 0), (.invokestatic 97, 3, 154, 3, 467)]),
  (27, [(.ifCond .ne 5, 3, 32, 0, 0)]),
  (30, [(.iconst (-1), 1, 0, 0, 0), (.ireturn, 1, 0, 0, 0)]),
  (32, [(.aload_n 0, 1, 0, 0, 0), (.invokevirtual 214, 3, 147, 1, 799)]),
  (36, [(.astore 4, 2, 0, 0, 0), (.iconst 0, 1, 0, 0, 0), (.istore 5, 2, 0, 0, 0), (.iconst 0, 1, 0, 0, 0), (.istore 6, 2, 0, 0, 0)]),
  (44, [(.iload 6, 2, 0, 0, 0), (.aload_n 0, 1, 0, 0, 0), (.getfield 10, 3, 10, 0, 408), (.getfield 159, 3, 0, 4, 106), (.if_icmp .ge 44, 3, 97, 0, 0)]),
  (56, [(.aload 4, 2, 0, 0, 0), (.iload 6, 2, 0, 0, 0), (.iload_n 2, 1, 0, 0, 0), (.invokevirtual 232, 3, 31, 3, 895)]),
  (64, [(.iload_n 1, 1, 0, 0, 0), (.if_icmp .ne 26, 3, 91, 0, 0)]),
  (68, [(.iload 5, 2, 0, 0, 0), (.iload_n 3, 1, 0, 0, 0), (.ifCond .ne 7, 3, 78, 0, 0)]),
  (74, [(.iconst 1, 1, 0, 0, 0), (.goto 13, 3, 88, 0, 0)]),
  (78, [(.aload_n 0, 1, 0, 0, 0), (.getfield 10, 3, 10, 0, 408), (.iload 6, 2, 0, 0, 0), (.iconst 0, 1, 0, 0, 0), (.invokevirtual 151, 3, 11, 3, 541)]),
  (88, [(.iadd, 1, 0, 0, 0), (.istore 5, 2, 0, 0, 0)]),
  (91, [(.iinc 6 1, 3, 0, 0, 0), (.goto (-50), 3, 44, 0, 0)]),
  (97, [(.iload 5, 2, 0, 0, 0), (.ireturn, 1, 0, 0, 0)])]
set_option maxRecDepth 20000 in
theorem ck_X10_held : en_ck 122 bs_X10_held = true := en_ckF_ok (J := (yX10_held, cX10_held, 7, some .int, 10, 0)) (q := (902, 900, 1009, 1)) rfl rfl rfl (by decide +kernel)
def bs_X10_choke : en_Bs := [
  (0, [(.aload_n 0, 1, 0, 0, 0), (.invokevirtual 214, 3, 147, 1, 799)]),
  (4, [(.invokevirtual 235, 3, 34, 1, 907)]),
  (7, [(.ireturn, 1, 0, 0, 0)])]
set_option maxRecDepth 20000 in
theorem ck_X10_choke : en_ck 123 bs_X10_choke = true := en_ckF_ok (J := (yX10_choke, cX10_choke, 1, some .int, 10, 0)) (q := (906, 904, 1013, 1)) rfl rfl rfl (by decide +kernel)
def bs_X10_swaps : en_Bs := [
  (0, [(.iload_n 1, 1, 0, 0, 0), (.aload_n 0, 1, 0, 0, 0), (.getfield 10, 3, 10, 0, 408), (.getfield 159, 3, 0, 4, 106), (.invokestatic 207, 3, 156, 2, 785)]),
  (11, [(.ifCond .eq 15, 3, 26, 0, 0)]),
  (14, [(.aload_n 0, 1, 0, 0, 0), (.getfield 69, 3, 10, 8, 416), (.iload_n 1, 1, 0, 0, 0), (.iload_n 2, 1, 0, 0, 0), (.invokevirtual 239, 3, 85, 3, 925)]),
  (23, [(.goto 4, 3, 27, 0, 0)]),
  (26, [(.iconst (-1), 1, 0, 0, 0)]),
  (27, [(.ireturn, 1, 0, 0, 0)])]
set_option maxRecDepth 20000 in
theorem ck_X10_swaps : en_ck 124 bs_X10_swaps = true := en_ckF_ok (J := (yX10_swaps, cX10_swaps, 3, some .int, 10, 0)) (q := (924, 922, 1031, 1)) rfl rfl rfl (by decide +kernel)
def bs_X10_swap : en_Bs := [
  (0, [(.aload_n 0, 1, 0, 0, 0), (.getfield 10, 3, 10, 0, 408), (.iload_n 1, 1, 0, 0, 0), (.invokevirtual 126, 3, 3, 2, 508)]),
  (8, [(.ifCond .eq 14, 3, 22, 0, 0)]),
  (11, [(.aload_n 0, 1, 0, 0, 0), (.getfield 10, 3, 10, 0, 408), (.iload_n 2, 1, 0, 0, 0), (.invokevirtual 126, 3, 3, 2, 508)]),
  (19, [(.ifCond .ne 10, 3, 29, 0, 0)]),
  (22, [(.aload_n 0, 1, 0, 0, 0), (.bipush (-2), 2, 0, 0, 0), (.invokevirtual 108, 3, 144, 2, 476)]),
  (28, [(.ireturn, 1, 0, 0, 0)]),
  (29, [(.iload_n 1, 1, 0, 0, 0), (.iload_n 2, 1, 0, 0, 0), (.if_icmp .ne 10, 3, 41, 0, 0)]),
  (34, [(.aload_n 0, 1, 0, 0, 0), (.bipush (-3), 2, 0, 0, 0), (.invokevirtual 108, 3, 144, 2, 476)]),
  (40, [(.ireturn, 1, 0, 0, 0)]),
  (41, [(.aload_n 0, 1, 0, 0, 0), (.getfield 10, 3, 10, 0, 408), (.getfield 132, 3, 0, 2, 96), (.iload_n 1, 1, 0, 0, 0), (.iload_n 2, 1, 0, 0, 0), (.invokestatic 242, 3, 157, 3, 980)]),
  (53, [(.aload_n 0, 1, 0, 0, 0), (.getfield 10, 3, 10, 0, 408), (.getfield 135, 3, 0, 3, 101), (.iload_n 1, 1, 0, 0, 0), (.iload_n 2, 1, 0, 0, 0), (.invokestatic 242, 3, 157, 3, 980)]),
  (65, [(.aload_n 0, 1, 0, 0, 0), (.invokevirtual 116, 3, 146, 1, 480)]),
  (69, [(.aload_n 0, 1, 0, 0, 0), (.iconst 0, 1, 0, 0, 0), (.invokevirtual 123, 3, 145, 2, 500)]),
  (74, [(.ireturn, 1, 0, 0, 0)])]
set_option maxRecDepth 20000 in
theorem ck_X10_swap : en_ck 125 bs_X10_swap = true := en_ckF_ok (J := (yX10_swap, cX10_swap, 3, some .int, 10, 0)) (q := (979, 977, 1086, 1)) rfl rfl rfl (by decide +kernel)
def bs_X10_home : en_Bs := [
  (0, [(.iload_n 1, 1, 0, 0, 0), (.iconst 0, 1, 0, 0, 0), (.iconst 2, 1, 0, 0, 0), (.invokestatic 97, 3, 154, 3, 467)]),
  (6, [(.ifCond .eq 14, 3, 20, 0, 0)]),
  (9, [(.aload_n 0, 1, 0, 0, 0), (.getfield 76, 3, 10, 9, 417), (.iload_n 1, 1, 0, 0, 0), (.invokevirtual 246, 3, 81, 2, 985)]),
  (17, [(.goto 4, 3, 21, 0, 0)]),
  (20, [(.iconst (-1), 1, 0, 0, 0)]),
  (21, [(.ireturn, 1, 0, 0, 0)])]
set_option maxRecDepth 20000 in
theorem ck_X10_home : en_ck 126 bs_X10_home = true := en_ckF_ok (J := (yX10_home, cX10_home, 2, some .int, 10, 0)) (q := (984, 982, 1091, 1)) rfl rfl rfl (by decide +kernel)
def bs_X10_cost : en_Bs := [
  (0, [(.aload_n 0, 1, 0, 0, 0), (.getfield 10, 3, 10, 0, 408), (.iload_n 1, 1, 0, 0, 0), (.invokevirtual 148, 3, 4, 2, 537)]),
  (8, [(.ifCond .eq 14, 3, 22, 0, 0)]),
  (11, [(.aload_n 0, 1, 0, 0, 0), (.getfield 83, 3, 10, 10, 418), (.iload_n 1, 1, 0, 0, 0), (.invokevirtual 248, 3, 39, 2, 1006)]),
  (19, [(.goto 4, 3, 23, 0, 0)]),
  (22, [(.iconst (-1), 1, 0, 0, 0)]),
  (23, [(.ireturn, 1, 0, 0, 0)])]
set_option maxRecDepth 20000 in
theorem ck_X10_cost : en_ck 127 bs_X10_cost = true := en_ckF_ok (J := (yX10_cost, cX10_cost, 2, some .int, 10, 0)) (q := (1005, 1003, 1112, 1)) rfl rfl rfl (by decide +kernel)
def bs_X10_sent : en_Bs := [
  (0, [(.aload_n 0, 1, 0, 0, 0), (.getfield 10, 3, 10, 0, 408), (.iload_n 1, 1, 0, 0, 0), (.invokevirtual 148, 3, 4, 2, 537)]),
  (8, [(.ifCond .ne 5, 3, 13, 0, 0)]),
  (11, [(.iconst (-1), 1, 0, 0, 0), (.ireturn, 1, 0, 0, 0)]),
  (13, [(.aload_n 0, 1, 0, 0, 0), (.getfield 83, 3, 10, 10, 418), (.iload_n 1, 1, 0, 0, 0), (.invokevirtual 248, 3, 39, 2, 1006)]),
  (21, [(.istore_n 2, 1, 0, 0, 0), (.iload_n 2, 1, 0, 0, 0), (.iconst (-1), 1, 0, 0, 0), (.if_icmp .eq 20, 3, 44, 0, 0)]),
  (27, [(.iload_n 2, 1, 0, 0, 0), (.aload_n 0, 1, 0, 0, 0), (.getfield 10, 3, 10, 0, 408), (.iload_n 1, 1, 0, 0, 0), (.iconst 5, 1, 0, 0, 0), (.invokevirtual 151, 3, 11, 3, 541)]),
  (37, [(.if_icmp .gt 7, 3, 44, 0, 0)]),
  (40, [(.iconst 1, 1, 0, 0, 0), (.goto 4, 3, 45, 0, 0)]),
  (44, [(.iconst 0, 1, 0, 0, 0)]),
  (45, [(.ireturn, 1, 0, 0, 0)])]
set_option maxRecDepth 20000 in
theorem ck_X10_sent : en_ck 128 bs_X10_sent = true := en_ckF_ok (J := (yX10_sent, cX10_sent, 3, some .int, 10, 0)) (q := (1043, 1041, 1150, 1)) rfl rfl rfl (by decide +kernel)
def bs_X10_income : en_Bs := [
  (0, [(.aload_n 0, 1, 0, 0, 0), (.getfield 10, 3, 10, 0, 408), (.iload_n 1, 1, 0, 0, 0), (.invokevirtual 126, 3, 3, 2, 508)]),
  (8, [(.ifCond .eq 14, 3, 22, 0, 0)]),
  (11, [(.aload_n 0, 1, 0, 0, 0), (.getfield 83, 3, 10, 10, 418), (.iload_n 1, 1, 0, 0, 0), (.invokevirtual 251, 3, 40, 2, 1048)]),
  (19, [(.goto 4, 3, 23, 0, 0)]),
  (22, [(.iconst (-1), 1, 0, 0, 0)]),
  (23, [(.ireturn, 1, 0, 0, 0)])]
set_option maxRecDepth 20000 in
theorem ck_X10_income : en_ck 129 bs_X10_income = true := en_ckF_ok (J := (yX10_income, cX10_income, 2, some .int, 10, 0)) (q := (1047, 1045, 1154, 1)) rfl rfl rfl (by decide +kernel)
def bs_X10_answer : en_Bs := [
  (0, [(.aload_n 0, 1, 0, 0, 0), (.getfield 10, 3, 10, 0, 408), (.iload_n 1, 1, 0, 0, 0), (.invokevirtual 126, 3, 3, 2, 508)]),
  (8, [(.ifCond .eq 24, 3, 32, 0, 0)]),
  (11, [(.iload_n 2, 1, 0, 0, 0), (.iconst 0, 1, 0, 0, 0), (.iconst 1, 1, 0, 0, 0), (.invokestatic 97, 3, 154, 3, 467)]),
  (17, [(.ifCond .eq 15, 3, 32, 0, 0)]),
  (20, [(.aload_n 0, 1, 0, 0, 0), (.getfield 83, 3, 10, 10, 418), (.iload_n 1, 1, 0, 0, 0), (.iload_n 2, 1, 0, 0, 0), (.invokevirtual 254, 3, 41, 3, 1064)]),
  (29, [(.goto 4, 3, 33, 0, 0)]),
  (32, [(.iconst (-1), 1, 0, 0, 0)]),
  (33, [(.ireturn, 1, 0, 0, 0)])]
set_option maxRecDepth 20000 in
theorem ck_X10_answer : en_ck 130 bs_X10_answer = true := en_ckF_ok (J := (yX10_answer, cX10_answer, 3, some .int, 10, 0)) (q := (1063, 1061, 1170, 1)) rfl rfl rfl (by decide +kernel)
def bs_X10_restless : en_Bs := [
  (0, [(.aload_n 0, 1, 0, 0, 0), (.getfield 83, 3, 10, 10, 418), (.invokevirtual 257, 3, 42, 1, 1072)]),
  (7, [(.ireturn, 1, 0, 0, 0)])]
set_option maxRecDepth 20000 in
theorem ck_X10_restless : en_ck 131 bs_X10_restless = true := en_ckF_ok (J := (yX10_restless, cX10_restless, 1, some .int, 10, 0)) (q := (1071, 1069, 1178, 1)) rfl rfl rfl (by decide +kernel)
def bs_X10_rests : en_Bs := [
  (0, [(.iload_n 1, 1, 0, 0, 0), (.iconst (-1), 1, 0, 0, 0), (.if_icmp .eq 16, 3, 18, 0, 0)]),
  (5, [(.aload_n 0, 1, 0, 0, 0), (.getfield 10, 3, 10, 0, 408), (.iload_n 1, 1, 0, 0, 0), (.invokevirtual 126, 3, 3, 2, 508)]),
  (13, [(.ifCond .ne 5, 3, 18, 0, 0)]),
  (16, [(.iconst (-1), 1, 0, 0, 0), (.ireturn, 1, 0, 0, 0)]),
  (18, [(.aload_n 0, 1, 0, 0, 0), (.getfield 83, 3, 10, 10, 418), (.invokevirtual 260, 3, 43, 1, 1080)]),
  (25, [(.aload_n 0, 1, 0, 0, 0), (.getfield 83, 3, 10, 10, 418), (.iload_n 1, 1, 0, 0, 0), (.invokevirtual 263, 3, 44, 2, 1084)]),
  (33, [(.ireturn, 1, 0, 0, 0)])]
set_option maxRecDepth 20000 in
theorem ck_X10_rests : en_ck 132 bs_X10_rests = true := en_ckF_ok (J := (yX10_rests, cX10_rests, 2, some .int, 10, 0)) (q := (1079, 1077, 1186, 1)) rfl rfl rfl (by decide +kernel)
def bs_X10_pieces : en_Bs := [
  (0, [(.aload_n 0, 1, 0, 0, 0), (.getfield 10, 3, 10, 0, 408), (.iload_n 1, 1, 0, 0, 0), (.invokevirtual 148, 3, 4, 2, 537)]),
  (8, [(.ifCond .eq 14, 3, 22, 0, 0)]),
  (11, [(.aload_n 0, 1, 0, 0, 0), (.getfield 45, 3, 10, 5, 413), (.iload_n 1, 1, 0, 0, 0), (.invokevirtual 266, 3, 101, 2, 1092)]),
  (19, [(.goto 4, 3, 23, 0, 0)]),
  (22, [(.iconst (-1), 1, 0, 0, 0)]),
  (23, [(.ireturn, 1, 0, 0, 0)])]
set_option maxRecDepth 20000 in
theorem ck_X10_pieces : en_ck 133 bs_X10_pieces = true := en_ckF_ok (J := (yX10_pieces, cX10_pieces, 2, some .int, 10, 0)) (q := (1091, 1089, 1198, 1)) rfl rfl rfl (by decide +kernel)
def bs_X10_sign : en_Bs := [
  (0, [(.iload_n 2, 1, 0, 0, 0), (.iconst 0, 1, 0, 0, 0), (.bipush 99, 2, 0, 0, 0), (.invokestatic 97, 3, 154, 3, 467)]),
  (7, [(.ifCond .ne 9, 3, 16, 0, 0)]),
  (10, [(.aload_n 0, 1, 0, 0, 0), (.iconst (-1), 1, 0, 0, 0), (.invokevirtual 108, 3, 144, 2, 476)]),
  (15, [(.ireturn, 1, 0, 0, 0)]),
  (16, [(.aload_n 0, 1, 0, 0, 0), (.getfield 10, 3, 10, 0, 408), (.iload_n 1, 1, 0, 0, 0), (.invokevirtual 126, 3, 3, 2, 508)]),
  (24, [(.ifCond .ne 10, 3, 34, 0, 0)]),
  (27, [(.aload_n 0, 1, 0, 0, 0), (.bipush (-2), 2, 0, 0, 0), (.invokevirtual 108, 3, 144, 2, 476)]),
  (33, [(.ireturn, 1, 0, 0, 0)]),
  (34, [(.aload_n 0, 1, 0, 0, 0), (.getfield 10, 3, 10, 0, 408), (.getfield 269, 3, 0, 12, 124), (.bipush 8, 2, 0, 0, 0), (.if_icmp .lt 10, 3, 53, 0, 0)]),
  (46, [(.aload_n 0, 1, 0, 0, 0), (.bipush (-5), 2, 0, 0, 0), (.invokevirtual 108, 3, 144, 2, 476)]),
  (52, [(.ireturn, 1, 0, 0, 0)]),
  (53, [(.aload_n 0, 1, 0, 0, 0), (.getfield 10, 3, 10, 0, 408), (.getfield 272, 3, 0, 13, 127), (.aload_n 0, 1, 0, 0, 0), (.getfield 10, 3, 10, 0, 408), (.getfield 269, 3, 0, 12, 124), (.iload_n 1, 1, 0, 0, 0), (.iastore, 1, 0, 0, 0), (.aload_n 0, 1, 0, 0, 0), (.getfield 10, 3, 10, 0, 408), (.getfield 275, 3, 0, 14, 130), (.aload_n 0, 1, 0, 0, 0), (.getfield 10, 3, 10, 0, 408), (.getfield 269, 3, 0, 12, 124), (.iload_n 2, 1, 0, 0, 0), (.iastore, 1, 0, 0, 0), (.aload_n 0, 1, 0, 0, 0), (.getfield 10, 3, 10, 0, 408), (.dup, 1, 0, 0, 0), (.getfield 269, 3, 0, 12, 124), (.iconst 1, 1, 0, 0, 0), (.iadd, 1, 0, 0, 0), (.putfield 269, 3, 0, 12, 124), (.aload_n 0, 1, 0, 0, 0), (.aload_n 0, 1, 0, 0, 0), (.getfield 10, 3, 10, 0, 408), (.getfield 269, 3, 0, 12, 124), (.invokevirtual 123, 3, 145, 2, 500)]),
  (109, [(.ireturn, 1, 0, 0, 0)])]
set_option maxRecDepth 20000 in
theorem ck_X10_sign : en_ck 134 bs_X10_sign = true := en_ckF_ok (J := (yX10_sign, cX10_sign, 3, some .int, 10, 0)) (q := (1101, 1099, 1208, 1)) rfl rfl rfl (by decide +kernel)
def bs_X10_clear : en_Bs := [
  (0, [(.aload_n 0, 1, 0, 0, 0), (.getfield 10, 3, 10, 0, 408), (.getfield 269, 3, 0, 12, 124), (.istore_n 1, 1, 0, 0, 0), (.aload_n 0, 1, 0, 0, 0), (.getfield 10, 3, 10, 0, 408), (.iconst 0, 1, 0, 0, 0), (.putfield 269, 3, 0, 12, 124), (.iload_n 1, 1, 0, 0, 0), (.ireturn, 1, 0, 0, 0)])]
set_option maxRecDepth 20000 in
theorem ck_X10_clear : en_ck 135 bs_X10_clear = true := en_ckF_ok (J := (yX10_clear, cX10_clear, 2, some .int, 10, 0)) (q := (1105, 1103, 1212, 1)) rfl rfl rfl (by decide +kernel)
def bs_X10_thieves : en_Bs := [
  (0, [(.aload_n 0, 1, 0, 0, 0), (.getfield 45, 3, 10, 5, 413), (.invokevirtual 278, 3, 98, 1, 1110)]),
  (7, [(.ireturn, 1, 0, 0, 0)])]
set_option maxRecDepth 20000 in
theorem ck_X10_thieves : en_ck 136 bs_X10_thieves = true := en_ckF_ok (J := (yX10_thieves, cX10_thieves, 1, some .int, 10, 0)) (q := (1109, 1107, 1216, 1)) rfl rfl rfl (by decide +kernel)
def bs_X10_meet : en_Bs := [
  (0, [(.aload_n 0, 1, 0, 0, 0), (.getfield 10, 3, 10, 0, 408), (.iload_n 1, 1, 0, 0, 0), (.invokevirtual 126, 3, 3, 2, 508)]),
  (8, [(.ifCond .eq 23, 3, 31, 0, 0)]),
  (11, [(.aload_n 0, 1, 0, 0, 0), (.getfield 10, 3, 10, 0, 408), (.iload_n 2, 1, 0, 0, 0), (.invokevirtual 126, 3, 3, 2, 508)]),
  (19, [(.ifCond .eq 12, 3, 31, 0, 0)]),
  (22, [(.iload_n 3, 1, 0, 0, 0), (.iconst 0, 1, 0, 0, 0), (.iconst 1, 1, 0, 0, 0), (.invokestatic 97, 3, 154, 3, 467)]),
  (28, [(.ifCond .ne 5, 3, 33, 0, 0)]),
  (31, [(.iconst (-1), 1, 0, 0, 0), (.ireturn, 1, 0, 0, 0)]),
  (33, [(.aload_n 0, 1, 0, 0, 0), (.getfield 45, 3, 10, 5, 413), (.iload_n 1, 1, 0, 0, 0), (.iload_n 2, 1, 0, 0, 0), (.iload_n 3, 1, 0, 0, 0), (.invokevirtual 281, 3, 100, 4, 1122)]),
  (43, [(.ireturn, 1, 0, 0, 0)])]
set_option maxRecDepth 20000 in
theorem ck_X10_meet : en_ck 137 bs_X10_meet = true := en_ckF_ok (J := (yX10_meet, cX10_meet, 4, some .int, 10, 0)) (q := (1121, 1119, 1228, 1)) rfl rfl rfl (by decide +kernel)
def bs_X10_draw : en_Bs := [
  (0, [(.iload_n 1, 1, 0, 0, 0), (.iconst 0, 1, 0, 0, 0), (.ldc_w 284, 3, 1, 1000000, 1130), (.invokestatic 97, 3, 154, 3, 467)]),
  (8, [(.ifCond .ne 9, 3, 17, 0, 0)]),
  (11, [(.aload_n 0, 1, 0, 0, 0), (.iconst (-1), 1, 0, 0, 0), (.invokevirtual 108, 3, 144, 2, 476)]),
  (16, [(.ireturn, 1, 0, 0, 0)]),
  (17, [(.aload_n 0, 1, 0, 0, 0), (.getfield 61, 3, 10, 7, 415), (.iconst 0, 1, 0, 0, 0), (.invokevirtual 285, 3, 16, 2, 803)]),
  (25, [(.iload_n 1, 1, 0, 0, 0), (.istore_n 2, 1, 0, 0, 0), (.iconst 0, 1, 0, 0, 0), (.istore_n 3, 1, 0, 0, 0)]),
  (29, [(.iload_n 3, 1, 0, 0, 0), (.aload_n 0, 1, 0, 0, 0), (.getfield 10, 3, 10, 0, 408), (.getfield 159, 3, 0, 4, 106), (.if_icmp .ge 27, 3, 64, 0, 0)]),
  (40, [(.iload_n 2, 1, 0, 0, 0), (.invokestatic 288, 3, 151, 1, 1131)]),
  (44, [(.istore_n 2, 1, 0, 0, 0), (.aload_n 0, 1, 0, 0, 0), (.getfield 61, 3, 10, 7, 415), (.getfield 291, 3, 1, 4, 255), (.iload_n 3, 1, 0, 0, 0), (.iload_n 2, 1, 0, 0, 0), (.bipush 30, 2, 0, 0, 0), (.irem, 1, 0, 0, 0), (.iastore, 1, 0, 0, 0), (.iinc 3 1, 3, 0, 0, 0), (.goto (-32), 3, 29, 0, 0)]),
  (64, [(.iconst 0, 1, 0, 0, 0), (.istore_n 3, 1, 0, 0, 0)]),
  (66, [(.iload_n 3, 1, 0, 0, 0), (.aload_n 0, 1, 0, 0, 0), (.getfield 10, 3, 10, 0, 408), (.getfield 112, 3, 0, 0, 86), (.if_icmp .ge 44, 3, 118, 0, 0)]),
  (77, [(.iload_n 2, 1, 0, 0, 0), (.invokestatic 288, 3, 151, 1, 1131)]),
  (81, [(.istore_n 2, 1, 0, 0, 0), (.iload_n 2, 1, 0, 0, 0), (.iconst 3, 1, 0, 0, 0), (.irem, 1, 0, 0, 0), (.ifCond .ne 27, 3, 112, 0, 0)]),
  (88, [(.aload_n 0, 1, 0, 0, 0), (.getfield 61, 3, 10, 7, 415), (.getfield 294, 3, 1, 2, 251), (.iload_n 3, 1, 0, 0, 0), (.iconst 1, 1, 0, 0, 0), (.aload_n 0, 1, 0, 0, 0), (.getfield 61, 3, 10, 7, 415), (.getfield 294, 3, 1, 2, 251), (.iload_n 3, 1, 0, 0, 0), (.iaload, 1, 0, 0, 0), (.iconst 1, 1, 0, 0, 0), (.isub, 1, 0, 0, 0), (.invokestatic 221, 3, 902, 0, 890), (.iastore, 1, 0, 0, 0)]),
  (112, [(.iinc 3 1, 3, 0, 0, 0), (.goto (-49), 3, 66, 0, 0)]),
  (118, [(.aload_n 0, 1, 0, 0, 0), (.getfield 61, 3, 10, 7, 415), (.invokevirtual 295, 3, 18, 1, 819)]),
  (125, [(.aload_n 0, 1, 0, 0, 0), (.aload_n 0, 1, 0, 0, 0), (.getfield 10, 3, 10, 0, 408), (.getfield 159, 3, 0, 4, 106), (.putfield 298, 3, 10, 15, 423), (.aload_n 0, 1, 0, 0, 0), (.getfield 61, 3, 10, 7, 415), (.getfield 218, 3, 1, 9, 262), (.iconst 0, 1, 0, 0, 0), (.aload_n 0, 1, 0, 0, 0), (.getfield 87, 3, 10, 11, 419), (.iconst 0, 1, 0, 0, 0), (.bipush 8, 2, 0, 0, 0), (.invokestatic 301, 3, 901, 0, 1135), (.aload_n 0, 1, 0, 0, 0), (.getfield 61, 3, 10, 7, 415), (.getfield 291, 3, 1, 4, 255), (.iconst 0, 1, 0, 0, 0), (.aload_n 0, 1, 0, 0, 0), (.getfield 91, 3, 10, 12, 420), (.iconst 0, 1, 0, 0, 0), (.bipush 8, 2, 0, 0, 0), (.invokestatic 301, 3, 901, 0, 1135), (.aload_n 0, 1, 0, 0, 0), (.aload_n 0, 1, 0, 0, 0), (.getfield 61, 3, 10, 7, 415), (.invokevirtual 307, 3, 32, 1, 1136)]),
  (180, [(.invokevirtual 123, 3, 145, 2, 500)]),
  (183, [(.ireturn, 1, 0, 0, 0)])]
set_option maxRecDepth 20000 in
theorem ck_X10_draw : en_ck 138 bs_X10_draw = true := en_ckF_ok (J := (yX10_draw, cX10_draw, 4, some .int, 10, 0)) (q := (1129, 1127, 1236, 1)) rfl rfl rfl (by decide +kernel)
def bs_X10_drawn : en_Bs := [
  (0, [(.iload_n 1, 1, 0, 0, 0), (.iconst 0, 1, 0, 0, 0), (.aload_n 0, 1, 0, 0, 0), (.getfield 298, 3, 10, 15, 423), (.iconst 1, 1, 0, 0, 0), (.isub, 1, 0, 0, 0), (.invokestatic 97, 3, 154, 3, 467)]),
  (11, [(.ifCond .eq 12, 3, 23, 0, 0)]),
  (14, [(.iload_n 2, 1, 0, 0, 0), (.iconst 0, 1, 0, 0, 0), (.iconst 1, 1, 0, 0, 0), (.invokestatic 97, 3, 154, 3, 467)]),
  (20, [(.ifCond .ne 5, 3, 25, 0, 0)]),
  (23, [(.iconst (-1), 1, 0, 0, 0), (.ireturn, 1, 0, 0, 0)]),
  (25, [(.iload_n 2, 1, 0, 0, 0), (.ifCond .ne 12, 3, 38, 0, 0)]),
  (29, [(.aload_n 0, 1, 0, 0, 0), (.getfield 87, 3, 10, 11, 419), (.iload_n 1, 1, 0, 0, 0), (.iaload, 1, 0, 0, 0), (.goto 9, 3, 44, 0, 0)]),
  (38, [(.aload_n 0, 1, 0, 0, 0), (.getfield 91, 3, 10, 12, 420), (.iload_n 1, 1, 0, 0, 0), (.iaload, 1, 0, 0, 0)]),
  (44, [(.ireturn, 1, 0, 0, 0)])]
set_option maxRecDepth 20000 in
theorem ck_X10_drawn : en_ck 139 bs_X10_drawn = true := en_ckF_ok (J := (yX10_drawn, cX10_drawn, 3, some .int, 10, 0)) (q := (1143, 1141, 1250, 1)) rfl rfl rfl (by decide +kernel)
def bs_X10_image : en_Bs := [
  (0, [(.aload_n 0, 1, 0, 0, 0), (.iload_n 1, 1, 0, 0, 0), (.invokevirtual 310, 3, 148, 2, 1148)]),
  (5, [(.astore_n 2, 1, 0, 0, 0), (.aload_n 2, 1, 0, 0, 0), (.ifnonnull 9, 3, 16, 0, 0)]),
  (10, [(.aload_n 0, 1, 0, 0, 0), (.iconst (-1), 1, 0, 0, 0), (.invokevirtual 108, 3, 144, 2, 476)]),
  (15, [(.ireturn, 1, 0, 0, 0)]),
  (16, [(.aload_n 2, 1, 0, 0, 0), (.aload_n 0, 1, 0, 0, 0), (.getfield 10, 3, 10, 0, 408), (.invokevirtual 314, 3, 2, 2, 1152)]),
  (24, [(.aload_n 0, 1, 0, 0, 0), (.getfield 20, 3, 10, 2, 410), (.iload_n 1, 1, 0, 0, 0), (.iconst 1, 1, 0, 0, 0), (.bastore, 1, 0, 0, 0), (.aload_n 0, 1, 0, 0, 0), (.iconst 0, 1, 0, 0, 0), (.invokevirtual 123, 3, 145, 2, 500)]),
  (36, [(.ireturn, 1, 0, 0, 0)])]
set_option maxRecDepth 20000 in
theorem ck_X10_image : en_ck 140 bs_X10_image = true := en_ckF_ok (J := (yX10_image, cX10_image, 3, some .int, 10, 0)) (q := (1147, 1145, 1254, 1)) rfl rfl rfl (by decide +kernel)
def bs_X10_back : en_Bs := [
  (0, [(.aload_n 0, 1, 0, 0, 0), (.iload_n 1, 1, 0, 0, 0), (.invokevirtual 310, 3, 148, 2, 1148)]),
  (5, [(.astore_n 2, 1, 0, 0, 0), (.aload_n 2, 1, 0, 0, 0), (.ifnonnull 9, 3, 16, 0, 0)]),
  (10, [(.aload_n 0, 1, 0, 0, 0), (.iconst (-1), 1, 0, 0, 0), (.invokevirtual 108, 3, 144, 2, 476)]),
  (15, [(.ireturn, 1, 0, 0, 0)]),
  (16, [(.aload_n 0, 1, 0, 0, 0), (.getfield 20, 3, 10, 2, 410), (.iload_n 1, 1, 0, 0, 0), (.baload, 1, 0, 0, 0), (.ifCond .ne 10, 3, 32, 0, 0)]),
  (25, [(.aload_n 0, 1, 0, 0, 0), (.bipush (-2), 2, 0, 0, 0), (.invokevirtual 108, 3, 144, 2, 476)]),
  (31, [(.ireturn, 1, 0, 0, 0)]),
  (32, [(.aload_n 0, 1, 0, 0, 0), (.getfield 10, 3, 10, 0, 408), (.aload_n 2, 1, 0, 0, 0), (.invokevirtual 314, 3, 2, 2, 1152)]),
  (40, [(.aload_n 0, 1, 0, 0, 0), (.invokevirtual 116, 3, 146, 1, 480)]),
  (44, [(.aload_n 0, 1, 0, 0, 0), (.iconst 0, 1, 0, 0, 0), (.invokevirtual 123, 3, 145, 2, 500)]),
  (49, [(.ireturn, 1, 0, 0, 0)])]
set_option maxRecDepth 20000 in
theorem ck_X10_back : en_ck 141 bs_X10_back = true := en_ckF_ok (J := (yX10_back, cX10_back, 3, some .int, 10, 0)) (q := (1159, 1157, 1266, 1)) rfl rfl rfl (by decide +kernel)
