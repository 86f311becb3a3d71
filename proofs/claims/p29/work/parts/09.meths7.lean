def bs_X11_allCome : en_Bs := [
  (0, [(.aload_n 0, 1, 0, 0, 0), (.invokevirtual 394, 3, 225, 1, 1598)]),
  (4, [(.iconst 1, 1, 0, 0, 0), (.istore_n 3, 1, 0, 0, 0), (.iconst 0, 1, 0, 0, 0), (.istore 4, 2, 0, 0, 0)]),
  (9, [(.iload 4, 2, 0, 0, 0), (.aload_n 0, 1, 0, 0, 0), (.getfield 13, 3, 11, 3, 1193), (.iconst 1, 1, 0, 0, 0), (.iaload, 1, 0, 0, 0), (.if_icmp .ge 50, 3, 67, 0, 0)]),
  (20, [(.iload_n 3, 1, 0, 0, 0), (.ifCond .eq 38, 3, 59, 0, 0)]),
  (24, [(.iload_n 1, 1, 0, 0, 0), (.iload 4, 2, 0, 0, 0), (.invokestatic 161, 3, 160, 2, 1402)]),
  (30, [(.ifCond .eq 25, 3, 55, 0, 0)]),
  (33, [(.aload_n 0, 1, 0, 0, 0), (.getfield 103, 3, 11, 41, 1231), (.iload 4, 2, 0, 0, 0), (.iaload, 1, 0, 0, 0), (.iconst (-1), 1, 0, 0, 0), (.if_icmp .eq 18, 3, 59, 0, 0)]),
  (44, [(.aload_n 0, 1, 0, 0, 0), (.getfield 103, 3, 11, 41, 1231), (.iload 4, 2, 0, 0, 0), (.iaload, 1, 0, 0, 0), (.iload_n 2, 1, 0, 0, 0), (.if_icmp .gt 7, 3, 59, 0, 0)]),
  (55, [(.iconst 1, 1, 0, 0, 0), (.goto 4, 3, 60, 0, 0)]),
  (59, [(.iconst 0, 1, 0, 0, 0)]),
  (60, [(.istore_n 3, 1, 0, 0, 0), (.iinc 4 1, 3, 0, 0, 0), (.goto (-55), 3, 9, 0, 0)]),
  (67, [(.iload_n 3, 1, 0, 0, 0), (.ireturn, 1, 0, 0, 0)])]
set_option maxRecDepth 20000 in
theorem ck_X11_allCome : en_ck 237 bs_X11_allCome = true := en_ckF_ok (J := (yX11_allCome, cX11_allCome, 5, some .boolean, 11, 0)) (q := (1678, 1677, 98, 12)) rfl rfl rfl (by decide +kernel)
def bs_X11_findSwaps : en_Bs := [
  (0, [(.aload_n 0, 1, 0, 0, 0), (.iconst 0, 1, 0, 0, 0), (.putfield 406, 3, 11, 45, 1235), (.aload_n 0, 1, 0, 0, 0), (.iconst (-1), 1, 0, 0, 0), (.putfield 409, 3, 11, 46, 1236), (.iload_n 2, 1, 0, 0, 0), (.ifCond .ne 7, 3, 18, 0, 0)]),
  (14, [(.iconst 1, 1, 0, 0, 0), (.goto 17, 3, 32, 0, 0)]),
  (18, [(.iload_n 2, 1, 0, 0, 0), (.iconst 1, 1, 0, 0, 0), (.if_icmp .ne 9, 3, 29, 0, 0)]),
  (23, [(.sipush 144, 3, 0, 0, 0), (.goto 6, 3, 32, 0, 0)]),
  (29, [(.sipush 20736, 3, 0, 0, 0)]),
  (32, [(.istore_n 3, 1, 0, 0, 0), (.iconst 0, 1, 0, 0, 0), (.istore 4, 2, 0, 0, 0)]),
  (36, [(.iload 4, 2, 0, 0, 0), (.iload_n 3, 1, 0, 0, 0), (.if_icmp .ge 202, 3, 241, 0, 0)]),
  (42, [(.iload 4, 2, 0, 0, 0), (.iload_n 2, 1, 0, 0, 0), (.iconst 2, 1, 0, 0, 0), (.if_icmp .ne 9, 3, 55, 0, 0)]),
  (49, [(.sipush 1728, 3, 0, 0, 0), (.goto 5, 3, 57, 0, 0)]),
  (55, [(.bipush 12, 2, 0, 0, 0)]),
  (57, [(.idiv, 1, 0, 0, 0), (.istore 5, 2, 0, 0, 0), (.iload 4, 2, 0, 0, 0), (.iload_n 2, 1, 0, 0, 0), (.iconst 2, 1, 0, 0, 0), (.if_icmp .ne 9, 3, 73, 0, 0)]),
  (67, [(.sipush 144, 3, 0, 0, 0), (.goto 4, 3, 74, 0, 0)]),
  (73, [(.iconst 1, 1, 0, 0, 0)]),
  (74, [(.idiv, 1, 0, 0, 0), (.bipush 12, 2, 0, 0, 0), (.irem, 1, 0, 0, 0), (.istore 6, 2, 0, 0, 0), (.iload 4, 2, 0, 0, 0), (.bipush 12, 2, 0, 0, 0), (.idiv, 1, 0, 0, 0), (.bipush 12, 2, 0, 0, 0), (.irem, 1, 0, 0, 0), (.istore 7, 2, 0, 0, 0), (.iload 4, 2, 0, 0, 0), (.bipush 12, 2, 0, 0, 0), (.irem, 1, 0, 0, 0), (.istore 8, 2, 0, 0, 0), (.iload_n 2, 1, 0, 0, 0), (.ifCond .eq 19, 3, 117, 0, 0)]),
  (101, [(.iload 5, 2, 0, 0, 0), (.iload 6, 2, 0, 0, 0), (.if_icmp .ge 16, 3, 121, 0, 0)]),
  (108, [(.aload_n 0, 1, 0, 0, 0), (.iload 6, 2, 0, 0, 0), (.invokevirtual 150, 3, 167, 2, 1377)]),
  (114, [(.ifCond .eq 7, 3, 121, 0, 0)]),
  (117, [(.iconst 1, 1, 0, 0, 0), (.goto 4, 3, 122, 0, 0)]),
  (121, [(.iconst 0, 1, 0, 0, 0)]),
  (122, [(.istore 9, 2, 0, 0, 0), (.iload 9, 2, 0, 0, 0), (.ifCond .eq 28, 3, 154, 0, 0)]),
  (129, [(.iload_n 2, 1, 0, 0, 0), (.iconst 2, 1, 0, 0, 0), (.if_icmp .lt 19, 3, 150, 0, 0)]),
  (134, [(.iload 7, 2, 0, 0, 0), (.iload 8, 2, 0, 0, 0), (.if_icmp .ge 16, 3, 154, 0, 0)]),
  (141, [(.aload_n 0, 1, 0, 0, 0), (.iload 8, 2, 0, 0, 0), (.invokevirtual 150, 3, 167, 2, 1377)]),
  (147, [(.ifCond .eq 7, 3, 154, 0, 0)]),
  (150, [(.iconst 1, 1, 0, 0, 0), (.goto 4, 3, 155, 0, 0)]),
  (154, [(.iconst 0, 1, 0, 0, 0)]),
  (155, [(.istore 9, 2, 0, 0, 0), (.iload 9, 2, 0, 0, 0), (.ifCond .eq 76, 3, 235, 0, 0)]),
  (162, [(.aload_n 0, 1, 0, 0, 0), (.invokevirtual 391, 3, 215, 1, 1594)]),
  (166, [(.iload_n 2, 1, 0, 0, 0), (.ifCond .le 11, 3, 178, 0, 0)]),
  (170, [(.aload_n 0, 1, 0, 0, 0), (.iload 5, 2, 0, 0, 0), (.iload 6, 2, 0, 0, 0), (.invokevirtual 412, 3, 236, 3, 1671)]),
  (178, [(.iload_n 2, 1, 0, 0, 0), (.iconst 1, 1, 0, 0, 0), (.if_icmp .le 11, 3, 191, 0, 0)]),
  (183, [(.aload_n 0, 1, 0, 0, 0), (.iload 7, 2, 0, 0, 0), (.iload 8, 2, 0, 0, 0), (.invokevirtual 412, 3, 236, 3, 1671)]),
  (191, [(.aload_n 0, 1, 0, 0, 0), (.iload_n 1, 1, 0, 0, 0), (.aload_n 0, 1, 0, 0, 0), (.getfield 13, 3, 11, 3, 1193), (.iconst 5, 1, 0, 0, 0), (.iaload, 1, 0, 0, 0), (.invokevirtual 415, 3, 237, 3, 1675)]),
  (202, [(.ifCond .eq 33, 3, 235, 0, 0)]),
  (205, [(.aload_n 0, 1, 0, 0, 0), (.aload_n 0, 1, 0, 0, 0), (.getfield 406, 3, 11, 45, 1235), (.ifCond .ne 8, 3, 218, 0, 0)]),
  (213, [(.iload 4, 2, 0, 0, 0), (.goto 7, 3, 222, 0, 0)]),
  (218, [(.aload_n 0, 1, 0, 0, 0), (.getfield 409, 3, 11, 46, 1236)]),
  (222, [(.putfield 409, 3, 11, 46, 1236), (.aload_n 0, 1, 0, 0, 0), (.dup, 1, 0, 0, 0), (.getfield 406, 3, 11, 45, 1235), (.iconst 1, 1, 0, 0, 0), (.iadd, 1, 0, 0, 0), (.putfield 406, 3, 11, 45, 1235)]),
  (235, [(.iinc 4 1, 3, 0, 0, 0), (.goto (-202), 3, 36, 0, 0)]),
  (241, [(.return_, 1, 0, 0, 0)])]
set_option maxRecDepth 20000 in
theorem ck_X11_findSwaps : en_ck 238 bs_X11_findSwaps = true := en_ckF_ok (J := (yX11_findSwaps, cX11_findSwaps, 10, none, 11, 0)) (q := (1670, 1669, 96, 12)) rfl rfl rfl (by decide +kernel)
def bs_X11_swaps : en_Bs := [
  (0, [(.aload_n 0, 1, 0, 0, 0), (.iconst 0, 1, 0, 0, 0), (.putfield 121, 3, 11, 0, 1190), (.iload_n 1, 1, 0, 0, 0), (.i2l, 1, 0, 0, 0), (.lconst 0, 1, 0, 0, 0), (.iconst 1, 1, 0, 0, 0), (.aload_n 0, 1, 0, 0, 0), (.getfield 13, 3, 11, 3, 1193), (.iconst 1, 1, 0, 0, 0), (.iaload, 1, 0, 0, 0), (.ishl, 1, 0, 0, 0), (.i2l, 1, 0, 0, 0), (.lconst 1, 1, 0, 0, 0), (.lsub, 1, 0, 0, 0), (.invokestatic 131, 3, 159, 3, 1351)]),
  (22, [(.ifCond .eq 15, 3, 37, 0, 0)]),
  (25, [(.iload_n 2, 1, 0, 0, 0), (.i2l, 1, 0, 0, 0), (.lconst 0, 1, 0, 0, 0), (.ldc2_w 182, 3, 0, 5, 1425), (.invokestatic 131, 3, 159, 3, 1351)]),
  (34, [(.ifCond .ne 5, 3, 39, 0, 0)]),
  (37, [(.iconst (-1), 1, 0, 0, 0), (.ireturn, 1, 0, 0, 0)]),
  (39, [(.iconst 0, 1, 0, 0, 0), (.istore_n 3, 1, 0, 0, 0)]),
  (41, [(.iload_n 3, 1, 0, 0, 0), (.iconst 3, 1, 0, 0, 0), (.if_icmp .ge 158, 3, 201, 0, 0)]),
  (46, [(.aload_n 0, 1, 0, 0, 0), (.iload_n 1, 1, 0, 0, 0), (.iload_n 3, 1, 0, 0, 0), (.invokevirtual 418, 3, 238, 3, 1667)]),
  (52, [(.aload_n 0, 1, 0, 0, 0), (.getfield 406, 3, 11, 45, 1235), (.ifCond .le 139, 3, 195, 0, 0)]),
  (59, [(.iload_n 3, 1, 0, 0, 0), (.iconst 2, 1, 0, 0, 0), (.if_icmp .ne 14, 3, 75, 0, 0)]),
  (64, [(.aload_n 0, 1, 0, 0, 0), (.getfield 409, 3, 11, 46, 1236), (.sipush 144, 3, 0, 0, 0), (.idiv, 1, 0, 0, 0), (.goto 7, 3, 79, 0, 0)]),
  (75, [(.aload_n 0, 1, 0, 0, 0), (.getfield 409, 3, 11, 46, 1236)]),
  (79, [(.istore 4, 2, 0, 0, 0), (.aload_n 0, 1, 0, 0, 0), (.getfield 409, 3, 11, 46, 1236), (.sipush 144, 3, 0, 0, 0), (.irem, 1, 0, 0, 0), (.istore 5, 2, 0, 0, 0), (.iload_n 2, 1, 0, 0, 0), (.tableswitch 98 0 4 #[36, 38, 53, 68, 83], 36, 0, 0, 0)]),
  (128, [(.iload_n 3, 1, 0, 0, 0), (.ireturn, 1, 0, 0, 0)]),
  (130, [(.iload_n 3, 1, 0, 0, 0), (.iconst 1, 1, 0, 0, 0), (.if_icmp .ge 7, 3, 139, 0, 0)]),
  (135, [(.iconst (-1), 1, 0, 0, 0), (.goto 8, 3, 144, 0, 0)]),
  (139, [(.iload 4, 2, 0, 0, 0), (.bipush 12, 2, 0, 0, 0), (.idiv, 1, 0, 0, 0)]),
  (144, [(.ireturn, 1, 0, 0, 0)]),
  (145, [(.iload_n 3, 1, 0, 0, 0), (.iconst 1, 1, 0, 0, 0), (.if_icmp .ge 7, 3, 154, 0, 0)]),
  (150, [(.iconst (-1), 1, 0, 0, 0), (.goto 8, 3, 159, 0, 0)]),
  (154, [(.iload 4, 2, 0, 0, 0), (.bipush 12, 2, 0, 0, 0), (.irem, 1, 0, 0, 0)]),
  (159, [(.ireturn, 1, 0, 0, 0)]),
  (160, [(.iload_n 3, 1, 0, 0, 0), (.iconst 2, 1, 0, 0, 0), (.if_icmp .ge 7, 3, 169, 0, 0)]),
  (165, [(.iconst (-1), 1, 0, 0, 0), (.goto 8, 3, 174, 0, 0)]),
  (169, [(.iload 5, 2, 0, 0, 0), (.bipush 12, 2, 0, 0, 0), (.idiv, 1, 0, 0, 0)]),
  (174, [(.ireturn, 1, 0, 0, 0)]),
  (175, [(.iload_n 3, 1, 0, 0, 0), (.iconst 2, 1, 0, 0, 0), (.if_icmp .ge 7, 3, 184, 0, 0)]),
  (180, [(.iconst (-1), 1, 0, 0, 0), (.goto 8, 3, 189, 0, 0)]),
  (184, [(.iload 5, 2, 0, 0, 0), (.bipush 12, 2, 0, 0, 0), (.irem, 1, 0, 0, 0)]),
  (189, [(.ireturn, 1, 0, 0, 0)]),
  (190, [(.aload_n 0, 1, 0, 0, 0), (.getfield 406, 3, 11, 45, 1235), (.ireturn, 1, 0, 0, 0)]),
  (195, [(.iinc 3 1, 3, 0, 0, 0), (.goto (-157), 3, 41, 0, 0)]),
  (201, [(.iload_n 2, 1, 0, 0, 0), (.iconst 5, 1, 0, 0, 0), (.if_icmp .ne 7, 3, 210, 0, 0)]),
  (206, [(.iconst 0, 1, 0, 0, 0), (.goto 4, 3, 211, 0, 0)]),
  (210, [(.iconst (-1), 1, 0, 0, 0)]),
  (211, [(.ireturn, 1, 0, 0, 0)])]
set_option maxRecDepth 20000 in
theorem ck_X11_swaps : en_ck 239 bs_X11_swaps = true := en_ckF_ok (J := (yX11_swaps, cX11_swaps, 6, some .int, 11, 0)) (q := (1666, 1664, 1773, 12)) rfl rfl rfl (by decide +kernel)
def bs_X11_swap : en_Bs := [
  (0, [(.aload_n 0, 1, 0, 0, 0), (.iconst 0, 1, 0, 0, 0), (.putfield 121, 3, 11, 0, 1190), (.aload_n 0, 1, 0, 0, 0), (.iload_n 1, 1, 0, 0, 0), (.invokevirtual 150, 3, 167, 2, 1377)]),
  (10, [(.ifCond .eq 11, 3, 21, 0, 0)]),
  (13, [(.aload_n 0, 1, 0, 0, 0), (.iload_n 2, 1, 0, 0, 0), (.invokevirtual 150, 3, 167, 2, 1377)]),
  (18, [(.ifCond .ne 10, 3, 28, 0, 0)]),
  (21, [(.aload_n 0, 1, 0, 0, 0), (.bipush (-2), 2, 0, 0, 0), (.invokevirtual 135, 3, 162, 2, 1354)]),
  (27, [(.ireturn, 1, 0, 0, 0)]),
  (28, [(.iload_n 1, 1, 0, 0, 0), (.iload_n 2, 1, 0, 0, 0), (.if_icmp .ne 10, 3, 40, 0, 0)]),
  (33, [(.aload_n 0, 1, 0, 0, 0), (.bipush (-3), 2, 0, 0, 0), (.invokevirtual 135, 3, 162, 2, 1354)]),
  (39, [(.ireturn, 1, 0, 0, 0)]),
  (40, [(.iconst 1, 1, 0, 0, 0), (.istore_n 3, 1, 0, 0, 0)]),
  (42, [(.iload_n 3, 1, 0, 0, 0), (.iconst 3, 1, 0, 0, 0), (.if_icmp .ge 65, 3, 109, 0, 0)]),
  (47, [(.aload_n 0, 1, 0, 0, 0), (.getfield 13, 3, 11, 3, 1193), (.bipush 10, 2, 0, 0, 0), (.iconst 3, 1, 0, 0, 0), (.iload_n 1, 1, 0, 0, 0), (.imul, 1, 0, 0, 0), (.iadd, 1, 0, 0, 0), (.iload_n 3, 1, 0, 0, 0), (.iadd, 1, 0, 0, 0), (.iaload, 1, 0, 0, 0), (.istore 4, 2, 0, 0, 0), (.aload_n 0, 1, 0, 0, 0), (.getfield 13, 3, 11, 3, 1193), (.bipush 10, 2, 0, 0, 0), (.iconst 3, 1, 0, 0, 0), (.iload_n 1, 1, 0, 0, 0), (.imul, 1, 0, 0, 0), (.iadd, 1, 0, 0, 0), (.iload_n 3, 1, 0, 0, 0), (.iadd, 1, 0, 0, 0), (.aload_n 0, 1, 0, 0, 0), (.getfield 13, 3, 11, 3, 1193), (.bipush 10, 2, 0, 0, 0), (.iconst 3, 1, 0, 0, 0), (.iload_n 2, 1, 0, 0, 0), (.imul, 1, 0, 0, 0), (.iadd, 1, 0, 0, 0), (.iload_n 3, 1, 0, 0, 0), (.iadd, 1, 0, 0, 0), (.iaload, 1, 0, 0, 0), (.iastore, 1, 0, 0, 0), (.aload_n 0, 1, 0, 0, 0), (.getfield 13, 3, 11, 3, 1193), (.bipush 10, 2, 0, 0, 0), (.iconst 3, 1, 0, 0, 0), (.iload_n 2, 1, 0, 0, 0), (.imul, 1, 0, 0, 0), (.iadd, 1, 0, 0, 0), (.iload_n 3, 1, 0, 0, 0), (.iadd, 1, 0, 0, 0), (.iload 4, 2, 0, 0, 0), (.iastore, 1, 0, 0, 0), (.iinc 3 1, 3, 0, 0, 0), (.goto (-64), 3, 42, 0, 0)]),
  (109, [(.aload_n 0, 1, 0, 0, 0), (.iconst 0, 1, 0, 0, 0), (.invokevirtual 135, 3, 162, 2, 1354)]),
  (114, [(.ireturn, 1, 0, 0, 0)])]
set_option maxRecDepth 20000 in
theorem ck_X11_swap : en_ck 240 bs_X11_swap = true := en_ckF_ok (J := (yX11_swap, cX11_swap, 5, some .int, 11, 0)) (q := (1682, 1680, 1789, 12)) rfl rfl rfl (by decide +kernel)
def bs_X11_nobodyOut : en_Bs := [
  (0, [(.iconst 1, 1, 0, 0, 0), (.istore_n 1, 1, 0, 0, 0), (.iconst 0, 1, 0, 0, 0), (.istore_n 2, 1, 0, 0, 0)]),
  (4, [(.iload_n 2, 1, 0, 0, 0), (.aload_n 0, 1, 0, 0, 0), (.getfield 13, 3, 11, 3, 1193), (.iconst 1, 1, 0, 0, 0), (.iaload, 1, 0, 0, 0), (.if_icmp .ge 27, 3, 38, 0, 0)]),
  (14, [(.iload_n 1, 1, 0, 0, 0), (.ifCond .eq 15, 3, 30, 0, 0)]),
  (18, [(.aload_n 0, 1, 0, 0, 0), (.iload_n 2, 1, 0, 0, 0), (.invokevirtual 382, 3, 223, 2, 1606)]),
  (23, [(.ifCond .eq 7, 3, 30, 0, 0)]),
  (26, [(.iconst 1, 1, 0, 0, 0), (.goto 4, 3, 31, 0, 0)]),
  (30, [(.iconst 0, 1, 0, 0, 0)]),
  (31, [(.istore_n 1, 1, 0, 0, 0), (.iinc 2 1, 3, 0, 0, 0), (.goto (-31), 3, 4, 0, 0)]),
  (38, [(.iload_n 1, 1, 0, 0, 0), (.ireturn, 1, 0, 0, 0)])]
set_option maxRecDepth 20000 in
theorem ck_X11_nobodyOut : en_ck 241 bs_X11_nobodyOut = true := en_ckF_ok (J := (yX11_nobodyOut, cX11_nobodyOut, 3, some .boolean, 11, 0)) (q := (1694, 1693, 99, 12)) rfl rfl rfl (by decide +kernel)
def bs_X11_home : en_Bs := [
  (0, [(.aload_n 0, 1, 0, 0, 0), (.iconst 0, 1, 0, 0, 0), (.putfield 121, 3, 11, 0, 1190), (.iload_n 1, 1, 0, 0, 0), (.i2l, 1, 0, 0, 0), (.lconst 0, 1, 0, 0, 0), (.ldc2_w 421, 3, 0, 2, 1687), (.invokestatic 131, 3, 159, 3, 1351)]),
  (14, [(.ifCond .ne 5, 3, 19, 0, 0)]),
  (17, [(.iconst (-1), 1, 0, 0, 0), (.ireturn, 1, 0, 0, 0)]),
  (19, [(.iconst 0, 1, 0, 0, 0), (.istore_n 2, 1, 0, 0, 0)]),
  (21, [(.iload_n 2, 1, 0, 0, 0), (.iconst 4, 1, 0, 0, 0), (.if_icmp .ge 114, 3, 137, 0, 0)]),
  (26, [(.iconst 0, 1, 0, 0, 0), (.istore_n 3, 1, 0, 0, 0), (.iconst (-1), 1, 0, 0, 0), (.istore 4, 2, 0, 0, 0), (.iconst 0, 1, 0, 0, 0), (.istore 5, 2, 0, 0, 0)]),
  (34, [(.iload 5, 2, 0, 0, 0), (.iconst 1, 1, 0, 0, 0), (.aload_n 0, 1, 0, 0, 0), (.getfield 13, 3, 11, 3, 1193), (.iconst 0, 1, 0, 0, 0), (.iaload, 1, 0, 0, 0), (.ishl, 1, 0, 0, 0), (.if_icmp .ge 63, 3, 107, 0, 0)]),
  (47, [(.iload 5, 2, 0, 0, 0), (.invokestatic 423, 3, 161, 1, 1688)]),
  (52, [(.iload_n 2, 1, 0, 0, 0), (.if_icmp .ne 48, 3, 101, 0, 0)]),
  (56, [(.aload_n 0, 1, 0, 0, 0), (.invokevirtual 391, 3, 215, 1, 1594)]),
  (60, [(.aload_n 0, 1, 0, 0, 0), (.iload 5, 2, 0, 0, 0), (.putfield 355, 3, 11, 36, 1226), (.aload_n 0, 1, 0, 0, 0), (.invokevirtual 426, 3, 241, 1, 1691)]),
  (70, [(.ifCond .eq 31, 3, 101, 0, 0)]),
  (73, [(.aload_n 0, 1, 0, 0, 0), (.sipush 255, 3, 0, 0, 0), (.bipush 99, 2, 0, 0, 0), (.invokevirtual 415, 3, 237, 3, 1675)]),
  (82, [(.ifCond .eq 19, 3, 101, 0, 0)]),
  (85, [(.iload_n 3, 1, 0, 0, 0), (.ifCond .ne 8, 3, 94, 0, 0)]),
  (89, [(.iload 5, 2, 0, 0, 0), (.goto 5, 3, 96, 0, 0)]),
  (94, [(.iload 4, 2, 0, 0, 0)]),
  (96, [(.istore 4, 2, 0, 0, 0), (.iinc 3 1, 3, 0, 0, 0)]),
  (101, [(.iinc 5 1, 3, 0, 0, 0), (.goto (-70), 3, 34, 0, 0)]),
  (107, [(.iload_n 3, 1, 0, 0, 0), (.ifCond .le 23, 3, 131, 0, 0)]),
  (111, [(.iload_n 1, 1, 0, 0, 0), (.ifCond .ne 7, 3, 119, 0, 0)]),
  (115, [(.iload_n 2, 1, 0, 0, 0), (.goto 14, 3, 130, 0, 0)]),
  (119, [(.iload_n 1, 1, 0, 0, 0), (.iconst 1, 1, 0, 0, 0), (.if_icmp .ne 8, 3, 129, 0, 0)]),
  (124, [(.iload 4, 2, 0, 0, 0), (.goto 4, 3, 130, 0, 0)]),
  (129, [(.iload_n 3, 1, 0, 0, 0)]),
  (130, [(.ireturn, 1, 0, 0, 0)]),
  (131, [(.iinc 2 1, 3, 0, 0, 0), (.goto (-113), 3, 21, 0, 0)]),
  (137, [(.iload_n 1, 1, 0, 0, 0), (.iconst 2, 1, 0, 0, 0), (.if_icmp .ne 7, 3, 146, 0, 0)]),
  (142, [(.iconst 0, 1, 0, 0, 0), (.goto 4, 3, 147, 0, 0)]),
  (146, [(.iconst (-1), 1, 0, 0, 0)]),
  (147, [(.ireturn, 1, 0, 0, 0)])]
set_option maxRecDepth 20000 in
theorem ck_X11_home : en_ck 242 bs_X11_home = true := en_ckF_ok (J := (yX11_home, cX11_home, 6, some .int, 11, 0)) (q := (1686, 1684, 1793, 12)) rfl rfl rfl (by decide +kernel)
def bs_X11_costOf : en_Bs := [
  (0, [(.aload_n 0, 1, 0, 0, 0), (.iload_n 1, 1, 0, 0, 0), (.invokevirtual 367, 3, 219, 2, 1574)]),
  (5, [(.istore_n 2, 1, 0, 0, 0), (.iconst 0, 1, 0, 0, 0), (.istore_n 3, 1, 0, 0, 0), (.iconst 0, 1, 0, 0, 0), (.istore 4, 2, 0, 0, 0)]),
  (11, [(.iload 4, 2, 0, 0, 0), (.iload_n 2, 1, 0, 0, 0), (.if_icmp .ge 24, 3, 38, 0, 0)]),
  (17, [(.iload_n 3, 1, 0, 0, 0), (.aload_n 0, 1, 0, 0, 0), (.iload_n 1, 1, 0, 0, 0), (.aload_n 0, 1, 0, 0, 0), (.getfield 91, 3, 11, 37, 1227), (.iload 4, 2, 0, 0, 0), (.iaload, 1, 0, 0, 0), (.invokevirtual 429, 3, 217, 3, 1703)]),
  (30, [(.iadd, 1, 0, 0, 0), (.istore_n 3, 1, 0, 0, 0), (.iinc 4 1, 3, 0, 0, 0), (.goto (-24), 3, 11, 0, 0)]),
  (38, [(.iload_n 2, 1, 0, 0, 0), (.iconst (-1), 1, 0, 0, 0), (.if_icmp .ne 7, 3, 47, 0, 0)]),
  (43, [(.iconst (-1), 1, 0, 0, 0), (.goto 4, 3, 48, 0, 0)]),
  (47, [(.iload_n 3, 1, 0, 0, 0)]),
  (48, [(.ireturn, 1, 0, 0, 0)])]
set_option maxRecDepth 20000 in
theorem ck_X11_costOf : en_ck 243 bs_X11_costOf = true := en_ckF_ok (J := (yX11_costOf, cX11_costOf, 5, some .int, 11, 0)) (q := (1702, 1701, 100, 12)) rfl rfl rfl (by decide +kernel)
def bs_X11_cost : en_Bs := [
  (0, [(.aload_n 0, 1, 0, 0, 0), (.iconst 0, 1, 0, 0, 0), (.putfield 121, 3, 11, 0, 1190), (.aload_n 0, 1, 0, 0, 0), (.iload_n 1, 1, 0, 0, 0), (.invokevirtual 179, 3, 168, 2, 1421)]),
  (10, [(.ifCond .ne 5, 3, 15, 0, 0)]),
  (13, [(.iconst (-1), 1, 0, 0, 0), (.ireturn, 1, 0, 0, 0)]),
  (15, [(.aload_n 0, 1, 0, 0, 0), (.invokevirtual 391, 3, 215, 1, 1594)]),
  (19, [(.aload_n 0, 1, 0, 0, 0), (.iload_n 1, 1, 0, 0, 0), (.invokevirtual 432, 3, 243, 2, 1699)]),
  (24, [(.ireturn, 1, 0, 0, 0)])]
set_option maxRecDepth 20000 in
theorem ck_X11_cost : en_ck 244 bs_X11_cost = true := en_ckF_ok (J := (yX11_cost, cX11_cost, 2, some .int, 11, 0)) (q := (1698, 1696, 1805, 12)) rfl rfl rfl (by decide +kernel)
def bs_X11_isSent : en_Bs := [
  (0, [(.aload_n 0, 1, 0, 0, 0), (.iload_n 1, 1, 0, 0, 0), (.invokevirtual 432, 3, 243, 2, 1699)]),
  (5, [(.istore_n 2, 1, 0, 0, 0), (.iload_n 2, 1, 0, 0, 0), (.iconst (-1), 1, 0, 0, 0), (.if_icmp .eq 17, 3, 25, 0, 0)]),
  (11, [(.iload_n 2, 1, 0, 0, 0), (.aload_n 0, 1, 0, 0, 0), (.iload_n 1, 1, 0, 0, 0), (.iconst 5, 1, 0, 0, 0), (.invokevirtual 184, 3, 170, 3, 1426)]),
  (18, [(.if_icmp .gt 7, 3, 25, 0, 0)]),
  (21, [(.iconst 1, 1, 0, 0, 0), (.goto 4, 3, 26, 0, 0)]),
  (25, [(.iconst 0, 1, 0, 0, 0)]),
  (26, [(.ireturn, 1, 0, 0, 0)])]
set_option maxRecDepth 20000 in
theorem ck_X11_isSent : en_ck 245 bs_X11_isSent = true := en_ckF_ok (J := (yX11_isSent, cX11_isSent, 3, some .boolean, 11, 0)) (q := (1715, 1714, 102, 12)) rfl rfl rfl (by decide +kernel)
def bs_X11_sent : en_Bs := [
  (0, [(.aload_n 0, 1, 0, 0, 0), (.iconst 0, 1, 0, 0, 0), (.putfield 121, 3, 11, 0, 1190), (.aload_n 0, 1, 0, 0, 0), (.iload_n 1, 1, 0, 0, 0), (.invokevirtual 179, 3, 168, 2, 1421)]),
  (10, [(.ifCond .ne 5, 3, 15, 0, 0)]),
  (13, [(.iconst (-1), 1, 0, 0, 0), (.ireturn, 1, 0, 0, 0)]),
  (15, [(.aload_n 0, 1, 0, 0, 0), (.invokevirtual 391, 3, 215, 1, 1594)]),
  (19, [(.aload_n 0, 1, 0, 0, 0), (.iload_n 1, 1, 0, 0, 0), (.invokevirtual 435, 3, 245, 2, 1712)]),
  (24, [(.ifCond .eq 7, 3, 31, 0, 0)]),
  (27, [(.iconst 1, 1, 0, 0, 0), (.goto 4, 3, 32, 0, 0)]),
  (31, [(.iconst 0, 1, 0, 0, 0)]),
  (32, [(.ireturn, 1, 0, 0, 0)])]
set_option maxRecDepth 20000 in
theorem ck_X11_sent : en_ck 246 bs_X11_sent = true := en_ckF_ok (J := (yX11_sent, cX11_sent, 2, some .int, 11, 0)) (q := (1711, 1709, 1818, 12)) rfl rfl rfl (by decide +kernel)
def bs_X11_incomeOf : en_Bs := [
  (0, [(.iconst 0, 1, 0, 0, 0), (.istore_n 2, 1, 0, 0, 0), (.iconst 0, 1, 0, 0, 0), (.istore_n 3, 1, 0, 0, 0)]),
  (4, [(.iload_n 3, 1, 0, 0, 0), (.aload_n 0, 1, 0, 0, 0), (.getfield 13, 3, 11, 3, 1193), (.iconst 1, 1, 0, 0, 0), (.iaload, 1, 0, 0, 0), (.if_icmp .ge 64, 3, 75, 0, 0)]),
  (14, [(.aload_n 0, 1, 0, 0, 0), (.iload_n 3, 1, 0, 0, 0), (.invokevirtual 435, 3, 245, 2, 1712)]),
  (19, [(.ifCond .eq 50, 3, 69, 0, 0)]),
  (22, [(.aload_n 0, 1, 0, 0, 0), (.iload_n 3, 1, 0, 0, 0), (.invokevirtual 367, 3, 219, 2, 1574)]),
  (27, [(.istore 4, 2, 0, 0, 0), (.iconst 0, 1, 0, 0, 0), (.istore 5, 2, 0, 0, 0)]),
  (32, [(.iload 5, 2, 0, 0, 0), (.iload 4, 2, 0, 0, 0), (.if_icmp .ge 33, 3, 69, 0, 0)]),
  (39, [(.iload_n 2, 1, 0, 0, 0), (.aload_n 0, 1, 0, 0, 0), (.getfield 91, 3, 11, 37, 1227), (.iload 5, 2, 0, 0, 0), (.iaload, 1, 0, 0, 0), (.iload_n 1, 1, 0, 0, 0), (.if_icmp .ne 12, 3, 60, 0, 0)]),
  (51, [(.aload_n 0, 1, 0, 0, 0), (.iload_n 3, 1, 0, 0, 0), (.iload_n 1, 1, 0, 0, 0), (.invokevirtual 429, 3, 217, 3, 1703)]),
  (57, [(.goto 4, 3, 61, 0, 0)]),
  (60, [(.iconst 0, 1, 0, 0, 0)]),
  (61, [(.iadd, 1, 0, 0, 0), (.istore_n 2, 1, 0, 0, 0), (.iinc 5 1, 3, 0, 0, 0), (.goto (-34), 3, 32, 0, 0)]),
  (69, [(.iinc 3 1, 3, 0, 0, 0), (.goto (-68), 3, 4, 0, 0)]),
  (75, [(.iload_n 2, 1, 0, 0, 0), (.ireturn, 1, 0, 0, 0)])]
set_option maxRecDepth 20000 in
theorem ck_X11_incomeOf : en_ck 247 bs_X11_incomeOf = true := en_ckF_ok (J := (yX11_incomeOf, cX11_incomeOf, 6, some .int, 11, 0)) (q := (1723, 1722, 103, 12)) rfl rfl rfl (by decide +kernel)
def bs_X11_income : en_Bs := [
  (0, [(.aload_n 0, 1, 0, 0, 0), (.iconst 0, 1, 0, 0, 0), (.putfield 121, 3, 11, 0, 1190), (.aload_n 0, 1, 0, 0, 0), (.iload_n 1, 1, 0, 0, 0), (.invokevirtual 150, 3, 167, 2, 1377)]),
  (10, [(.ifCond .ne 5, 3, 15, 0, 0)]),
  (13, [(.iconst (-1), 1, 0, 0, 0), (.ireturn, 1, 0, 0, 0)]),
  (15, [(.aload_n 0, 1, 0, 0, 0), (.invokevirtual 391, 3, 215, 1, 1594)]),
  (19, [(.aload_n 0, 1, 0, 0, 0), (.iload_n 1, 1, 0, 0, 0), (.invokevirtual 438, 3, 247, 2, 1720)]),
  (24, [(.ireturn, 1, 0, 0, 0)])]
set_option maxRecDepth 20000 in
theorem ck_X11_income : en_ck 248 bs_X11_income = true := en_ckF_ok (J := (yX11_income, cX11_income, 2, some .int, 11, 0)) (q := (1719, 1717, 1826, 12)) rfl rfl rfl (by decide +kernel)
def bs_X11_answerOf : en_Bs := [
  (0, [(.aload_n 0, 1, 0, 0, 0), (.getfield 85, 3, 11, 34, 1224), (.iload_n 1, 1, 0, 0, 0), (.iaload, 1, 0, 0, 0), (.istore_n 2, 1, 0, 0, 0), (.iconst 0, 1, 0, 0, 0), (.istore_n 3, 1, 0, 0, 0), (.aload_n 0, 1, 0, 0, 0), (.iconst (-1), 1, 0, 0, 0), (.putfield 441, 3, 11, 47, 1237), (.iconst 0, 1, 0, 0, 0), (.istore 4, 2, 0, 0, 0)]),
  (17, [(.iload 4, 2, 0, 0, 0), (.bipush 100, 2, 0, 0, 0), (.if_icmp .ge 62, 3, 83, 0, 0)]),
  (24, [(.aload_n 0, 1, 0, 0, 0), (.getfield 85, 3, 11, 34, 1224), (.iload_n 1, 1, 0, 0, 0), (.iload 4, 2, 0, 0, 0), (.iastore, 1, 0, 0, 0), (.aload_n 0, 1, 0, 0, 0), (.iload_n 1, 1, 0, 0, 0), (.invokevirtual 438, 3, 247, 2, 1720)]),
  (37, [(.istore 5, 2, 0, 0, 0), (.iload 5, 2, 0, 0, 0), (.aload_n 0, 1, 0, 0, 0), (.getfield 441, 3, 11, 47, 1237), (.if_icmp .le 8, 3, 53, 0, 0)]),
  (48, [(.iload 4, 2, 0, 0, 0), (.goto 4, 3, 54, 0, 0)]),
  (53, [(.iload_n 3, 1, 0, 0, 0)]),
  (54, [(.istore_n 3, 1, 0, 0, 0), (.aload_n 0, 1, 0, 0, 0), (.iload 5, 2, 0, 0, 0), (.aload_n 0, 1, 0, 0, 0), (.getfield 441, 3, 11, 47, 1237), (.if_icmp .le 8, 3, 70, 0, 0)]),
  (65, [(.iload 5, 2, 0, 0, 0), (.goto 7, 3, 74, 0, 0)]),
  (70, [(.aload_n 0, 1, 0, 0, 0), (.getfield 441, 3, 11, 47, 1237)]),
  (74, [(.putfield 441, 3, 11, 47, 1237), (.iinc 4 1, 3, 0, 0, 0), (.goto (-63), 3, 17, 0, 0)]),
  (83, [(.aload_n 0, 1, 0, 0, 0), (.getfield 85, 3, 11, 34, 1224), (.iload_n 1, 1, 0, 0, 0), (.iload_n 2, 1, 0, 0, 0), (.iastore, 1, 0, 0, 0), (.iload_n 3, 1, 0, 0, 0), (.ireturn, 1, 0, 0, 0)])]
set_option maxRecDepth 20000 in
theorem ck_X11_answerOf : en_ck 249 bs_X11_answerOf = true := en_ckF_ok (J := (yX11_answerOf, cX11_answerOf, 6, some .int, 11, 0)) (q := (1731, 1730, 104, 12)) rfl rfl rfl (by decide +kernel)
def bs_X11_answer : en_Bs := [
  (0, [(.aload_n 0, 1, 0, 0, 0), (.iconst 0, 1, 0, 0, 0), (.putfield 121, 3, 11, 0, 1190), (.aload_n 0, 1, 0, 0, 0), (.iload_n 1, 1, 0, 0, 0), (.invokevirtual 150, 3, 167, 2, 1377)]),
  (10, [(.ifCond .eq 13, 3, 23, 0, 0)]),
  (13, [(.iload_n 2, 1, 0, 0, 0), (.i2l, 1, 0, 0, 0), (.lconst 0, 1, 0, 0, 0), (.lconst 1, 1, 0, 0, 0), (.invokestatic 131, 3, 159, 3, 1351)]),
  (20, [(.ifCond .ne 5, 3, 25, 0, 0)]),
  (23, [(.iconst (-1), 1, 0, 0, 0), (.ireturn, 1, 0, 0, 0)]),
  (25, [(.aload_n 0, 1, 0, 0, 0), (.invokevirtual 391, 3, 215, 1, 1594)]),
  (29, [(.aload_n 0, 1, 0, 0, 0), (.iload_n 1, 1, 0, 0, 0), (.invokevirtual 444, 3, 249, 2, 1728)]),
  (34, [(.istore_n 3, 1, 0, 0, 0), (.iload_n 2, 1, 0, 0, 0), (.ifCond .ne 7, 3, 43, 0, 0)]),
  (39, [(.iload_n 3, 1, 0, 0, 0), (.goto 7, 3, 47, 0, 0)]),
  (43, [(.aload_n 0, 1, 0, 0, 0), (.getfield 441, 3, 11, 47, 1237)]),
  (47, [(.ireturn, 1, 0, 0, 0)])]
set_option maxRecDepth 20000 in
theorem ck_X11_answer : en_ck 250 bs_X11_answer = true := en_ckF_ok (J := (yX11_answer, cX11_answer, 4, some .int, 11, 0)) (q := (1727, 1725, 1834, 12)) rfl rfl rfl (by decide +kernel)
def bs_X11_restless : en_Bs := [
  (0, [(.aload_n 0, 1, 0, 0, 0), (.iconst 0, 1, 0, 0, 0), (.putfield 121, 3, 11, 0, 1190), (.aload_n 0, 1, 0, 0, 0), (.invokevirtual 391, 3, 215, 1, 1594)]),
  (9, [(.iconst 0, 1, 0, 0, 0), (.istore_n 1, 1, 0, 0, 0)]),
  (11, [(.iload_n 1, 1, 0, 0, 0), (.aload_n 0, 1, 0, 0, 0), (.getfield 13, 3, 11, 3, 1193), (.iconst 0, 1, 0, 0, 0), (.iaload, 1, 0, 0, 0), (.if_icmp .ge 36, 3, 54, 0, 0)]),
  (21, [(.aload_n 0, 1, 0, 0, 0), (.iload_n 1, 1, 0, 0, 0), (.invokevirtual 438, 3, 247, 2, 1720)]),
  (26, [(.istore_n 2, 1, 0, 0, 0), (.aload_n 0, 1, 0, 0, 0), (.iload_n 1, 1, 0, 0, 0), (.invokevirtual 444, 3, 249, 2, 1728)]),
  (32, [(.istore_n 3, 1, 0, 0, 0), (.iload_n 3, 1, 0, 0, 0), (.iconst (-1), 1, 0, 0, 0), (.if_icmp .eq 13, 3, 48, 0, 0)]),
  (38, [(.aload_n 0, 1, 0, 0, 0), (.getfield 441, 3, 11, 47, 1237), (.iload_n 2, 1, 0, 0, 0), (.if_icmp .le 5, 3, 48, 0, 0)]),
  (46, [(.iload_n 1, 1, 0, 0, 0), (.ireturn, 1, 0, 0, 0)]),
  (48, [(.iinc 1 1, 3, 0, 0, 0), (.goto (-40), 3, 11, 0, 0)]),
  (54, [(.iconst (-1), 1, 0, 0, 0), (.ireturn, 1, 0, 0, 0)])]
set_option maxRecDepth 20000 in
theorem ck_X11_restless : en_ck 251 bs_X11_restless = true := en_ckF_ok (J := (yX11_restless, cX11_restless, 4, some .int, 11, 0)) (q := (1735, 1733, 1842, 12)) rfl rfl rfl (by decide +kernel)
def bs_X11_rests : en_Bs := [
  (0, [(.aload_n 0, 1, 0, 0, 0), (.iconst 0, 1, 0, 0, 0), (.putfield 121, 3, 11, 0, 1190), (.iload_n 1, 1, 0, 0, 0), (.iconst (-1), 1, 0, 0, 0), (.if_icmp .eq 13, 3, 20, 0, 0)]),
  (10, [(.aload_n 0, 1, 0, 0, 0), (.iload_n 1, 1, 0, 0, 0), (.invokevirtual 150, 3, 167, 2, 1377)]),
  (15, [(.ifCond .ne 5, 3, 20, 0, 0)]),
  (18, [(.iconst (-1), 1, 0, 0, 0), (.ireturn, 1, 0, 0, 0)]),
  (20, [(.aload_n 0, 1, 0, 0, 0), (.invokevirtual 391, 3, 215, 1, 1594)]),
  (24, [(.iconst 0, 1, 0, 0, 0), (.istore_n 2, 1, 0, 0, 0), (.iconst 1, 1, 0, 0, 0), (.istore_n 3, 1, 0, 0, 0)]),
  (28, [(.iload_n 3, 1, 0, 0, 0), (.ifCond .eq 73, 3, 102, 0, 0)]),
  (32, [(.iload_n 2, 1, 0, 0, 0), (.bipush 50, 2, 0, 0, 0), (.if_icmp .ge 67, 3, 102, 0, 0)]),
  (38, [(.iconst 0, 1, 0, 0, 0), (.istore_n 3, 1, 0, 0, 0), (.iinc 2 1, 3, 0, 0, 0), (.iconst 0, 1, 0, 0, 0), (.istore 4, 2, 0, 0, 0)]),
  (46, [(.iload 4, 2, 0, 0, 0), (.aload_n 0, 1, 0, 0, 0), (.getfield 13, 3, 11, 3, 1193), (.iconst 0, 1, 0, 0, 0), (.iaload, 1, 0, 0, 0), (.if_icmp .ge 45, 3, 99, 0, 0)]),
  (57, [(.aload_n 0, 1, 0, 0, 0), (.iload 4, 2, 0, 0, 0), (.invokevirtual 438, 3, 247, 2, 1720)]),
  (63, [(.istore 5, 2, 0, 0, 0), (.aload_n 0, 1, 0, 0, 0), (.iload 4, 2, 0, 0, 0), (.invokevirtual 444, 3, 249, 2, 1728)]),
  (71, [(.istore 6, 2, 0, 0, 0), (.aload_n 0, 1, 0, 0, 0), (.getfield 441, 3, 11, 47, 1237), (.iload 5, 2, 0, 0, 0), (.if_icmp .le 14, 3, 93, 0, 0)]),
  (82, [(.aload_n 0, 1, 0, 0, 0), (.getfield 85, 3, 11, 34, 1224), (.iload 4, 2, 0, 0, 0), (.iload 6, 2, 0, 0, 0), (.iastore, 1, 0, 0, 0), (.iconst 1, 1, 0, 0, 0), (.istore_n 3, 1, 0, 0, 0)]),
  (93, [(.iinc 4 1, 3, 0, 0, 0), (.goto (-50), 3, 46, 0, 0)]),
  (99, [(.goto (-71), 3, 28, 0, 0)]),
  (102, [(.iload_n 1, 1, 0, 0, 0), (.iconst (-1), 1, 0, 0, 0), (.if_icmp .eq 12, 3, 116, 0, 0)]),
  (107, [(.aload_n 0, 1, 0, 0, 0), (.getfield 85, 3, 11, 34, 1224), (.iload_n 1, 1, 0, 0, 0), (.iaload, 1, 0, 0, 0), (.goto 13, 3, 126, 0, 0)]),
  (116, [(.iload_n 3, 1, 0, 0, 0), (.ifCond .eq 8, 3, 125, 0, 0)]),
  (120, [(.bipush 51, 2, 0, 0, 0), (.goto 4, 3, 126, 0, 0)]),
  (125, [(.iload_n 2, 1, 0, 0, 0)]),
  (126, [(.ireturn, 1, 0, 0, 0)])]
set_option maxRecDepth 20000 in
theorem ck_X11_rests : en_ck 252 bs_X11_rests = true := en_ckF_ok (J := (yX11_rests, cX11_rests, 7, some .int, 11, 0)) (q := (1739, 1737, 1846, 12)) rfl rfl rfl (by decide +kernel)
def bs_X11_pieces : en_Bs := [
  (0, [(.aload_n 0, 1, 0, 0, 0), (.iconst 0, 1, 0, 0, 0), (.putfield 121, 3, 11, 0, 1190), (.aload_n 0, 1, 0, 0, 0), (.iload_n 1, 1, 0, 0, 0), (.invokevirtual 179, 3, 168, 2, 1421)]),
  (10, [(.ifCond .ne 5, 3, 15, 0, 0)]),
  (13, [(.iconst (-1), 1, 0, 0, 0), (.ireturn, 1, 0, 0, 0)]),
  (15, [(.aload_n 0, 1, 0, 0, 0), (.iload_n 1, 1, 0, 0, 0), (.invokevirtual 367, 3, 219, 2, 1574)]),
  (20, [(.istore_n 2, 1, 0, 0, 0), (.iload_n 2, 1, 0, 0, 0), (.iconst 1, 1, 0, 0, 0), (.if_icmp .ge 5, 3, 28, 0, 0)]),
  (26, [(.iload_n 2, 1, 0, 0, 0), (.ireturn, 1, 0, 0, 0)]),
  (28, [(.bipush 9, 2, 0, 0, 0), (.istore_n 3, 1, 0, 0, 0), (.iconst 0, 1, 0, 0, 0), (.istore 4, 2, 0, 0, 0)]),
  (34, [(.iload 4, 2, 0, 0, 0), (.iload_n 2, 1, 0, 0, 0), (.if_icmp .ge 42, 3, 79, 0, 0)]),
  (40, [(.aload_n 0, 1, 0, 0, 0), (.aload_n 0, 1, 0, 0, 0), (.getfield 91, 3, 11, 37, 1227), (.iload 4, 2, 0, 0, 0), (.iaload, 1, 0, 0, 0), (.iconst 1, 1, 0, 0, 0), (.invokevirtual 158, 3, 169, 3, 1398)]),
  (52, [(.iload_n 3, 1, 0, 0, 0), (.if_icmp .ge 18, 3, 71, 0, 0)]),
  (56, [(.aload_n 0, 1, 0, 0, 0), (.aload_n 0, 1, 0, 0, 0), (.getfield 91, 3, 11, 37, 1227), (.iload 4, 2, 0, 0, 0), (.iaload, 1, 0, 0, 0), (.iconst 1, 1, 0, 0, 0), (.invokevirtual 158, 3, 169, 3, 1398)]),
  (68, [(.goto 4, 3, 72, 0, 0)]),
  (71, [(.iload_n 3, 1, 0, 0, 0)]),
  (72, [(.istore_n 3, 1, 0, 0, 0), (.iinc 4 1, 3, 0, 0, 0), (.goto (-42), 3, 34, 0, 0)]),
  (79, [(.iload_n 2, 1, 0, 0, 0), (.aload_n 0, 1, 0, 0, 0), (.iload_n 1, 1, 0, 0, 0), (.iconst 0, 1, 0, 0, 0), (.invokevirtual 184, 3, 170, 3, 1426)]),
  (86, [(.iload_n 3, 1, 0, 0, 0), (.iadd, 1, 0, 0, 0), (.iconst 1, 1, 0, 0, 0), (.isub, 1, 0, 0, 0), (.iload_n 3, 1, 0, 0, 0), (.idiv, 1, 0, 0, 0), (.iadd, 1, 0, 0, 0), (.iconst 1, 1, 0, 0, 0), (.isub, 1, 0, 0, 0), (.ireturn, 1, 0, 0, 0)])]
set_option maxRecDepth 20000 in
theorem ck_X11_pieces : en_ck 253 bs_X11_pieces = true := en_ckF_ok (J := (yX11_pieces, cX11_pieces, 5, some .int, 11, 0)) (q := (1743, 1741, 1850, 12)) rfl rfl rfl (by decide +kernel)
def bs_X11_sign : en_Bs := [
  (0, [(.aload_n 0, 1, 0, 0, 0), (.iconst 0, 1, 0, 0, 0), (.putfield 121, 3, 11, 0, 1190), (.iload_n 2, 1, 0, 0, 0), (.i2l, 1, 0, 0, 0), (.lconst 0, 1, 0, 0, 0), (.ldc2_w 144, 3, 0, 99, 1372), (.invokestatic 131, 3, 159, 3, 1351)]),
  (14, [(.ifCond .ne 9, 3, 23, 0, 0)]),
  (17, [(.aload_n 0, 1, 0, 0, 0), (.iconst (-1), 1, 0, 0, 0), (.invokevirtual 135, 3, 162, 2, 1354)]),
  (22, [(.ireturn, 1, 0, 0, 0)]),
  (23, [(.aload_n 0, 1, 0, 0, 0), (.iload_n 1, 1, 0, 0, 0), (.invokevirtual 150, 3, 167, 2, 1377)]),
  (28, [(.ifCond .ne 10, 3, 38, 0, 0)]),
  (31, [(.aload_n 0, 1, 0, 0, 0), (.bipush (-2), 2, 0, 0, 0), (.invokevirtual 135, 3, 162, 2, 1354)]),
  (37, [(.ireturn, 1, 0, 0, 0)]),
  (38, [(.aload_n 0, 1, 0, 0, 0), (.getfield 13, 3, 11, 3, 1193), (.iconst 4, 1, 0, 0, 0), (.iaload, 1, 0, 0, 0), (.istore_n 3, 1, 0, 0, 0), (.iload_n 3, 1, 0, 0, 0), (.bipush 8, 2, 0, 0, 0), (.if_icmp .ne 10, 3, 58, 0, 0)]),
  (51, [(.aload_n 0, 1, 0, 0, 0), (.bipush (-5), 2, 0, 0, 0), (.invokevirtual 135, 3, 162, 2, 1354)]),
  (57, [(.ireturn, 1, 0, 0, 0)]),
  (58, [(.aload_n 0, 1, 0, 0, 0), (.getfield 13, 3, 11, 3, 1193), (.bipush 94, 2, 0, 0, 0), (.iconst 2, 1, 0, 0, 0), (.iload_n 3, 1, 0, 0, 0), (.imul, 1, 0, 0, 0), (.iadd, 1, 0, 0, 0), (.iload_n 1, 1, 0, 0, 0), (.iastore, 1, 0, 0, 0), (.aload_n 0, 1, 0, 0, 0), (.getfield 13, 3, 11, 3, 1193), (.bipush 94, 2, 0, 0, 0), (.iconst 2, 1, 0, 0, 0), (.iload_n 3, 1, 0, 0, 0), (.imul, 1, 0, 0, 0), (.iadd, 1, 0, 0, 0), (.iconst 1, 1, 0, 0, 0), (.iadd, 1, 0, 0, 0), (.iload_n 2, 1, 0, 0, 0), (.iastore, 1, 0, 0, 0), (.aload_n 0, 1, 0, 0, 0), (.getfield 13, 3, 11, 3, 1193), (.iconst 4, 1, 0, 0, 0), (.dup2, 1, 0, 0, 0), (.iaload, 1, 0, 0, 0), (.iconst 1, 1, 0, 0, 0), (.iadd, 1, 0, 0, 0), (.iastore, 1, 0, 0, 0), (.aload_n 0, 1, 0, 0, 0), (.iload_n 3, 1, 0, 0, 0), (.iconst 1, 1, 0, 0, 0), (.iadd, 1, 0, 0, 0), (.invokevirtual 135, 3, 162, 2, 1354)]),
  (101, [(.ireturn, 1, 0, 0, 0)])]
set_option maxRecDepth 20000 in
theorem ck_X11_sign : en_ck 254 bs_X11_sign = true := en_ckF_ok (J := (yX11_sign, cX11_sign, 4, some .int, 11, 0)) (q := (1747, 1745, 1854, 12)) rfl rfl rfl (by decide +kernel)
def bs_X11_clear : en_Bs := [
  (0, [(.aload_n 0, 1, 0, 0, 0), (.iconst 0, 1, 0, 0, 0), (.putfield 121, 3, 11, 0, 1190), (.aload_n 0, 1, 0, 0, 0), (.getfield 13, 3, 11, 3, 1193), (.iconst 4, 1, 0, 0, 0), (.iaload, 1, 0, 0, 0), (.istore_n 1, 1, 0, 0, 0), (.aload_n 0, 1, 0, 0, 0), (.getfield 13, 3, 11, 3, 1193), (.iconst 4, 1, 0, 0, 0), (.iconst 0, 1, 0, 0, 0), (.iastore, 1, 0, 0, 0), (.iload_n 1, 1, 0, 0, 0), (.ireturn, 1, 0, 0, 0)])]
set_option maxRecDepth 20000 in
theorem ck_X11_clear : en_ck 255 bs_X11_clear = true := en_ckF_ok (J := (yX11_clear, cX11_clear, 2, some .int, 11, 0)) (q := (1751, 1749, 1858, 12)) rfl rfl rfl (by decide +kernel)
def bs_X11_after : en_Bs := [
  (0, [(.iload_n 1, 1, 0, 0, 0), (.istore_n 3, 1, 0, 0, 0), (.iconst 0, 1, 0, 0, 0), (.istore 4, 2, 0, 0, 0)]),
  (5, [(.iload 4, 2, 0, 0, 0), (.iload_n 2, 1, 0, 0, 0), (.if_icmp .ge 21, 3, 29, 0, 0)]),
  (11, [(.iload_n 3, 1, 0, 0, 0), (.iconst (-1), 1, 0, 0, 0), (.if_icmp .eq 16, 3, 29, 0, 0)]),
  (16, [(.aload_n 0, 1, 0, 0, 0), (.iload_n 3, 1, 0, 0, 0), (.iconst 0, 1, 0, 0, 0), (.invokevirtual 166, 3, 174, 3, 1394)]),
  (22, [(.istore_n 3, 1, 0, 0, 0), (.iinc 4 1, 3, 0, 0, 0), (.goto (-21), 3, 5, 0, 0)]),
  (29, [(.iload_n 3, 1, 0, 0, 0), (.ireturn, 1, 0, 0, 0)])]
set_option maxRecDepth 20000 in
theorem ck_X11_after : en_ck 256 bs_X11_after = true := en_ckF_ok (J := (yX11_after, cX11_after, 5, some .int, 11, 0)) (q := (1759, 1758, 105, 12)) rfl rfl rfl (by decide +kernel)
def bs_X11_thieves : en_Bs := [
  (0, [(.aload_n 0, 1, 0, 0, 0), (.iconst 0, 1, 0, 0, 0), (.putfield 121, 3, 11, 0, 1190), (.iconst 0, 1, 0, 0, 0), (.istore_n 1, 1, 0, 0, 0), (.iconst 0, 1, 0, 0, 0), (.istore_n 2, 1, 0, 0, 0)]),
  (9, [(.iload_n 2, 1, 0, 0, 0), (.aload_n 0, 1, 0, 0, 0), (.getfield 13, 3, 11, 3, 1193), (.iconst 0, 1, 0, 0, 0), (.iaload, 1, 0, 0, 0), (.if_icmp .ge 89, 3, 105, 0, 0)]),
  (19, [(.iconst 1, 1, 0, 0, 0), (.istore_n 3, 1, 0, 0, 0), (.iconst 0, 1, 0, 0, 0), (.istore 4, 2, 0, 0, 0)]),
  (24, [(.iload 4, 2, 0, 0, 0), (.aload_n 0, 1, 0, 0, 0), (.getfield 13, 3, 11, 3, 1193), (.iconst 4, 1, 0, 0, 0), (.iaload, 1, 0, 0, 0), (.if_icmp .ge 53, 3, 85, 0, 0)]),
  (35, [(.iload_n 3, 1, 0, 0, 0), (.ifCond .eq 41, 3, 77, 0, 0)]),
  (39, [(.aload_n 0, 1, 0, 0, 0), (.iload_n 2, 1, 0, 0, 0), (.aload_n 0, 1, 0, 0, 0), (.getfield 13, 3, 11, 3, 1193), (.bipush 94, 2, 0, 0, 0), (.iconst 2, 1, 0, 0, 0), (.iload 4, 2, 0, 0, 0), (.imul, 1, 0, 0, 0), (.iadd, 1, 0, 0, 0), (.iconst 1, 1, 0, 0, 0), (.iadd, 1, 0, 0, 0), (.iaload, 1, 0, 0, 0), (.invokevirtual 447, 3, 256, 3, 1756)]),
  (58, [(.aload_n 0, 1, 0, 0, 0), (.getfield 13, 3, 11, 3, 1193), (.bipush 94, 2, 0, 0, 0), (.iconst 2, 1, 0, 0, 0), (.iload 4, 2, 0, 0, 0), (.imul, 1, 0, 0, 0), (.iadd, 1, 0, 0, 0), (.iaload, 1, 0, 0, 0), (.if_icmp .ne 7, 3, 77, 0, 0)]),
  (73, [(.iconst 1, 1, 0, 0, 0), (.goto 4, 3, 78, 0, 0)]),
  (77, [(.iconst 0, 1, 0, 0, 0)]),
  (78, [(.istore_n 3, 1, 0, 0, 0), (.iinc 4 1, 3, 0, 0, 0), (.goto (-58), 3, 24, 0, 0)]),
  (85, [(.iload_n 1, 1, 0, 0, 0), (.iload_n 3, 1, 0, 0, 0), (.ifCond .eq 9, 3, 96, 0, 0)]),
  (90, [(.iconst 1, 1, 0, 0, 0), (.iload_n 2, 1, 0, 0, 0), (.ishl, 1, 0, 0, 0), (.goto 4, 3, 97, 0, 0)]),
  (96, [(.iconst 0, 1, 0, 0, 0)]),
  (97, [(.ior, 1, 0, 0, 0), (.istore_n 1, 1, 0, 0, 0), (.iinc 2 1, 3, 0, 0, 0), (.goto (-93), 3, 9, 0, 0)]),
  (105, [(.iload_n 1, 1, 0, 0, 0), (.ireturn, 1, 0, 0, 0)])]
set_option maxRecDepth 20000 in
theorem ck_X11_thieves : en_ck 257 bs_X11_thieves = true := en_ckF_ok (J := (yX11_thieves, cX11_thieves, 5, some .int, 11, 0)) (q := (1755, 1753, 1862, 12)) rfl rfl rfl (by decide +kernel)
def bs_X11_meet : en_Bs := [
  (0, [(.aload_n 0, 1, 0, 0, 0), (.iconst 0, 1, 0, 0, 0), (.putfield 121, 3, 11, 0, 1190), (.aload_n 0, 1, 0, 0, 0), (.iload_n 1, 1, 0, 0, 0), (.invokevirtual 150, 3, 167, 2, 1377)]),
  (10, [(.ifCond .eq 21, 3, 31, 0, 0)]),
  (13, [(.aload_n 0, 1, 0, 0, 0), (.iload_n 2, 1, 0, 0, 0), (.invokevirtual 150, 3, 167, 2, 1377)]),
  (18, [(.ifCond .eq 13, 3, 31, 0, 0)]),
  (21, [(.iload_n 3, 1, 0, 0, 0), (.i2l, 1, 0, 0, 0), (.lconst 0, 1, 0, 0, 0), (.lconst 1, 1, 0, 0, 0), (.invokestatic 131, 3, 159, 3, 1351)]),
  (28, [(.ifCond .ne 5, 3, 33, 0, 0)]),
  (31, [(.iconst (-1), 1, 0, 0, 0), (.ireturn, 1, 0, 0, 0)]),
  (33, [(.iconst 0, 1, 0, 0, 0), (.istore 4, 2, 0, 0, 0)]),
  (36, [(.iload 4, 2, 0, 0, 0), (.bipush 100, 2, 0, 0, 0), (.if_icmp .ge 48, 3, 88, 0, 0)]),
  (43, [(.aload_n 0, 1, 0, 0, 0), (.iload_n 1, 1, 0, 0, 0), (.iload 4, 2, 0, 0, 0), (.invokevirtual 447, 3, 256, 3, 1756)]),
  (50, [(.istore 5, 2, 0, 0, 0), (.iload 5, 2, 0, 0, 0), (.iconst (-1), 1, 0, 0, 0), (.if_icmp .eq 27, 3, 82, 0, 0)]),
  (58, [(.iload 5, 2, 0, 0, 0), (.aload_n 0, 1, 0, 0, 0), (.iload_n 2, 1, 0, 0, 0), (.iload 4, 2, 0, 0, 0), (.invokevirtual 447, 3, 256, 3, 1756)]),
  (67, [(.if_icmp .ne 15, 3, 82, 0, 0)]),
  (70, [(.iload_n 3, 1, 0, 0, 0), (.ifCond .ne 8, 3, 79, 0, 0)]),
  (74, [(.iload 4, 2, 0, 0, 0), (.goto 5, 3, 81, 0, 0)]),
  (79, [(.iload 5, 2, 0, 0, 0)]),
  (81, [(.ireturn, 1, 0, 0, 0)]),
  (82, [(.iinc 4 1, 3, 0, 0, 0), (.goto (-49), 3, 36, 0, 0)]),
  (88, [(.iconst (-1), 1, 0, 0, 0), (.ireturn, 1, 0, 0, 0)])]
set_option maxRecDepth 20000 in
theorem ck_X11_meet : en_ck 258 bs_X11_meet = true := en_ckF_ok (J := (yX11_meet, cX11_meet, 6, some .int, 11, 0)) (q := (1763, 1761, 1870, 12)) rfl rfl rfl (by decide +kernel)
def bs_X11_draw3 : en_Bs := [
  (0, [(.aload_n 0, 1, 0, 0, 0), (.aload_n 0, 1, 0, 0, 0), (.getfield 450, 3, 11, 48, 1238), (.ldc2_w 453, 3, 0, 1103, 1772), (.lmul, 1, 0, 0, 0), (.ldc2_w 455, 3, 0, 12345, 1773), (.ladd, 1, 0, 0, 0), (.ldc2_w 457, 3, 0, 1000003, 1774), (.lrem, 1, 0, 0, 0), (.putfield 450, 3, 11, 48, 1238), (.aload_n 0, 1, 0, 0, 0), (.getfield 450, 3, 11, 48, 1238), (.iload_n 1, 1, 0, 0, 0), (.i2l, 1, 0, 0, 0), (.lrem, 1, 0, 0, 0), (.l2i, 1, 0, 0, 0), (.ireturn, 1, 0, 0, 0)])]
set_option maxRecDepth 20000 in
theorem ck_X11_draw3 : en_ck 259 bs_X11_draw3 = true := en_ckF_ok (J := (yX11_draw3, cX11_draw3, 2, some .int, 11, 0)) (q := (1771, 1770, 106, 12)) rfl rfl rfl (by decide +kernel)
def bs_X11_byNoon : en_Bs := [
  (0, [(.iconst 0, 1, 0, 0, 0), (.istore_n 1, 1, 0, 0, 0), (.iconst 0, 1, 0, 0, 0), (.istore_n 2, 1, 0, 0, 0)]),
  (4, [(.iload_n 2, 1, 0, 0, 0), (.aload_n 0, 1, 0, 0, 0), (.getfield 13, 3, 11, 3, 1193), (.iconst 1, 1, 0, 0, 0), (.iaload, 1, 0, 0, 0), (.if_icmp .ge 42, 3, 53, 0, 0)]),
  (14, [(.iload_n 1, 1, 0, 0, 0), (.aload_n 0, 1, 0, 0, 0), (.getfield 103, 3, 11, 41, 1231), (.iload_n 2, 1, 0, 0, 0), (.iaload, 1, 0, 0, 0), (.iconst (-1), 1, 0, 0, 0), (.if_icmp .eq 22, 3, 44, 0, 0)]),
  (25, [(.aload_n 0, 1, 0, 0, 0), (.getfield 103, 3, 11, 41, 1231), (.iload_n 2, 1, 0, 0, 0), (.iaload, 1, 0, 0, 0), (.aload_n 0, 1, 0, 0, 0), (.getfield 13, 3, 11, 3, 1193), (.iconst 5, 1, 0, 0, 0), (.iaload, 1, 0, 0, 0), (.if_icmp .gt 7, 3, 44, 0, 0)]),
  (40, [(.iconst 1, 1, 0, 0, 0), (.goto 4, 3, 45, 0, 0)]),
  (44, [(.iconst 0, 1, 0, 0, 0)]),
  (45, [(.iadd, 1, 0, 0, 0), (.istore_n 1, 1, 0, 0, 0), (.iinc 2 1, 3, 0, 0, 0), (.goto (-46), 3, 4, 0, 0)]),
  (53, [(.iload_n 1, 1, 0, 0, 0), (.ireturn, 1, 0, 0, 0)])]
set_option maxRecDepth 20000 in
theorem ck_X11_byNoon : en_ck 260 bs_X11_byNoon = true := en_ckF_ok (J := (yX11_byNoon, cX11_byNoon, 3, some .int, 11, 0)) (q := (1778, 1777, 107, 12)) rfl rfl rfl (by decide +kernel)
def bs_X11_draw : en_Bs := [
  (0, [(.aload_n 0, 1, 0, 0, 0), (.iconst 0, 1, 0, 0, 0), (.putfield 121, 3, 11, 0, 1190), (.iload_n 1, 1, 0, 0, 0), (.i2l, 1, 0, 0, 0), (.lconst 0, 1, 0, 0, 0), (.ldc2_w 229, 3, 0, 1000000, 1483), (.invokestatic 131, 3, 159, 3, 1351)]),
  (14, [(.ifCond .ne 9, 3, 23, 0, 0)]),
  (17, [(.aload_n 0, 1, 0, 0, 0), (.iconst (-1), 1, 0, 0, 0), (.invokevirtual 135, 3, 162, 2, 1354)]),
  (22, [(.ireturn, 1, 0, 0, 0)]),
  (23, [(.aload_n 0, 1, 0, 0, 0), (.iload_n 1, 1, 0, 0, 0), (.i2l, 1, 0, 0, 0), (.putfield 450, 3, 11, 48, 1238), (.aload_n 0, 1, 0, 0, 0), (.invokevirtual 391, 3, 215, 1, 1594)]),
  (33, [(.iconst 0, 1, 0, 0, 0), (.istore_n 2, 1, 0, 0, 0)]),
  (35, [(.iload_n 2, 1, 0, 0, 0), (.aload_n 0, 1, 0, 0, 0), (.getfield 13, 3, 11, 3, 1193), (.iconst 1, 1, 0, 0, 0), (.iaload, 1, 0, 0, 0), (.if_icmp .ge 21, 3, 63, 0, 0)]),
  (45, [(.aload_n 0, 1, 0, 0, 0), (.getfield 88, 3, 11, 35, 1225), (.iload_n 2, 1, 0, 0, 0), (.aload_n 0, 1, 0, 0, 0), (.bipush 30, 2, 0, 0, 0), (.invokevirtual 459, 3, 259, 2, 1768)]),
  (56, [(.iastore, 1, 0, 0, 0), (.iinc 2 1, 3, 0, 0, 0), (.goto (-25), 3, 35, 0, 0)]),
  (63, [(.iconst 0, 1, 0, 0, 0), (.istore_n 2, 1, 0, 0, 0)]),
  (65, [(.iload_n 2, 1, 0, 0, 0), (.aload_n 0, 1, 0, 0, 0), (.getfield 13, 3, 11, 3, 1193), (.iconst 0, 1, 0, 0, 0), (.iaload, 1, 0, 0, 0), (.if_icmp .ge 41, 3, 113, 0, 0)]),
  (75, [(.aload_n 0, 1, 0, 0, 0), (.getfield 82, 3, 11, 33, 1223), (.iload_n 2, 1, 0, 0, 0), (.dup2, 1, 0, 0, 0), (.iaload, 1, 0, 0, 0), (.aload_n 0, 1, 0, 0, 0), (.iconst 3, 1, 0, 0, 0), (.invokevirtual 459, 3, 259, 2, 1768)]),
  (87, [(.ifCond .ne 17, 3, 104, 0, 0)]),
  (90, [(.aload_n 0, 1, 0, 0, 0), (.getfield 82, 3, 11, 33, 1223), (.iload_n 2, 1, 0, 0, 0), (.iaload, 1, 0, 0, 0), (.iconst 1, 1, 0, 0, 0), (.if_icmp .le 7, 3, 104, 0, 0)]),
  (100, [(.iconst 1, 1, 0, 0, 0), (.goto 4, 3, 105, 0, 0)]),
  (104, [(.iconst 0, 1, 0, 0, 0)]),
  (105, [(.isub, 1, 0, 0, 0), (.iastore, 1, 0, 0, 0), (.iinc 2 1, 3, 0, 0, 0), (.goto (-45), 3, 65, 0, 0)]),
  (113, [(.aload_n 0, 1, 0, 0, 0), (.invokevirtual 394, 3, 225, 1, 1598)]),
  (117, [(.aload_n 0, 1, 0, 0, 0), (.aload_n 0, 1, 0, 0, 0), (.getfield 13, 3, 11, 3, 1193), (.iconst 1, 1, 0, 0, 0), (.iaload, 1, 0, 0, 0), (.putfield 462, 3, 11, 51, 1241), (.iconst 0, 1, 0, 0, 0), (.istore_n 2, 1, 0, 0, 0)]),
  (129, [(.iload_n 2, 1, 0, 0, 0), (.aload_n 0, 1, 0, 0, 0), (.getfield 462, 3, 11, 51, 1241), (.if_icmp .ge 33, 3, 167, 0, 0)]),
  (137, [(.aload_n 0, 1, 0, 0, 0), (.getfield 115, 3, 11, 49, 1239), (.iload_n 2, 1, 0, 0, 0), (.aload_n 0, 1, 0, 0, 0), (.getfield 103, 3, 11, 41, 1231), (.iload_n 2, 1, 0, 0, 0), (.iaload, 1, 0, 0, 0), (.iastore, 1, 0, 0, 0), (.aload_n 0, 1, 0, 0, 0), (.getfield 118, 3, 11, 50, 1240), (.iload_n 2, 1, 0, 0, 0), (.aload_n 0, 1, 0, 0, 0), (.getfield 88, 3, 11, 35, 1225), (.iload_n 2, 1, 0, 0, 0), (.iaload, 1, 0, 0, 0), (.iastore, 1, 0, 0, 0), (.iinc 2 1, 3, 0, 0, 0), (.goto (-35), 3, 129, 0, 0)]),
  (167, [(.aload_n 0, 1, 0, 0, 0), (.aload_n 0, 1, 0, 0, 0), (.invokevirtual 465, 3, 260, 1, 1775)]),
  (172, [(.invokevirtual 135, 3, 162, 2, 1354)]),
  (175, [(.ireturn, 1, 0, 0, 0)])]
set_option maxRecDepth 20000 in
theorem ck_X11_draw : en_ck 261 bs_X11_draw = true := en_ckF_ok (J := (yX11_draw, cX11_draw, 3, some .int, 11, 0)) (q := (1767, 1765, 1874, 12)) rfl rfl rfl (by decide +kernel)
def bs_X11_drawn : en_Bs := [
  (0, [(.aload_n 0, 1, 0, 0, 0), (.iconst 0, 1, 0, 0, 0), (.putfield 121, 3, 11, 0, 1190), (.iload_n 1, 1, 0, 0, 0), (.i2l, 1, 0, 0, 0), (.lconst 0, 1, 0, 0, 0), (.aload_n 0, 1, 0, 0, 0), (.getfield 462, 3, 11, 51, 1241), (.i2l, 1, 0, 0, 0), (.lconst 1, 1, 0, 0, 0), (.lsub, 1, 0, 0, 0), (.invokestatic 131, 3, 159, 3, 1351)]),
  (18, [(.ifCond .eq 35, 3, 53, 0, 0)]),
  (21, [(.iload_n 2, 1, 0, 0, 0), (.i2l, 1, 0, 0, 0), (.lconst 0, 1, 0, 0, 0), (.lconst 1, 1, 0, 0, 0), (.invokestatic 131, 3, 159, 3, 1351)]),
  (28, [(.ifCond .eq 25, 3, 53, 0, 0)]),
  (31, [(.iload_n 2, 1, 0, 0, 0), (.ifCond .ne 12, 3, 44, 0, 0)]),
  (35, [(.aload_n 0, 1, 0, 0, 0), (.getfield 115, 3, 11, 49, 1239), (.iload_n 1, 1, 0, 0, 0), (.iaload, 1, 0, 0, 0), (.goto 13, 3, 54, 0, 0)]),
  (44, [(.aload_n 0, 1, 0, 0, 0), (.getfield 118, 3, 11, 50, 1240), (.iload_n 1, 1, 0, 0, 0), (.iaload, 1, 0, 0, 0), (.goto 4, 3, 54, 0, 0)]),
  (53, [(.iconst (-1), 1, 0, 0, 0)]),
  (54, [(.ireturn, 1, 0, 0, 0)])]
set_option maxRecDepth 20000 in
theorem ck_X11_drawn : en_ck 262 bs_X11_drawn = true := en_ckF_ok (J := (yX11_drawn, cX11_drawn, 3, some .int, 11, 0)) (q := (1782, 1780, 1889, 12)) rfl rfl rfl (by decide +kernel)
