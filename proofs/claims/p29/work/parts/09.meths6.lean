def bs_X11_reckonAll : en_Bs := [
  (0, [(.aload_n 0, 1, 0, 0, 0), (.iconst 0, 1, 0, 0, 0), (.putfield 332, 3, 11, 30, 1220), (.iconst 0, 1, 0, 0, 0), (.istore_n 3, 1, 0, 0, 0), (.iload_n 1, 1, 0, 0, 0), (.istore 4, 2, 0, 0, 0)]),
  (10, [(.iload 4, 2, 0, 0, 0), (.iload_n 2, 1, 0, 0, 0), (.if_icmp .ge 232, 3, 245, 0, 0)]),
  (16, [(.aload_n 0, 1, 0, 0, 0), (.getfield 332, 3, 11, 30, 1220), (.ifCond .ne 225, 3, 245, 0, 0)]),
  (23, [(.aload_n 0, 1, 0, 0, 0), (.getfield 13, 3, 11, 3, 1193), (.aload_n 0, 1, 0, 0, 0), (.getfield 335, 3, 11, 27, 1217), (.bipush 98, 2, 0, 0, 0), (.iadd, 1, 0, 0, 0), (.iconst 2, 1, 0, 0, 0), (.iload 4, 2, 0, 0, 0), (.imul, 1, 0, 0, 0), (.iadd, 1, 0, 0, 0), (.iaload, 1, 0, 0, 0), (.istore 5, 2, 0, 0, 0), (.aload_n 0, 1, 0, 0, 0), (.getfield 13, 3, 11, 3, 1193), (.aload_n 0, 1, 0, 0, 0), (.getfield 335, 3, 11, 27, 1217), (.bipush 98, 2, 0, 0, 0), (.iadd, 1, 0, 0, 0), (.iconst 2, 1, 0, 0, 0), (.iload 4, 2, 0, 0, 0), (.imul, 1, 0, 0, 0), (.iadd, 1, 0, 0, 0), (.iconst 1, 1, 0, 0, 0), (.iadd, 1, 0, 0, 0), (.iaload, 1, 0, 0, 0), (.istore 6, 2, 0, 0, 0), (.iinc 4 1, 3, 0, 0, 0), (.iload 5, 2, 0, 0, 0), (.bipush 20, 2, 0, 0, 0), (.if_icmp .ge 33, 3, 103, 0, 0)]),
  (73, [(.aload_n 0, 1, 0, 0, 0), (.getfield 79, 3, 11, 29, 1219), (.iload_n 3, 1, 0, 0, 0), (.iload 5, 2, 0, 0, 0), (.ifCond .ne 9, 3, 89, 0, 0)]),
  (83, [(.iload 6, 2, 0, 0, 0), (.i2l, 1, 0, 0, 0), (.goto 10, 3, 96, 0, 0)]),
  (89, [(.aload_n 0, 1, 0, 0, 0), (.getfield 76, 3, 11, 28, 1218), (.iload 5, 2, 0, 0, 0), (.laload, 1, 0, 0, 0)]),
  (96, [(.lastore, 1, 0, 0, 0), (.iinc 3 1, 3, 0, 0, 0), (.goto 142, 3, 242, 0, 0)]),
  (103, [(.iload 5, 2, 0, 0, 0), (.bipush 27, 2, 0, 0, 0), (.if_icmp .ge 73, 3, 180, 0, 0)]),
  (110, [(.iinc 3 (-1), 3, 0, 0, 0), (.aload_n 0, 1, 0, 0, 0), (.getfield 79, 3, 11, 29, 1219), (.iload_n 3, 1, 0, 0, 0), (.iconst 1, 1, 0, 0, 0), (.isub, 1, 0, 0, 0), (.aload_n 0, 1, 0, 0, 0), (.iload 5, 2, 0, 0, 0), (.aload_n 0, 1, 0, 0, 0), (.getfield 79, 3, 11, 29, 1219), (.iload_n 3, 1, 0, 0, 0), (.iconst 1, 1, 0, 0, 0), (.isub, 1, 0, 0, 0), (.laload, 1, 0, 0, 0), (.aload_n 0, 1, 0, 0, 0), (.getfield 79, 3, 11, 29, 1219), (.iload_n 3, 1, 0, 0, 0), (.laload, 1, 0, 0, 0), (.invokevirtual 338, 3, 212, 4, 1626)]),
  (140, [(.lastore, 1, 0, 0, 0), (.aload_n 0, 1, 0, 0, 0), (.aload_n 0, 1, 0, 0, 0), (.getfield 332, 3, 11, 30, 1220), (.ifCond .ne 23, 3, 169, 0, 0)]),
  (149, [(.aload_n 0, 1, 0, 0, 0), (.getfield 79, 3, 11, 29, 1219), (.iload_n 3, 1, 0, 0, 0), (.iconst 1, 1, 0, 0, 0), (.isub, 1, 0, 0, 0), (.laload, 1, 0, 0, 0), (.ldc2_w 342, 3, 0, 18446744072709551616, 1630), (.ldc2_w 344, 3, 0, 1000000000, 1631), (.invokestatic 131, 3, 159, 3, 1351)]),
  (166, [(.ifCond .ne 7, 3, 173, 0, 0)]),
  (169, [(.iconst 1, 1, 0, 0, 0), (.goto 4, 3, 174, 0, 0)]),
  (173, [(.iconst 0, 1, 0, 0, 0)]),
  (174, [(.putfield 332, 3, 11, 30, 1220), (.goto 65, 3, 242, 0, 0)]),
  (180, [(.iload 5, 2, 0, 0, 0), (.bipush 27, 2, 0, 0, 0), (.if_icmp .ne 24, 3, 208, 0, 0)]),
  (187, [(.aload_n 0, 1, 0, 0, 0), (.getfield 79, 3, 11, 29, 1219), (.iload_n 3, 1, 0, 0, 0), (.iconst 1, 1, 0, 0, 0), (.isub, 1, 0, 0, 0), (.lconst 1, 1, 0, 0, 0), (.aload_n 0, 1, 0, 0, 0), (.getfield 79, 3, 11, 29, 1219), (.iload_n 3, 1, 0, 0, 0), (.iconst 1, 1, 0, 0, 0), (.isub, 1, 0, 0, 0), (.laload, 1, 0, 0, 0), (.lsub, 1, 0, 0, 0), (.lastore, 1, 0, 0, 0), (.goto 37, 3, 242, 0, 0)]),
  (208, [(.aload_n 0, 1, 0, 0, 0), (.getfield 79, 3, 11, 29, 1219), (.iload_n 3, 1, 0, 0, 0), (.iconst 1, 1, 0, 0, 0), (.isub, 1, 0, 0, 0), (.laload, 1, 0, 0, 0), (.iload 5, 2, 0, 0, 0), (.bipush 28, 2, 0, 0, 0), (.if_icmp .ne 7, 3, 227, 0, 0)]),
  (223, [(.lconst 0, 1, 0, 0, 0), (.goto 4, 3, 228, 0, 0)]),
  (227, [(.lconst 1, 1, 0, 0, 0)]),
  (228, [(.lcmp, 1, 0, 0, 0), (.ifCond .ne 10, 3, 239, 0, 0)]),
  (232, [(.iload 6, 2, 0, 0, 0), (.istore 4, 2, 0, 0, 0), (.goto 6, 3, 242, 0, 0)]),
  (239, [(.iinc 3 (-1), 3, 0, 0, 0)]),
  (242, [(.goto (-232), 3, 10, 0, 0)]),
  (245, [(.aload_n 0, 1, 0, 0, 0), (.iload_n 3, 1, 0, 0, 0), (.ifCond .le 12, 3, 259, 0, 0)]),
  (250, [(.aload_n 0, 1, 0, 0, 0), (.getfield 79, 3, 11, 29, 1219), (.iconst 0, 1, 0, 0, 0), (.laload, 1, 0, 0, 0), (.goto 4, 3, 260, 0, 0)]),
  (259, [(.lconst 0, 1, 0, 0, 0)]),
  (260, [(.putfield 346, 3, 11, 31, 1221), (.return_, 1, 0, 0, 0)])]
set_option maxRecDepth 20000 in
theorem ck_X11_reckonAll : en_ck 213 bs_X11_reckonAll = true := en_ckF_ok (J := (yX11_reckonAll, cX11_reckonAll, 7, none, 11, 0)) (q := (1625, 1624, 90, 12)) rfl rfl rfl (by decide +kernel)
def bs_X11_isSo : en_Bs := [
  (0, [(.aload_n 0, 1, 0, 0, 0), (.getfield 13, 3, 11, 3, 1193), (.iload_n 1, 1, 0, 0, 0), (.iconst 5, 1, 0, 0, 0), (.iadd, 1, 0, 0, 0), (.iaload, 1, 0, 0, 0), (.aload_n 0, 1, 0, 0, 0), (.getfield 13, 3, 11, 3, 1193), (.iload_n 1, 1, 0, 0, 0), (.bipush 6, 2, 0, 0, 0), (.iadd, 1, 0, 0, 0), (.iaload, 1, 0, 0, 0), (.if_icmp .ge 42, 3, 59, 0, 0)]),
  (20, [(.aload_n 0, 1, 0, 0, 0), (.aload_n 0, 1, 0, 0, 0), (.getfield 13, 3, 11, 3, 1193), (.iload_n 1, 1, 0, 0, 0), (.iconst 5, 1, 0, 0, 0), (.iadd, 1, 0, 0, 0), (.iaload, 1, 0, 0, 0), (.aload_n 0, 1, 0, 0, 0), (.getfield 13, 3, 11, 3, 1193), (.iload_n 1, 1, 0, 0, 0), (.bipush 6, 2, 0, 0, 0), (.iadd, 1, 0, 0, 0), (.iaload, 1, 0, 0, 0), (.invokevirtual 349, 3, 213, 3, 1622)]),
  (41, [(.aload_n 0, 1, 0, 0, 0), (.getfield 332, 3, 11, 30, 1220), (.ifCond .ne 12, 3, 57, 0, 0)]),
  (48, [(.aload_n 0, 1, 0, 0, 0), (.getfield 346, 3, 11, 31, 1221), (.lconst 0, 1, 0, 0, 0), (.lcmp, 1, 0, 0, 0), (.ifCond .ne 5, 3, 59, 0, 0)]),
  (57, [(.iconst 0, 1, 0, 0, 0), (.ireturn, 1, 0, 0, 0)]),
  (59, [(.aload_n 0, 1, 0, 0, 0), (.getfield 13, 3, 11, 3, 1193), (.iload_n 1, 1, 0, 0, 0), (.iaload, 1, 0, 0, 0), (.iconst 2, 1, 0, 0, 0), (.if_icmp .ge 44, 3, 110, 0, 0)]),
  (69, [(.aload_n 0, 1, 0, 0, 0), (.aload_n 0, 1, 0, 0, 0), (.getfield 13, 3, 11, 3, 1193), (.iload_n 1, 1, 0, 0, 0), (.iconst 3, 1, 0, 0, 0), (.iadd, 1, 0, 0, 0), (.iaload, 1, 0, 0, 0), (.aload_n 0, 1, 0, 0, 0), (.getfield 13, 3, 11, 3, 1193), (.iload_n 1, 1, 0, 0, 0), (.iconst 4, 1, 0, 0, 0), (.iadd, 1, 0, 0, 0), (.iaload, 1, 0, 0, 0), (.invokevirtual 349, 3, 213, 3, 1622)]),
  (89, [(.aload_n 0, 1, 0, 0, 0), (.aload_n 0, 1, 0, 0, 0), (.getfield 346, 3, 11, 31, 1221), (.putfield 352, 3, 11, 32, 1222), (.aload_n 0, 1, 0, 0, 0), (.getfield 332, 3, 11, 30, 1220), (.ifCond .ne 7, 3, 108, 0, 0)]),
  (104, [(.iconst 1, 1, 0, 0, 0), (.goto 4, 3, 109, 0, 0)]),
  (108, [(.iconst 0, 1, 0, 0, 0)]),
  (109, [(.ireturn, 1, 0, 0, 0)]),
  (110, [(.iconst 1, 1, 0, 0, 0), (.ireturn, 1, 0, 0, 0)])]
set_option maxRecDepth 20000 in
theorem ck_X11_isSo : en_ck 214 bs_X11_isSo = true := en_ckF_ok (J := (yX11_isSo, cX11_isSo, 2, some .boolean, 11, 0)) (q := (1621, 1620, 89, 12)) rfl rfl rfl (by decide +kernel)
def bs_X11_asIs : en_Bs := [
  (0, [(.iconst 0, 1, 0, 0, 0), (.istore_n 1, 1, 0, 0, 0)]),
  (2, [(.iload_n 1, 1, 0, 0, 0), (.bipush 12, 2, 0, 0, 0), (.if_icmp .ge 33, 3, 38, 0, 0)]),
  (8, [(.aload_n 0, 1, 0, 0, 0), (.getfield 82, 3, 11, 33, 1223), (.iload_n 1, 1, 0, 0, 0), (.aload_n 0, 1, 0, 0, 0), (.iload_n 1, 1, 0, 0, 0), (.iconst 1, 1, 0, 0, 0), (.invokevirtual 158, 3, 169, 3, 1398)]),
  (19, [(.iastore, 1, 0, 0, 0), (.aload_n 0, 1, 0, 0, 0), (.getfield 85, 3, 11, 34, 1224), (.iload_n 1, 1, 0, 0, 0), (.aload_n 0, 1, 0, 0, 0), (.iload_n 1, 1, 0, 0, 0), (.iconst 2, 1, 0, 0, 0), (.invokevirtual 158, 3, 169, 3, 1398)]),
  (31, [(.iastore, 1, 0, 0, 0), (.iinc 1 1, 3, 0, 0, 0), (.goto (-33), 3, 2, 0, 0)]),
  (38, [(.iconst 0, 1, 0, 0, 0), (.istore_n 1, 1, 0, 0, 0)]),
  (40, [(.iload_n 1, 1, 0, 0, 0), (.bipush 8, 2, 0, 0, 0), (.if_icmp .ge 21, 3, 64, 0, 0)]),
  (46, [(.aload_n 0, 1, 0, 0, 0), (.getfield 88, 3, 11, 35, 1225), (.iload_n 1, 1, 0, 0, 0), (.aload_n 0, 1, 0, 0, 0), (.iload_n 1, 1, 0, 0, 0), (.iconst 3, 1, 0, 0, 0), (.invokevirtual 184, 3, 170, 3, 1426)]),
  (57, [(.iastore, 1, 0, 0, 0), (.iinc 1 1, 3, 0, 0, 0), (.goto (-21), 3, 40, 0, 0)]),
  (64, [(.aload_n 0, 1, 0, 0, 0), (.iconst 0, 1, 0, 0, 0), (.putfield 355, 3, 11, 36, 1226), (.return_, 1, 0, 0, 0)])]
set_option maxRecDepth 20000 in
theorem ck_X11_asIs : en_ck 215 bs_X11_asIs = true := en_ckF_ok (J := (yX11_asIs, cX11_asIs, 2, none, 11, 0)) (q := (1597, 1596, 83, 12)) rfl rfl rfl (by decide +kernel)
def bs_X11_tells : en_Bs := [
  (0, [(.aload_n 0, 1, 0, 0, 0), (.getfield 13, 3, 11, 3, 1193), (.iconst 3, 1, 0, 0, 0), (.iaload, 1, 0, 0, 0), (.iconst (-1), 1, 0, 0, 0), (.if_icmp .ne 6, 3, 13, 0, 0)]),
  (10, [(.lload 6, 2, 0, 0, 0), (.lreturn, 1, 0, 0, 0)]),
  (13, [(.aload_n 0, 1, 0, 0, 0), (.bipush 110, 2, 0, 0, 0), (.sipush 900, 3, 0, 0, 0), (.aload_n 0, 1, 0, 0, 0), (.getfield 13, 3, 11, 3, 1193), (.iconst 3, 1, 0, 0, 0), (.iaload, 1, 0, 0, 0), (.imul, 1, 0, 0, 0), (.iadd, 1, 0, 0, 0), (.putfield 335, 3, 11, 27, 1217), (.aload_n 0, 1, 0, 0, 0), (.iload_n 3, 1, 0, 0, 0), (.iconst 0, 1, 0, 0, 0), (.invokevirtual 158, 3, 169, 3, 1398)]),
  (36, [(.istore 8, 2, 0, 0, 0), (.aload_n 0, 1, 0, 0, 0), (.getfield 76, 3, 11, 28, 1218), (.iconst 1, 1, 0, 0, 0), (.iload_n 2, 1, 0, 0, 0), (.i2l, 1, 0, 0, 0), (.lastore, 1, 0, 0, 0), (.aload_n 0, 1, 0, 0, 0), (.getfield 76, 3, 11, 28, 1218), (.iconst 2, 1, 0, 0, 0), (.aload_n 0, 1, 0, 0, 0), (.iload_n 2, 1, 0, 0, 0), (.iconst 0, 1, 0, 0, 0), (.invokevirtual 184, 3, 170, 3, 1426)]),
  (57, [(.i2l, 1, 0, 0, 0), (.lastore, 1, 0, 0, 0), (.aload_n 0, 1, 0, 0, 0), (.getfield 76, 3, 11, 28, 1218), (.iconst 3, 1, 0, 0, 0), (.aload_n 0, 1, 0, 0, 0), (.iload_n 2, 1, 0, 0, 0), (.iconst 4, 1, 0, 0, 0), (.invokevirtual 184, 3, 170, 3, 1426)]),
  (70, [(.i2l, 1, 0, 0, 0), (.lastore, 1, 0, 0, 0), (.aload_n 0, 1, 0, 0, 0), (.getfield 76, 3, 11, 28, 1218), (.iconst 4, 1, 0, 0, 0), (.iload_n 3, 1, 0, 0, 0), (.i2l, 1, 0, 0, 0), (.lastore, 1, 0, 0, 0), (.aload_n 0, 1, 0, 0, 0), (.getfield 76, 3, 11, 28, 1218), (.iconst 5, 1, 0, 0, 0), (.aload_n 0, 1, 0, 0, 0), (.iload 8, 2, 0, 0, 0), (.invokevirtual 150, 3, 167, 2, 1377)]),
  (91, [(.ifCond .eq 9, 3, 100, 0, 0)]),
  (94, [(.iload 8, 2, 0, 0, 0), (.i2l, 1, 0, 0, 0), (.goto 6, 3, 103, 0, 0)]),
  (100, [(.ldc2_w 138, 3, 0, 18446744073709551615, 1369)]),
  (103, [(.lastore, 1, 0, 0, 0), (.aload_n 0, 1, 0, 0, 0), (.getfield 76, 3, 11, 28, 1218), (.bipush 6, 2, 0, 0, 0), (.iload 4, 2, 0, 0, 0), (.i2l, 1, 0, 0, 0), (.lastore, 1, 0, 0, 0), (.aload_n 0, 1, 0, 0, 0), (.getfield 76, 3, 11, 28, 1218), (.bipush 7, 2, 0, 0, 0), (.iload 5, 2, 0, 0, 0), (.i2l, 1, 0, 0, 0), (.lastore, 1, 0, 0, 0), (.aload_n 0, 1, 0, 0, 0), (.getfield 76, 3, 11, 28, 1218), (.bipush 8, 2, 0, 0, 0), (.aload_n 0, 1, 0, 0, 0), (.getfield 82, 3, 11, 33, 1223), (.iload_n 3, 1, 0, 0, 0), (.iaload, 1, 0, 0, 0), (.i2l, 1, 0, 0, 0), (.lastore, 1, 0, 0, 0), (.aload_n 0, 1, 0, 0, 0), (.getfield 76, 3, 11, 28, 1218), (.bipush 9, 2, 0, 0, 0), (.aload_n 0, 1, 0, 0, 0), (.getfield 85, 3, 11, 34, 1224), (.iload_n 3, 1, 0, 0, 0), (.iaload, 1, 0, 0, 0), (.i2l, 1, 0, 0, 0), (.lastore, 1, 0, 0, 0), (.lload 6, 2, 0, 0, 0), (.lstore 9, 2, 0, 0, 0), (.iconst 0, 1, 0, 0, 0), (.istore 11, 2, 0, 0, 0)]),
  (159, [(.iload 11, 2, 0, 0, 0), (.aload_n 0, 1, 0, 0, 0), (.getfield 13, 3, 11, 3, 1193), (.aload_n 0, 1, 0, 0, 0), (.getfield 335, 3, 11, 27, 1217), (.iconst 1, 1, 0, 0, 0), (.iadd, 1, 0, 0, 0), (.iaload, 1, 0, 0, 0), (.if_icmp .ge 58, 3, 230, 0, 0)]),
  (175, [(.aload_n 0, 1, 0, 0, 0), (.getfield 335, 3, 11, 27, 1217), (.iconst 2, 1, 0, 0, 0), (.iadd, 1, 0, 0, 0), (.bipush 8, 2, 0, 0, 0), (.iload 11, 2, 0, 0, 0), (.imul, 1, 0, 0, 0), (.iadd, 1, 0, 0, 0), (.istore 12, 2, 0, 0, 0), (.aload_n 0, 1, 0, 0, 0), (.getfield 13, 3, 11, 3, 1193), (.iload 12, 2, 0, 0, 0), (.iaload, 1, 0, 0, 0), (.iload_n 1, 1, 0, 0, 0), (.if_icmp .ne 27, 3, 224, 0, 0)]),
  (200, [(.aload_n 0, 1, 0, 0, 0), (.iload 12, 2, 0, 0, 0), (.invokevirtual 358, 3, 214, 2, 1618)]),
  (206, [(.ifCond .eq 18, 3, 224, 0, 0)]),
  (209, [(.iload_n 1, 1, 0, 0, 0), (.iconst 2, 1, 0, 0, 0), (.if_icmp .ge 10, 3, 221, 0, 0)]),
  (214, [(.aload_n 0, 1, 0, 0, 0), (.getfield 352, 3, 11, 32, 1222), (.goto 4, 3, 222, 0, 0)]),
  (221, [(.lconst 1, 1, 0, 0, 0)]),
  (222, [(.lstore 9, 2, 0, 0, 0)]),
  (224, [(.iinc 11 1, 3, 0, 0, 0), (.goto (-68), 3, 159, 0, 0)]),
  (230, [(.lload 9, 2, 0, 0, 0), (.lreturn, 1, 0, 0, 0)])]
set_option maxRecDepth 20000 in
theorem ck_X11_tells : en_ck 216 bs_X11_tells = true := en_ckF_ok (J := (yX11_tells, cX11_tells, 13, some .long, 11, 0)) (q := (1617, 1616, 88, 12)) rfl rfl rfl (by decide +kernel)
def bs_X11_feeOf : en_Bs := [
  (0, [(.aload_n 0, 1, 0, 0, 0), (.iconst 1, 1, 0, 0, 0), (.iload_n 1, 1, 0, 0, 0), (.iload_n 2, 1, 0, 0, 0), (.iconst 0, 1, 0, 0, 0), (.iconst 0, 1, 0, 0, 0), (.aload_n 0, 1, 0, 0, 0), (.getfield 85, 3, 11, 34, 1224), (.iload_n 2, 1, 0, 0, 0), (.iaload, 1, 0, 0, 0), (.i2l, 1, 0, 0, 0), (.invokevirtual 361, 3, 216, 7, 1614)]),
  (16, [(.lstore_n 3, 1, 0, 0, 0), (.lload_n 3, 1, 0, 0, 0), (.lconst 0, 1, 0, 0, 0), (.lcmp, 1, 0, 0, 0), (.ifCond .ge 7, 3, 27, 0, 0)]),
  (23, [(.iconst 0, 1, 0, 0, 0), (.goto 19, 3, 43, 0, 0)]),
  (27, [(.lload_n 3, 1, 0, 0, 0), (.ldc2_w 365, 3, 0, 999, 1707), (.lcmp, 1, 0, 0, 0), (.ifCond .le 9, 3, 41, 0, 0)]),
  (35, [(.sipush 999, 3, 0, 0, 0), (.goto 5, 3, 43, 0, 0)]),
  (41, [(.lload_n 3, 1, 0, 0, 0), (.l2i, 1, 0, 0, 0)]),
  (43, [(.ireturn, 1, 0, 0, 0)])]
set_option maxRecDepth 20000 in
theorem ck_X11_feeOf : en_ck 217 bs_X11_feeOf = true := en_ckF_ok (J := (yX11_feeOf, cX11_feeOf, 5, some .int, 11, 0)) (q := (1706, 1705, 101, 12)) rfl rfl rfl (by decide +kernel)
def bs_X11_isBarred : en_Bs := [
  (0, [(.aload_n 0, 1, 0, 0, 0), (.iconst 2, 1, 0, 0, 0), (.iload_n 1, 1, 0, 0, 0), (.iload_n 2, 1, 0, 0, 0), (.iload_n 3, 1, 0, 0, 0), (.iload 4, 2, 0, 0, 0), (.lconst 0, 1, 0, 0, 0), (.invokevirtual 361, 3, 216, 7, 1614)]),
  (11, [(.lconst 1, 1, 0, 0, 0), (.lcmp, 1, 0, 0, 0), (.ifCond .ne 7, 3, 20, 0, 0)]),
  (16, [(.iconst 1, 1, 0, 0, 0), (.goto 4, 3, 21, 0, 0)]),
  (20, [(.iconst 0, 1, 0, 0, 0)]),
  (21, [(.ireturn, 1, 0, 0, 0)])]
set_option maxRecDepth 20000 in
theorem ck_X11_isBarred : en_ck 218 bs_X11_isBarred = true := en_ckF_ok (J := (yX11_isBarred, cX11_isBarred, 5, some .boolean, 11, 0)) (q := (1643, 1642, 94, 12)) rfl rfl rfl (by decide +kernel)
def bs_X11_findWay : en_Bs := [
  (0, [(.aload_n 0, 1, 0, 0, 0), (.iload_n 1, 1, 0, 0, 0), (.iconst 1, 1, 0, 0, 0), (.invokevirtual 184, 3, 170, 3, 1426)]),
  (6, [(.istore_n 2, 1, 0, 0, 0), (.iconst 0, 1, 0, 0, 0), (.istore_n 3, 1, 0, 0, 0)]),
  (9, [(.iload_n 3, 1, 0, 0, 0), (.bipush 13, 2, 0, 0, 0), (.if_icmp .ge 40, 3, 52, 0, 0)]),
  (15, [(.iload_n 2, 1, 0, 0, 0), (.iconst (-1), 1, 0, 0, 0), (.if_icmp .eq 35, 3, 52, 0, 0)]),
  (20, [(.aload_n 0, 1, 0, 0, 0), (.getfield 91, 3, 11, 37, 1227), (.iload_n 3, 1, 0, 0, 0), (.iload_n 2, 1, 0, 0, 0), (.iastore, 1, 0, 0, 0), (.iload_n 2, 1, 0, 0, 0), (.aload_n 0, 1, 0, 0, 0), (.iload_n 1, 1, 0, 0, 0), (.iconst 2, 1, 0, 0, 0), (.invokevirtual 184, 3, 170, 3, 1426)]),
  (34, [(.if_icmp .ne 5, 3, 39, 0, 0)]),
  (37, [(.iload_n 3, 1, 0, 0, 0), (.ireturn, 1, 0, 0, 0)]),
  (39, [(.aload_n 0, 1, 0, 0, 0), (.iload_n 2, 1, 0, 0, 0), (.iconst 0, 1, 0, 0, 0), (.invokevirtual 166, 3, 174, 3, 1394)]),
  (45, [(.istore_n 2, 1, 0, 0, 0), (.iinc 3 1, 3, 0, 0, 0), (.goto (-40), 3, 9, 0, 0)]),
  (52, [(.iconst (-1), 1, 0, 0, 0), (.ireturn, 1, 0, 0, 0)])]
set_option maxRecDepth 20000 in
theorem ck_X11_findWay : en_ck 219 bs_X11_findWay = true := en_ckF_ok (J := (yX11_findWay, cX11_findWay, 4, some .int, 11, 0)) (q := (1577, 1576, 80, 12)) rfl rfl rfl (by decide +kernel)
def bs_X11_way : en_Bs := [
  (0, [(.aload_n 0, 1, 0, 0, 0), (.iconst 0, 1, 0, 0, 0), (.putfield 121, 3, 11, 0, 1190), (.aload_n 0, 1, 0, 0, 0), (.iload_n 1, 1, 0, 0, 0), (.invokevirtual 179, 3, 168, 2, 1421)]),
  (10, [(.ifCond .ne 5, 3, 15, 0, 0)]),
  (13, [(.iconst (-1), 1, 0, 0, 0), (.ireturn, 1, 0, 0, 0)]),
  (15, [(.aload_n 0, 1, 0, 0, 0), (.iload_n 1, 1, 0, 0, 0), (.invokevirtual 367, 3, 219, 2, 1574)]),
  (20, [(.istore_n 3, 1, 0, 0, 0), (.iload_n 3, 1, 0, 0, 0), (.iconst (-1), 1, 0, 0, 0), (.if_icmp .eq 8, 3, 31, 0, 0)]),
  (26, [(.iload_n 2, 1, 0, 0, 0), (.iconst (-1), 1, 0, 0, 0), (.if_icmp .ne 7, 3, 35, 0, 0)]),
  (31, [(.iload_n 3, 1, 0, 0, 0), (.goto 24, 3, 56, 0, 0)]),
  (35, [(.iload_n 2, 1, 0, 0, 0), (.i2l, 1, 0, 0, 0), (.lconst 0, 1, 0, 0, 0), (.iload_n 3, 1, 0, 0, 0), (.i2l, 1, 0, 0, 0), (.invokestatic 131, 3, 159, 3, 1351)]),
  (43, [(.ifCond .eq 12, 3, 55, 0, 0)]),
  (46, [(.aload_n 0, 1, 0, 0, 0), (.getfield 91, 3, 11, 37, 1227), (.iload_n 2, 1, 0, 0, 0), (.iaload, 1, 0, 0, 0), (.goto 4, 3, 56, 0, 0)]),
  (55, [(.iconst (-1), 1, 0, 0, 0)]),
  (56, [(.ireturn, 1, 0, 0, 0)])]
set_option maxRecDepth 20000 in
theorem ck_X11_way : en_ck 220 bs_X11_way = true := en_ckF_ok (J := (yX11_way, cX11_way, 4, some .int, 11, 0)) (q := (1573, 1571, 1680, 12)) rfl rfl rfl (by decide +kernel)
def bs_X11_areStands : en_Bs := [
  (0, [(.iload_n 1, 1, 0, 0, 0), (.i2l, 1, 0, 0, 0), (.lconst 0, 1, 0, 0, 0), (.iconst 1, 1, 0, 0, 0), (.aload_n 0, 1, 0, 0, 0), (.getfield 13, 3, 11, 3, 1193), (.iconst 0, 1, 0, 0, 0), (.iaload, 1, 0, 0, 0), (.ishl, 1, 0, 0, 0), (.i2l, 1, 0, 0, 0), (.lconst 1, 1, 0, 0, 0), (.lsub, 1, 0, 0, 0), (.invokestatic 131, 3, 159, 3, 1351)]),
  (17, [(.ireturn, 1, 0, 0, 0)])]
set_option maxRecDepth 20000 in
theorem ck_X11_areStands : en_ck 221 bs_X11_areStands = true := en_ckF_ok (J := (yX11_areStands, cX11_areStands, 2, some .boolean, 11, 0)) (q := (1585, 1584, 81, 12)) rfl rfl rfl (by decide +kernel)
def bs_X11_enter : en_Bs := [
  (0, [(.aload_n 0, 1, 0, 0, 0), (.iconst 0, 1, 0, 0, 0), (.putfield 121, 3, 11, 0, 1190), (.aload_n 0, 1, 0, 0, 0), (.iload_n 1, 1, 0, 0, 0), (.invokevirtual 150, 3, 167, 2, 1377)]),
  (10, [(.ifCond .eq 11, 3, 21, 0, 0)]),
  (13, [(.aload_n 0, 1, 0, 0, 0), (.iload_n 2, 1, 0, 0, 0), (.invokevirtual 370, 3, 221, 2, 1582)]),
  (18, [(.ifCond .ne 5, 3, 23, 0, 0)]),
  (21, [(.iconst (-1), 1, 0, 0, 0), (.ireturn, 1, 0, 0, 0)]),
  (23, [(.iconst 0, 1, 0, 0, 0), (.istore_n 3, 1, 0, 0, 0), (.iconst 0, 1, 0, 0, 0), (.istore 4, 2, 0, 0, 0)]),
  (28, [(.iload 4, 2, 0, 0, 0), (.aload_n 0, 1, 0, 0, 0), (.getfield 13, 3, 11, 3, 1193), (.iconst 0, 1, 0, 0, 0), (.iaload, 1, 0, 0, 0), (.if_icmp .ge 90, 3, 126, 0, 0)]),
  (39, [(.iload 4, 2, 0, 0, 0), (.istore 5, 2, 0, 0, 0), (.iconst 0, 1, 0, 0, 0), (.istore 6, 2, 0, 0, 0)]),
  (46, [(.iload 6, 2, 0, 0, 0), (.bipush 13, 2, 0, 0, 0), (.if_icmp .ge 70, 3, 120, 0, 0)]),
  (53, [(.iload 5, 2, 0, 0, 0), (.iconst (-1), 1, 0, 0, 0), (.if_icmp .eq 64, 3, 120, 0, 0)]),
  (59, [(.iload_n 2, 1, 0, 0, 0), (.iload 5, 2, 0, 0, 0), (.iconst (-1), 1, 0, 0, 0), (.if_icmp .ne 7, 3, 70, 0, 0)]),
  (66, [(.iconst 0, 1, 0, 0, 0), (.goto 5, 3, 72, 0, 0)]),
  (70, [(.iload 5, 2, 0, 0, 0)]),
  (72, [(.invokestatic 161, 3, 160, 2, 1402)]),
  (75, [(.ifCond .ne 45, 3, 120, 0, 0)]),
  (78, [(.iload_n 3, 1, 0, 0, 0), (.iload 5, 2, 0, 0, 0), (.iload_n 1, 1, 0, 0, 0), (.if_icmp .ne 10, 3, 92, 0, 0)]),
  (85, [(.iconst 1, 1, 0, 0, 0), (.iload 4, 2, 0, 0, 0), (.ishl, 1, 0, 0, 0), (.goto 4, 3, 93, 0, 0)]),
  (92, [(.iconst 0, 1, 0, 0, 0)]),
  (93, [(.ior, 1, 0, 0, 0), (.istore_n 3, 1, 0, 0, 0), (.iload 5, 2, 0, 0, 0), (.iload_n 1, 1, 0, 0, 0), (.if_icmp .ne 7, 3, 105, 0, 0)]),
  (101, [(.iconst (-1), 1, 0, 0, 0), (.goto 10, 3, 112, 0, 0)]),
  (105, [(.aload_n 0, 1, 0, 0, 0), (.iload 5, 2, 0, 0, 0), (.iconst 0, 1, 0, 0, 0), (.invokevirtual 166, 3, 174, 3, 1394)]),
  (112, [(.istore 5, 2, 0, 0, 0), (.iinc 6 1, 3, 0, 0, 0), (.goto (-71), 3, 46, 0, 0)]),
  (120, [(.iinc 4 1, 3, 0, 0, 0), (.goto (-95), 3, 28, 0, 0)]),
  (126, [(.iload_n 3, 1, 0, 0, 0), (.ireturn, 1, 0, 0, 0)])]
set_option maxRecDepth 20000 in
theorem ck_X11_enter : en_ck 222 bs_X11_enter = true := en_ckF_ok (J := (yX11_enter, cX11_enter, 7, some .int, 11, 0)) (q := (1581, 1579, 1688, 12)) rfl rfl rfl (by decide +kernel)
def bs_X11_takesPart : en_Bs := [
  (0, [(.aload_n 0, 1, 0, 0, 0), (.getfield 355, 3, 11, 36, 1226), (.aload_n 0, 1, 0, 0, 0), (.iload_n 1, 1, 0, 0, 0), (.iconst 1, 1, 0, 0, 0), (.invokevirtual 184, 3, 170, 3, 1426)]),
  (10, [(.invokestatic 161, 3, 160, 2, 1402)]),
  (13, [(.ifCond .ne 23, 3, 36, 0, 0)]),
  (16, [(.aload_n 0, 1, 0, 0, 0), (.getfield 355, 3, 11, 36, 1226), (.aload_n 0, 1, 0, 0, 0), (.iload_n 1, 1, 0, 0, 0), (.iconst 2, 1, 0, 0, 0), (.invokevirtual 184, 3, 170, 3, 1426)]),
  (26, [(.invokestatic 161, 3, 160, 2, 1402)]),
  (29, [(.ifCond .ne 7, 3, 36, 0, 0)]),
  (32, [(.iconst 1, 1, 0, 0, 0), (.goto 4, 3, 37, 0, 0)]),
  (36, [(.iconst 0, 1, 0, 0, 0)]),
  (37, [(.ireturn, 1, 0, 0, 0)])]
set_option maxRecDepth 20000 in
theorem ck_X11_takesPart : en_ck 223 bs_X11_takesPart = true := en_ckF_ok (J := (yX11_takesPart, cX11_takesPart, 2, some .boolean, 11, 0)) (q := (1609, 1608, 86, 12)) rfl rfl rfl (by decide +kernel)
def bs_X11_canHold : en_Bs := [
  (0, [(.iconst 0, 1, 0, 0, 0), (.istore_n 3, 1, 0, 0, 0), (.aload_n 0, 1, 0, 0, 0), (.iload_n 2, 1, 0, 0, 0), (.iconst 0, 1, 0, 0, 0), (.invokevirtual 184, 3, 170, 3, 1426)]),
  (8, [(.istore 4, 2, 0, 0, 0), (.iconst 0, 1, 0, 0, 0), (.istore 5, 2, 0, 0, 0)]),
  (13, [(.iload 5, 2, 0, 0, 0), (.aload_n 0, 1, 0, 0, 0), (.getfield 13, 3, 11, 3, 1193), (.iconst 1, 1, 0, 0, 0), (.iaload, 1, 0, 0, 0), (.if_icmp .ge 35, 3, 56, 0, 0)]),
  (24, [(.aload_n 0, 1, 0, 0, 0), (.getfield 94, 3, 11, 38, 1228), (.iload 5, 2, 0, 0, 0), (.iaload, 1, 0, 0, 0), (.iload_n 1, 1, 0, 0, 0), (.if_icmp .ne 18, 3, 50, 0, 0)]),
  (35, [(.iinc 3 1, 3, 0, 0, 0), (.iload 4, 2, 0, 0, 0), (.aload_n 0, 1, 0, 0, 0), (.iload 5, 2, 0, 0, 0), (.iconst 0, 1, 0, 0, 0), (.invokevirtual 184, 3, 170, 3, 1426)]),
  (47, [(.iadd, 1, 0, 0, 0), (.istore 4, 2, 0, 0, 0)]),
  (50, [(.iinc 5 1, 3, 0, 0, 0), (.goto (-40), 3, 13, 0, 0)]),
  (56, [(.iload_n 3, 1, 0, 0, 0), (.aload_n 0, 1, 0, 0, 0), (.getfield 13, 3, 11, 3, 1193), (.bipush 6, 2, 0, 0, 0), (.iaload, 1, 0, 0, 0), (.if_icmp .ge 18, 3, 82, 0, 0)]),
  (67, [(.iload 4, 2, 0, 0, 0), (.aload_n 0, 1, 0, 0, 0), (.getfield 82, 3, 11, 33, 1223), (.iload_n 1, 1, 0, 0, 0), (.iaload, 1, 0, 0, 0), (.if_icmp .gt 7, 3, 82, 0, 0)]),
  (78, [(.iconst 1, 1, 0, 0, 0), (.goto 4, 3, 83, 0, 0)]),
  (82, [(.iconst 0, 1, 0, 0, 0)]),
  (83, [(.ireturn, 1, 0, 0, 0)])]
set_option maxRecDepth 20000 in
theorem ck_X11_canHold : en_ck 224 bs_X11_canHold = true := en_ckF_ok (J := (yX11_canHold, cX11_canHold, 6, some .boolean, 11, 0)) (q := (1613, 1612, 87, 12)) rfl rfl rfl (by decide +kernel)
def bs_X11_run : en_Bs := [
  (0, [(.iconst 0, 1, 0, 0, 0), (.istore_n 1, 1, 0, 0, 0)]),
  (2, [(.iload_n 1, 1, 0, 0, 0), (.aload_n 0, 1, 0, 0, 0), (.getfield 13, 3, 11, 3, 1193), (.iconst 1, 1, 0, 0, 0), (.iaload, 1, 0, 0, 0), (.if_icmp .ge 37, 3, 46, 0, 0)]),
  (12, [(.aload_n 0, 1, 0, 0, 0), (.getfield 94, 3, 11, 38, 1228), (.iload_n 1, 1, 0, 0, 0), (.iconst (-1), 1, 0, 0, 0), (.iastore, 1, 0, 0, 0), (.aload_n 0, 1, 0, 0, 0), (.getfield 97, 3, 11, 39, 1229), (.iload_n 1, 1, 0, 0, 0), (.iconst 0, 1, 0, 0, 0), (.iastore, 1, 0, 0, 0), (.aload_n 0, 1, 0, 0, 0), (.getfield 100, 3, 11, 40, 1230), (.iload_n 1, 1, 0, 0, 0), (.iconst 0, 1, 0, 0, 0), (.iastore, 1, 0, 0, 0), (.aload_n 0, 1, 0, 0, 0), (.getfield 103, 3, 11, 41, 1231), (.iload_n 1, 1, 0, 0, 0), (.iconst (-1), 1, 0, 0, 0), (.iastore, 1, 0, 0, 0), (.iinc 1 1, 3, 0, 0, 0), (.goto (-41), 3, 2, 0, 0)]),
  (46, [(.iconst 0, 1, 0, 0, 0), (.istore_n 1, 1, 0, 0, 0)]),
  (48, [(.iload_n 1, 1, 0, 0, 0), (.bipush 100, 2, 0, 0, 0), (.if_icmp .ge 171, 3, 222, 0, 0)]),
  (54, [(.aload_n 0, 1, 0, 0, 0), (.iload_n 1, 1, 0, 0, 0), (.invokevirtual 373, 3, 227, 2, 1602)]),
  (59, [(.iconst 0, 1, 0, 0, 0), (.istore_n 2, 1, 0, 0, 0)]),
  (61, [(.iload_n 2, 1, 0, 0, 0), (.aload_n 0, 1, 0, 0, 0), (.getfield 13, 3, 11, 3, 1193), (.iconst 1, 1, 0, 0, 0), (.iaload, 1, 0, 0, 0), (.if_icmp .ge 69, 3, 137, 0, 0)]),
  (71, [(.aload_n 0, 1, 0, 0, 0), (.getfield 109, 3, 11, 43, 1233), (.iload_n 2, 1, 0, 0, 0), (.aload_n 0, 1, 0, 0, 0), (.getfield 94, 3, 11, 38, 1228), (.iload_n 2, 1, 0, 0, 0), (.iaload, 1, 0, 0, 0), (.ifCond .ge 7, 3, 89, 0, 0)]),
  (85, [(.iconst 1, 1, 0, 0, 0), (.goto 4, 3, 90, 0, 0)]),
  (89, [(.iconst 0, 1, 0, 0, 0)]),
  (90, [(.bastore, 1, 0, 0, 0), (.aload_n 0, 1, 0, 0, 0), (.getfield 106, 3, 11, 42, 1232), (.iload_n 2, 1, 0, 0, 0), (.aload_n 0, 1, 0, 0, 0), (.getfield 109, 3, 11, 43, 1233), (.iload_n 2, 1, 0, 0, 0), (.baload, 1, 0, 0, 0), (.ifCond .eq 7, 3, 109, 0, 0)]),
  (105, [(.iconst 0, 1, 0, 0, 0), (.goto 24, 3, 130, 0, 0)]),
  (109, [(.aload_n 0, 1, 0, 0, 0), (.iconst 0, 1, 0, 0, 0), (.iload_n 2, 1, 0, 0, 0), (.aload_n 0, 1, 0, 0, 0), (.getfield 94, 3, 11, 38, 1228), (.iload_n 2, 1, 0, 0, 0), (.iaload, 1, 0, 0, 0), (.iload_n 1, 1, 0, 0, 0), (.aload_n 0, 1, 0, 0, 0), (.getfield 97, 3, 11, 39, 1229), (.iload_n 2, 1, 0, 0, 0), (.iaload, 1, 0, 0, 0), (.lconst 0, 1, 0, 0, 0), (.invokevirtual 361, 3, 216, 7, 1614)]),
  (129, [(.l2i, 1, 0, 0, 0)]),
  (130, [(.iastore, 1, 0, 0, 0), (.iinc 2 1, 3, 0, 0, 0), (.goto (-73), 3, 61, 0, 0)]),
  (137, [(.aload_n 0, 1, 0, 0, 0), (.invokevirtual 376, 3, 226, 1, 1632)]),
  (141, [(.istore_n 2, 1, 0, 0, 0)]),
  (142, [(.iload_n 2, 1, 0, 0, 0), (.iconst (-1), 1, 0, 0, 0), (.if_icmp .eq 24, 3, 168, 0, 0)]),
  (147, [(.aload_n 0, 1, 0, 0, 0), (.getfield 109, 3, 11, 43, 1233), (.iload_n 2, 1, 0, 0, 0), (.iconst 1, 1, 0, 0, 0), (.bastore, 1, 0, 0, 0), (.aload_n 0, 1, 0, 0, 0), (.iload_n 2, 1, 0, 0, 0), (.iload_n 1, 1, 0, 0, 0), (.invokevirtual 379, 3, 228, 3, 1636)]),
  (160, [(.aload_n 0, 1, 0, 0, 0), (.invokevirtual 376, 3, 226, 1, 1632)]),
  (164, [(.istore_n 2, 1, 0, 0, 0), (.goto (-23), 3, 142, 0, 0)]),
  (168, [(.iconst 0, 1, 0, 0, 0), (.istore_n 3, 1, 0, 0, 0)]),
  (170, [(.iload_n 3, 1, 0, 0, 0), (.aload_n 0, 1, 0, 0, 0), (.getfield 13, 3, 11, 3, 1193), (.iconst 1, 1, 0, 0, 0), (.iaload, 1, 0, 0, 0), (.if_icmp .ge 39, 3, 216, 0, 0)]),
  (180, [(.aload_n 0, 1, 0, 0, 0), (.getfield 112, 3, 11, 44, 1234), (.bipush 100, 2, 0, 0, 0), (.iload_n 3, 1, 0, 0, 0), (.imul, 1, 0, 0, 0), (.iload_n 1, 1, 0, 0, 0), (.iadd, 1, 0, 0, 0), (.aload_n 0, 1, 0, 0, 0), (.getfield 94, 3, 11, 38, 1228), (.iload_n 3, 1, 0, 0, 0), (.iaload, 1, 0, 0, 0), (.ifCond .ge 7, 3, 203, 0, 0)]),
  (199, [(.iconst (-1), 1, 0, 0, 0), (.goto 9, 3, 209, 0, 0)]),
  (203, [(.aload_n 0, 1, 0, 0, 0), (.getfield 94, 3, 11, 38, 1228), (.iload_n 3, 1, 0, 0, 0), (.iaload, 1, 0, 0, 0)]),
  (209, [(.iastore, 1, 0, 0, 0), (.iinc 3 1, 3, 0, 0, 0), (.goto (-43), 3, 170, 0, 0)]),
  (216, [(.iinc 1 1, 3, 0, 0, 0), (.goto (-171), 3, 48, 0, 0)]),
  (222, [(.return_, 1, 0, 0, 0)])]
set_option maxRecDepth 20000 in
theorem ck_X11_run : en_ck 225 bs_X11_run = true := en_ckF_ok (J := (yX11_run, cX11_run, 4, none, 11, 0)) (q := (1601, 1600, 84, 12)) rfl rfl rfl (by decide +kernel)
def bs_X11_first : en_Bs := [
  (0, [(.iconst (-1), 1, 0, 0, 0), (.istore_n 1, 1, 0, 0, 0), (.iconst 0, 1, 0, 0, 0), (.istore_n 2, 1, 0, 0, 0)]),
  (4, [(.iload_n 2, 1, 0, 0, 0), (.aload_n 0, 1, 0, 0, 0), (.getfield 13, 3, 11, 3, 1193), (.iconst 1, 1, 0, 0, 0), (.iaload, 1, 0, 0, 0), (.if_icmp .ge 44, 3, 55, 0, 0)]),
  (14, [(.aload_n 0, 1, 0, 0, 0), (.getfield 109, 3, 11, 43, 1233), (.iload_n 2, 1, 0, 0, 0), (.baload, 1, 0, 0, 0), (.ifCond .ne 27, 3, 47, 0, 0)]),
  (23, [(.iload_n 1, 1, 0, 0, 0), (.iconst (-1), 1, 0, 0, 0), (.if_icmp .eq 18, 3, 43, 0, 0)]),
  (28, [(.aload_n 0, 1, 0, 0, 0), (.getfield 106, 3, 11, 42, 1232), (.iload_n 2, 1, 0, 0, 0), (.iaload, 1, 0, 0, 0), (.aload_n 0, 1, 0, 0, 0), (.getfield 106, 3, 11, 42, 1232), (.iload_n 1, 1, 0, 0, 0), (.iaload, 1, 0, 0, 0), (.if_icmp .le 7, 3, 47, 0, 0)]),
  (43, [(.iload_n 2, 1, 0, 0, 0), (.goto 4, 3, 48, 0, 0)]),
  (47, [(.iload_n 1, 1, 0, 0, 0)]),
  (48, [(.istore_n 1, 1, 0, 0, 0), (.iinc 2 1, 3, 0, 0, 0), (.goto (-48), 3, 4, 0, 0)]),
  (55, [(.iload_n 1, 1, 0, 0, 0), (.ireturn, 1, 0, 0, 0)])]
set_option maxRecDepth 20000 in
theorem ck_X11_first : en_ck 226 bs_X11_first = true := en_ckF_ok (J := (yX11_first, cX11_first, 3, some .int, 11, 0)) (q := (1635, 1634, 92, 12)) rfl rfl rfl (by decide +kernel)
def bs_X11_bring : en_Bs := [
  (0, [(.iconst 0, 1, 0, 0, 0), (.istore_n 2, 1, 0, 0, 0)]),
  (2, [(.iload_n 2, 1, 0, 0, 0), (.iload_n 1, 1, 0, 0, 0), (.if_icmp .gt 110, 3, 114, 0, 0)]),
  (7, [(.iconst 0, 1, 0, 0, 0), (.istore_n 3, 1, 0, 0, 0)]),
  (9, [(.iload_n 3, 1, 0, 0, 0), (.aload_n 0, 1, 0, 0, 0), (.getfield 13, 3, 11, 3, 1193), (.iconst 1, 1, 0, 0, 0), (.iaload, 1, 0, 0, 0), (.if_icmp .ge 92, 3, 108, 0, 0)]),
  (19, [(.aload_n 0, 1, 0, 0, 0), (.getfield 88, 3, 11, 35, 1225), (.iload_n 3, 1, 0, 0, 0), (.iaload, 1, 0, 0, 0), (.iload_n 2, 1, 0, 0, 0), (.if_icmp .ne 76, 3, 102, 0, 0)]),
  (29, [(.aload_n 0, 1, 0, 0, 0), (.getfield 94, 3, 11, 38, 1228), (.iload_n 3, 1, 0, 0, 0), (.iaload, 1, 0, 0, 0), (.iconst (-1), 1, 0, 0, 0), (.if_icmp .ne 66, 3, 102, 0, 0)]),
  (39, [(.aload_n 0, 1, 0, 0, 0), (.iload_n 3, 1, 0, 0, 0), (.invokevirtual 382, 3, 223, 2, 1606)]),
  (44, [(.ifCond .eq 58, 3, 102, 0, 0)]),
  (47, [(.aload_n 0, 1, 0, 0, 0), (.iload_n 3, 1, 0, 0, 0), (.iconst 1, 1, 0, 0, 0), (.invokevirtual 184, 3, 170, 3, 1426)]),
  (53, [(.istore 4, 2, 0, 0, 0), (.iload 4, 2, 0, 0, 0), (.aload_n 0, 1, 0, 0, 0), (.iload_n 3, 1, 0, 0, 0), (.iconst 2, 1, 0, 0, 0), (.invokevirtual 184, 3, 170, 3, 1426)]),
  (63, [(.if_icmp .ne 21, 3, 84, 0, 0)]),
  (66, [(.aload_n 0, 1, 0, 0, 0), (.getfield 94, 3, 11, 38, 1228), (.iload_n 3, 1, 0, 0, 0), (.bipush (-2), 2, 0, 0, 0), (.iastore, 1, 0, 0, 0), (.aload_n 0, 1, 0, 0, 0), (.getfield 103, 3, 11, 41, 1231), (.iload_n 3, 1, 0, 0, 0), (.iload_n 1, 1, 0, 0, 0), (.iastore, 1, 0, 0, 0), (.goto 21, 3, 102, 0, 0)]),
  (84, [(.aload_n 0, 1, 0, 0, 0), (.iload 4, 2, 0, 0, 0), (.iload_n 3, 1, 0, 0, 0), (.invokevirtual 385, 3, 224, 3, 1610)]),
  (91, [(.ifCond .eq 11, 3, 102, 0, 0)]),
  (94, [(.aload_n 0, 1, 0, 0, 0), (.getfield 94, 3, 11, 38, 1228), (.iload_n 3, 1, 0, 0, 0), (.iload 4, 2, 0, 0, 0), (.iastore, 1, 0, 0, 0)]),
  (102, [(.iinc 3 1, 3, 0, 0, 0), (.goto (-96), 3, 9, 0, 0)]),
  (108, [(.iinc 2 1, 3, 0, 0, 0), (.goto (-109), 3, 2, 0, 0)]),
  (114, [(.return_, 1, 0, 0, 0)])]
set_option maxRecDepth 20000 in
theorem ck_X11_bring : en_ck 227 bs_X11_bring = true := en_ckF_ok (J := (yX11_bring, cX11_bring, 5, none, 11, 0)) (q := (1605, 1604, 85, 12)) rfl rfl rfl (by decide +kernel)
def bs_X11_goOn : en_Bs := [
  (0, [(.aload_n 0, 1, 0, 0, 0), (.iload_n 1, 1, 0, 0, 0), (.aload_n 0, 1, 0, 0, 0), (.getfield 94, 3, 11, 38, 1228), (.iload_n 1, 1, 0, 0, 0), (.iaload, 1, 0, 0, 0), (.iload_n 2, 1, 0, 0, 0), (.aload_n 0, 1, 0, 0, 0), (.getfield 97, 3, 11, 39, 1229), (.iload_n 1, 1, 0, 0, 0), (.iaload, 1, 0, 0, 0), (.invokevirtual 388, 3, 218, 5, 1640)]),
  (18, [(.ifCond .eq 7, 3, 25, 0, 0)]),
  (21, [(.iconst (-1), 1, 0, 0, 0), (.goto 17, 3, 39, 0, 0)]),
  (25, [(.aload_n 0, 1, 0, 0, 0), (.aload_n 0, 1, 0, 0, 0), (.getfield 94, 3, 11, 38, 1228), (.iload_n 1, 1, 0, 0, 0), (.iaload, 1, 0, 0, 0), (.aload_n 0, 1, 0, 0, 0), (.getfield 355, 3, 11, 36, 1226), (.invokevirtual 166, 3, 174, 3, 1394)]),
  (39, [(.istore_n 3, 1, 0, 0, 0), (.iload_n 3, 1, 0, 0, 0), (.iconst (-1), 1, 0, 0, 0), (.if_icmp .eq 31, 3, 73, 0, 0)]),
  (45, [(.iload_n 3, 1, 0, 0, 0), (.aload_n 0, 1, 0, 0, 0), (.iload_n 1, 1, 0, 0, 0), (.iconst 2, 1, 0, 0, 0), (.invokevirtual 184, 3, 170, 3, 1426)]),
  (52, [(.if_icmp .ne 21, 3, 73, 0, 0)]),
  (55, [(.aload_n 0, 1, 0, 0, 0), (.getfield 94, 3, 11, 38, 1228), (.iload_n 1, 1, 0, 0, 0), (.bipush (-2), 2, 0, 0, 0), (.iastore, 1, 0, 0, 0), (.aload_n 0, 1, 0, 0, 0), (.getfield 103, 3, 11, 41, 1231), (.iload_n 1, 1, 0, 0, 0), (.iload_n 2, 1, 0, 0, 0), (.iastore, 1, 0, 0, 0), (.goto 54, 3, 124, 0, 0)]),
  (73, [(.iload_n 3, 1, 0, 0, 0), (.iconst (-1), 1, 0, 0, 0), (.if_icmp .eq 29, 3, 104, 0, 0)]),
  (78, [(.aload_n 0, 1, 0, 0, 0), (.iload_n 3, 1, 0, 0, 0), (.iload_n 1, 1, 0, 0, 0), (.invokevirtual 385, 3, 224, 3, 1610)]),
  (84, [(.ifCond .eq 20, 3, 104, 0, 0)]),
  (87, [(.aload_n 0, 1, 0, 0, 0), (.getfield 94, 3, 11, 38, 1228), (.iload_n 1, 1, 0, 0, 0), (.iload_n 3, 1, 0, 0, 0), (.iastore, 1, 0, 0, 0), (.aload_n 0, 1, 0, 0, 0), (.getfield 97, 3, 11, 39, 1229), (.iload_n 1, 1, 0, 0, 0), (.iconst 0, 1, 0, 0, 0), (.iastore, 1, 0, 0, 0), (.goto 23, 3, 124, 0, 0)]),
  (104, [(.aload_n 0, 1, 0, 0, 0), (.getfield 97, 3, 11, 39, 1229), (.iload_n 1, 1, 0, 0, 0), (.dup2, 1, 0, 0, 0), (.iaload, 1, 0, 0, 0), (.iconst 1, 1, 0, 0, 0), (.iadd, 1, 0, 0, 0), (.iastore, 1, 0, 0, 0), (.aload_n 0, 1, 0, 0, 0), (.getfield 100, 3, 11, 40, 1230), (.iload_n 1, 1, 0, 0, 0), (.dup2, 1, 0, 0, 0), (.iaload, 1, 0, 0, 0), (.iconst 1, 1, 0, 0, 0), (.iadd, 1, 0, 0, 0), (.iastore, 1, 0, 0, 0)]),
  (124, [(.return_, 1, 0, 0, 0)])]
set_option maxRecDepth 20000 in
theorem ck_X11_goOn : en_ck 228 bs_X11_goOn = true := en_ckF_ok (J := (yX11_goOn, cX11_goOn, 4, none, 11, 0)) (q := (1639, 1638, 93, 12)) rfl rfl rfl (by decide +kernel)
def bs_X11_runDay : en_Bs := [
  (0, [(.aload_n 0, 1, 0, 0, 0), (.invokevirtual 391, 3, 215, 1, 1594)]),
  (4, [(.aload_n 0, 1, 0, 0, 0), (.invokevirtual 394, 3, 225, 1, 1598)]),
  (8, [(.return_, 1, 0, 0, 0)])]
set_option maxRecDepth 20000 in
theorem ck_X11_runDay : en_ck 229 bs_X11_runDay = true := en_ckF_ok (J := (yX11_runDay, cX11_runDay, 1, none, 11, 0)) (q := (1593, 1592, 82, 12)) rfl rfl rfl (by decide +kernel)
def bs_X11_day : en_Bs := [
  (0, [(.aload_n 0, 1, 0, 0, 0), (.iconst 0, 1, 0, 0, 0), (.putfield 121, 3, 11, 0, 1190), (.aload_n 0, 1, 0, 0, 0), (.iload_n 1, 1, 0, 0, 0), (.invokevirtual 179, 3, 168, 2, 1421)]),
  (10, [(.ifCond .eq 15, 3, 25, 0, 0)]),
  (13, [(.iload_n 2, 1, 0, 0, 0), (.i2l, 1, 0, 0, 0), (.lconst 0, 1, 0, 0, 0), (.ldc2_w 164, 3, 0, 3, 1393), (.invokestatic 131, 3, 159, 3, 1351)]),
  (22, [(.ifCond .ne 5, 3, 27, 0, 0)]),
  (25, [(.iconst (-1), 1, 0, 0, 0), (.ireturn, 1, 0, 0, 0)]),
  (27, [(.aload_n 0, 1, 0, 0, 0), (.invokevirtual 397, 3, 229, 1, 1590)]),
  (31, [(.aload_n 0, 1, 0, 0, 0), (.getfield 103, 3, 11, 41, 1231), (.iload_n 1, 1, 0, 0, 0), (.iaload, 1, 0, 0, 0), (.istore_n 3, 1, 0, 0, 0), (.iload_n 3, 1, 0, 0, 0), (.aload_n 0, 1, 0, 0, 0), (.getfield 13, 3, 11, 3, 1193), (.iconst 5, 1, 0, 0, 0), (.iaload, 1, 0, 0, 0), (.isub, 1, 0, 0, 0), (.istore 4, 2, 0, 0, 0), (.iload_n 2, 1, 0, 0, 0), (.ifCond .ne 7, 3, 56, 0, 0)]),
  (52, [(.iload_n 3, 1, 0, 0, 0), (.goto 57, 3, 110, 0, 0)]),
  (56, [(.iload_n 2, 1, 0, 0, 0), (.iconst 1, 1, 0, 0, 0), (.if_icmp .ne 26, 3, 84, 0, 0)]),
  (61, [(.iload_n 3, 1, 0, 0, 0), (.iconst (-1), 1, 0, 0, 0), (.if_icmp .ne 7, 3, 70, 0, 0)]),
  (66, [(.iconst (-1), 1, 0, 0, 0), (.goto 43, 3, 110, 0, 0)]),
  (70, [(.iload 4, 2, 0, 0, 0), (.ifCond .ge 7, 3, 79, 0, 0)]),
  (75, [(.iconst 0, 1, 0, 0, 0), (.goto 34, 3, 110, 0, 0)]),
  (79, [(.iload 4, 2, 0, 0, 0), (.goto 29, 3, 110, 0, 0)]),
  (84, [(.iload_n 2, 1, 0, 0, 0), (.iconst 2, 1, 0, 0, 0), (.if_icmp .ne 18, 3, 104, 0, 0)]),
  (89, [(.aload_n 0, 1, 0, 0, 0), (.getfield 112, 3, 11, 44, 1234), (.bipush 100, 2, 0, 0, 0), (.iload_n 1, 1, 0, 0, 0), (.imul, 1, 0, 0, 0), (.bipush 99, 2, 0, 0, 0), (.iadd, 1, 0, 0, 0), (.iaload, 1, 0, 0, 0), (.goto 9, 3, 110, 0, 0)]),
  (104, [(.aload_n 0, 1, 0, 0, 0), (.getfield 100, 3, 11, 40, 1230), (.iload_n 1, 1, 0, 0, 0), (.iaload, 1, 0, 0, 0)]),
  (110, [(.ireturn, 1, 0, 0, 0)])]
set_option maxRecDepth 20000 in
theorem ck_X11_day : en_ck 230 bs_X11_day = true := en_ckF_ok (J := (yX11_day, cX11_day, 5, some .int, 11, 0)) (q := (1589, 1587, 1696, 12)) rfl rfl rfl (by decide +kernel)
def bs_X11_isMinute : en_Bs := [
  (0, [(.iload_n 0, 1, 0, 0, 0), (.i2l, 1, 0, 0, 0), (.lconst 0, 1, 0, 0, 0), (.ldc2_w 144, 3, 0, 99, 1372), (.invokestatic 131, 3, 159, 3, 1351)]),
  (9, [(.ireturn, 1, 0, 0, 0)])]
set_option maxRecDepth 20000 in
theorem ck_X11_isMinute : en_ck 231 bs_X11_isMinute = true := en_ckF_ok (J := (yX11_isMinute, cX11_isMinute, 1, some .boolean, 11, 1)) (q := (1650, 1649, 0, 12)) rfl rfl rfl (by decide +kernel)
def bs_X11_where : en_Bs := [
  (0, [(.aload_n 0, 1, 0, 0, 0), (.iconst 0, 1, 0, 0, 0), (.putfield 121, 3, 11, 0, 1190), (.aload_n 0, 1, 0, 0, 0), (.iload_n 1, 1, 0, 0, 0), (.invokevirtual 179, 3, 168, 2, 1421)]),
  (10, [(.ifCond .eq 10, 3, 20, 0, 0)]),
  (13, [(.iload_n 2, 1, 0, 0, 0), (.invokestatic 400, 3, 231, 1, 1648)]),
  (17, [(.ifCond .ne 5, 3, 22, 0, 0)]),
  (20, [(.iconst (-1), 1, 0, 0, 0), (.ireturn, 1, 0, 0, 0)]),
  (22, [(.aload_n 0, 1, 0, 0, 0), (.invokevirtual 397, 3, 229, 1, 1590)]),
  (26, [(.aload_n 0, 1, 0, 0, 0), (.getfield 112, 3, 11, 44, 1234), (.bipush 100, 2, 0, 0, 0), (.iload_n 1, 1, 0, 0, 0), (.imul, 1, 0, 0, 0), (.iload_n 2, 1, 0, 0, 0), (.iadd, 1, 0, 0, 0), (.iaload, 1, 0, 0, 0), (.ireturn, 1, 0, 0, 0)])]
set_option maxRecDepth 20000 in
theorem ck_X11_where : en_ck 232 bs_X11_where = true := en_ckF_ok (J := (yX11_where, cX11_where, 3, some .int, 11, 0)) (q := (1647, 1645, 1754, 12)) rfl rfl rfl (by decide +kernel)
def bs_X11_held : en_Bs := [
  (0, [(.aload_n 0, 1, 0, 0, 0), (.iconst 0, 1, 0, 0, 0), (.putfield 121, 3, 11, 0, 1190), (.aload_n 0, 1, 0, 0, 0), (.iload_n 1, 1, 0, 0, 0), (.invokevirtual 150, 3, 167, 2, 1377)]),
  (10, [(.ifCond .eq 20, 3, 30, 0, 0)]),
  (13, [(.iload_n 2, 1, 0, 0, 0), (.invokestatic 400, 3, 231, 1, 1648)]),
  (17, [(.ifCond .eq 13, 3, 30, 0, 0)]),
  (20, [(.iload_n 3, 1, 0, 0, 0), (.i2l, 1, 0, 0, 0), (.lconst 0, 1, 0, 0, 0), (.lconst 1, 1, 0, 0, 0), (.invokestatic 131, 3, 159, 3, 1351)]),
  (27, [(.ifCond .ne 5, 3, 32, 0, 0)]),
  (30, [(.iconst (-1), 1, 0, 0, 0), (.ireturn, 1, 0, 0, 0)]),
  (32, [(.aload_n 0, 1, 0, 0, 0), (.invokevirtual 397, 3, 229, 1, 1590)]),
  (36, [(.iconst 0, 1, 0, 0, 0), (.istore 4, 2, 0, 0, 0), (.iconst 0, 1, 0, 0, 0), (.istore 5, 2, 0, 0, 0)]),
  (42, [(.iload 5, 2, 0, 0, 0), (.aload_n 0, 1, 0, 0, 0), (.getfield 13, 3, 11, 3, 1193), (.iconst 1, 1, 0, 0, 0), (.iaload, 1, 0, 0, 0), (.if_icmp .ge 49, 3, 99, 0, 0)]),
  (53, [(.iload 4, 2, 0, 0, 0), (.aload_n 0, 1, 0, 0, 0), (.getfield 112, 3, 11, 44, 1234), (.bipush 100, 2, 0, 0, 0), (.iload 5, 2, 0, 0, 0), (.imul, 1, 0, 0, 0), (.iload_n 2, 1, 0, 0, 0), (.iadd, 1, 0, 0, 0), (.iaload, 1, 0, 0, 0), (.iload_n 1, 1, 0, 0, 0), (.if_icmp .eq 7, 3, 75, 0, 0)]),
  (71, [(.iconst 0, 1, 0, 0, 0), (.goto 18, 3, 90, 0, 0)]),
  (75, [(.iload_n 3, 1, 0, 0, 0), (.ifCond .ne 7, 3, 83, 0, 0)]),
  (79, [(.iconst 1, 1, 0, 0, 0), (.goto 10, 3, 90, 0, 0)]),
  (83, [(.aload_n 0, 1, 0, 0, 0), (.iload 5, 2, 0, 0, 0), (.iconst 0, 1, 0, 0, 0), (.invokevirtual 184, 3, 170, 3, 1426)]),
  (90, [(.iadd, 1, 0, 0, 0), (.istore 4, 2, 0, 0, 0), (.iinc 5 1, 3, 0, 0, 0), (.goto (-54), 3, 42, 0, 0)]),
  (99, [(.iload 4, 2, 0, 0, 0), (.ireturn, 1, 0, 0, 0)])]
set_option maxRecDepth 20000 in
theorem ck_X11_held : en_ck 233 bs_X11_held = true := en_ckF_ok (J := (yX11_held, cX11_held, 6, some .int, 11, 0)) (q := (1654, 1652, 1761, 12)) rfl rfl rfl (by decide +kernel)
def bs_X11_isStuck : en_Bs := [
  (0, [(.iconst 0, 1, 0, 0, 0), (.istore_n 2, 1, 0, 0, 0), (.aload_n 0, 1, 0, 0, 0), (.iload_n 1, 1, 0, 0, 0), (.iconst 0, 1, 0, 0, 0), (.invokevirtual 166, 3, 174, 3, 1394)]),
  (8, [(.istore_n 3, 1, 0, 0, 0), (.iconst 0, 1, 0, 0, 0), (.istore 4, 2, 0, 0, 0)]),
  (12, [(.iload 4, 2, 0, 0, 0), (.aload_n 0, 1, 0, 0, 0), (.getfield 13, 3, 11, 3, 1193), (.iconst 1, 1, 0, 0, 0), (.iaload, 1, 0, 0, 0), (.if_icmp .ge 75, 3, 95, 0, 0)]),
  (23, [(.iload_n 3, 1, 0, 0, 0), (.iconst (-1), 1, 0, 0, 0), (.if_icmp .eq 70, 3, 95, 0, 0)]),
  (28, [(.iload_n 2, 1, 0, 0, 0), (.ifCond .ne 54, 3, 83, 0, 0)]),
  (32, [(.aload_n 0, 1, 0, 0, 0), (.getfield 94, 3, 11, 38, 1228), (.iload 4, 2, 0, 0, 0), (.iaload, 1, 0, 0, 0), (.iload_n 1, 1, 0, 0, 0), (.if_icmp .ne 47, 3, 87, 0, 0)]),
  (43, [(.iload_n 3, 1, 0, 0, 0), (.aload_n 0, 1, 0, 0, 0), (.iload 4, 2, 0, 0, 0), (.iconst 2, 1, 0, 0, 0), (.invokevirtual 184, 3, 170, 3, 1426)]),
  (51, [(.if_icmp .eq 36, 3, 87, 0, 0)]),
  (54, [(.aload_n 0, 1, 0, 0, 0), (.iload 4, 2, 0, 0, 0), (.iload_n 1, 1, 0, 0, 0), (.bipush 99, 2, 0, 0, 0), (.aload_n 0, 1, 0, 0, 0), (.getfield 97, 3, 11, 39, 1229), (.iload 4, 2, 0, 0, 0), (.iaload, 1, 0, 0, 0), (.invokevirtual 388, 3, 218, 5, 1640)]),
  (70, [(.ifCond .ne 17, 3, 87, 0, 0)]),
  (73, [(.aload_n 0, 1, 0, 0, 0), (.iload_n 3, 1, 0, 0, 0), (.iload 4, 2, 0, 0, 0), (.invokevirtual 385, 3, 224, 3, 1610)]),
  (80, [(.ifCond .ne 7, 3, 87, 0, 0)]),
  (83, [(.iconst 1, 1, 0, 0, 0), (.goto 4, 3, 88, 0, 0)]),
  (87, [(.iconst 0, 1, 0, 0, 0)]),
  (88, [(.istore_n 2, 1, 0, 0, 0), (.iinc 4 1, 3, 0, 0, 0), (.goto (-80), 3, 12, 0, 0)]),
  (95, [(.iload_n 2, 1, 0, 0, 0), (.ireturn, 1, 0, 0, 0)])]
set_option maxRecDepth 20000 in
theorem ck_X11_isStuck : en_ck 234 bs_X11_isStuck = true := en_ckF_ok (J := (yX11_isStuck, cX11_isStuck, 5, some .boolean, 11, 0)) (q := (1662, 1661, 95, 12)) rfl rfl rfl (by decide +kernel)
def bs_X11_choke : en_Bs := [
  (0, [(.aload_n 0, 1, 0, 0, 0), (.iconst 0, 1, 0, 0, 0), (.putfield 121, 3, 11, 0, 1190), (.aload_n 0, 1, 0, 0, 0), (.invokevirtual 397, 3, 229, 1, 1590)]),
  (9, [(.iconst 0, 1, 0, 0, 0), (.istore_n 1, 1, 0, 0, 0)]),
  (11, [(.iload_n 1, 1, 0, 0, 0), (.aload_n 0, 1, 0, 0, 0), (.getfield 13, 3, 11, 3, 1193), (.iconst 0, 1, 0, 0, 0), (.iaload, 1, 0, 0, 0), (.if_icmp .ge 62, 3, 80, 0, 0)]),
  (21, [(.iconst 0, 1, 0, 0, 0), (.istore_n 2, 1, 0, 0, 0), (.iload_n 1, 1, 0, 0, 0), (.istore_n 3, 1, 0, 0, 0), (.iconst 0, 1, 0, 0, 0), (.istore 4, 2, 0, 0, 0)]),
  (28, [(.iload 4, 2, 0, 0, 0), (.bipush 12, 2, 0, 0, 0), (.if_icmp .ge 42, 3, 74, 0, 0)]),
  (35, [(.iload_n 3, 1, 0, 0, 0), (.iconst (-1), 1, 0, 0, 0), (.if_icmp .eq 37, 3, 74, 0, 0)]),
  (40, [(.aload_n 0, 1, 0, 0, 0), (.iload_n 3, 1, 0, 0, 0), (.invokevirtual 403, 3, 234, 2, 1659)]),
  (45, [(.ifCond .eq 29, 3, 74, 0, 0)]),
  (48, [(.iload_n 2, 1, 0, 0, 0), (.iconst 1, 1, 0, 0, 0), (.iload_n 3, 1, 0, 0, 0), (.ishl, 1, 0, 0, 0), (.ior, 1, 0, 0, 0), (.istore_n 2, 1, 0, 0, 0), (.aload_n 0, 1, 0, 0, 0), (.iload_n 3, 1, 0, 0, 0), (.iconst 0, 1, 0, 0, 0), (.invokevirtual 166, 3, 174, 3, 1394)]),
  (60, [(.istore_n 3, 1, 0, 0, 0), (.iload_n 3, 1, 0, 0, 0), (.iload_n 1, 1, 0, 0, 0), (.if_icmp .ne 5, 3, 68, 0, 0)]),
  (66, [(.iload_n 2, 1, 0, 0, 0), (.ireturn, 1, 0, 0, 0)]),
  (68, [(.iinc 4 1, 3, 0, 0, 0), (.goto (-43), 3, 28, 0, 0)]),
  (74, [(.iinc 1 1, 3, 0, 0, 0), (.goto (-66), 3, 11, 0, 0)]),
  (80, [(.iconst 0, 1, 0, 0, 0), (.ireturn, 1, 0, 0, 0)])]
set_option maxRecDepth 20000 in
theorem ck_X11_choke : en_ck 235 bs_X11_choke = true := en_ckF_ok (J := (yX11_choke, cX11_choke, 5, some .int, 11, 0)) (q := (1658, 1656, 1765, 12)) rfl rfl rfl (by decide +kernel)
def bs_X11_swapAt : en_Bs := [
  (0, [(.aload_n 0, 1, 0, 0, 0), (.getfield 82, 3, 11, 33, 1223), (.iload_n 1, 1, 0, 0, 0), (.iaload, 1, 0, 0, 0), (.istore_n 3, 1, 0, 0, 0), (.aload_n 0, 1, 0, 0, 0), (.getfield 85, 3, 11, 34, 1224), (.iload_n 1, 1, 0, 0, 0), (.iaload, 1, 0, 0, 0), (.istore 4, 2, 0, 0, 0), (.aload_n 0, 1, 0, 0, 0), (.getfield 82, 3, 11, 33, 1223), (.iload_n 1, 1, 0, 0, 0), (.aload_n 0, 1, 0, 0, 0), (.getfield 82, 3, 11, 33, 1223), (.iload_n 2, 1, 0, 0, 0), (.iaload, 1, 0, 0, 0), (.iastore, 1, 0, 0, 0), (.aload_n 0, 1, 0, 0, 0), (.getfield 85, 3, 11, 34, 1224), (.iload_n 1, 1, 0, 0, 0), (.aload_n 0, 1, 0, 0, 0), (.getfield 85, 3, 11, 34, 1224), (.iload_n 2, 1, 0, 0, 0), (.iaload, 1, 0, 0, 0), (.iastore, 1, 0, 0, 0), (.aload_n 0, 1, 0, 0, 0), (.getfield 82, 3, 11, 33, 1223), (.iload_n 2, 1, 0, 0, 0), (.iload_n 3, 1, 0, 0, 0), (.iastore, 1, 0, 0, 0), (.aload_n 0, 1, 0, 0, 0), (.getfield 85, 3, 11, 34, 1224), (.iload_n 2, 1, 0, 0, 0), (.iload 4, 2, 0, 0, 0), (.iastore, 1, 0, 0, 0), (.return_, 1, 0, 0, 0)])]
set_option maxRecDepth 20000 in
theorem ck_X11_swapAt : en_ck 236 bs_X11_swapAt = true := en_ckF_ok (J := (yX11_swapAt, cX11_swapAt, 5, none, 11, 0)) (q := (1674, 1673, 97, 12)) rfl rfl rfl (by decide +kernel)
