def bs_X11_feed : en_Bs := [
  (0, [(.aload_n 0, 1, 0, 0, 0), (.iconst 0, 1, 0, 0, 0), (.putfield 121, 3, 11, 0, 1190), (.aload_n 0, 1, 0, 0, 0), (.getfield 189, 3, 11, 8, 1198), (.bipush 20, 2, 0, 0, 0), (.iadd, 1, 0, 0, 0), (.sipush 400, 3, 0, 0, 0), (.if_icmp .le 5, 3, 20, 0, 0)]),
  (18, [(.iconst (-1), 1, 0, 0, 0), (.ireturn, 1, 0, 0, 0)]),
  (20, [(.aload_n 0, 1, 0, 0, 0), (.iload_n 1, 1, 0, 0, 0), (.invokevirtual 195, 3, 184, 2, 1451)]),
  (25, [(.aload_n 0, 1, 0, 0, 0), (.iload_n 2, 1, 0, 0, 0), (.invokevirtual 195, 3, 184, 2, 1451)]),
  (30, [(.aload_n 0, 1, 0, 0, 0), (.iload_n 3, 1, 0, 0, 0), (.invokevirtual 195, 3, 184, 2, 1451)]),
  (35, [(.aload_n 0, 1, 0, 0, 0), (.iload 4, 2, 0, 0, 0), (.invokevirtual 195, 3, 184, 2, 1451)]),
  (41, [(.aload_n 0, 1, 0, 0, 0), (.iload 5, 2, 0, 0, 0), (.invokevirtual 195, 3, 184, 2, 1451)]),
  (47, [(.aload_n 0, 1, 0, 0, 0), (.getfield 189, 3, 11, 8, 1198), (.ireturn, 1, 0, 0, 0)])]
set_option maxRecDepth 20000 in
theorem ck_X11_feed : en_ck 185 bs_X11_feed = true := en_ckF_ok (J := (yX11_feed, cX11_feed, 6, some .int, 11, 0)) (q := (1450, 1448, 1557, 12)) rfl rfl rfl (by decide +kernel)
def bs_X11_end : en_Bs := [
  (0, [(.aload_n 0, 1, 0, 0, 0), (.iconst 0, 1, 0, 0, 0), (.putfield 121, 3, 11, 0, 1190), (.iload_n 1, 1, 0, 0, 0), (.ifCond .lt 11, 3, 17, 0, 0)]),
  (9, [(.iload_n 1, 1, 0, 0, 0), (.aload_n 0, 1, 0, 0, 0), (.getfield 189, 3, 11, 8, 1198), (.if_icmp .le 5, 3, 19, 0, 0)]),
  (17, [(.iconst (-1), 1, 0, 0, 0), (.ireturn, 1, 0, 0, 0)]),
  (19, [(.aload_n 0, 1, 0, 0, 0), (.iload_n 1, 1, 0, 0, 0), (.putfield 189, 3, 11, 8, 1198), (.iload_n 1, 1, 0, 0, 0), (.ireturn, 1, 0, 0, 0)])]
set_option maxRecDepth 20000 in
theorem ck_X11_end : en_ck 186 bs_X11_end = true := en_ckF_ok (J := (yX11_end, cX11_end, 2, some .int, 11, 0)) (q := (1458, 1456, 1565, 12)) rfl rfl rfl (by decide +kernel)
def bs_X11_isSmall : en_Bs := [
  (0, [(.iload_n 0, 1, 0, 0, 0), (.bipush 97, 2, 0, 0, 0), (.if_icmp .lt 13, 3, 16, 0, 0)]),
  (6, [(.iload_n 0, 1, 0, 0, 0), (.bipush 122, 2, 0, 0, 0), (.if_icmp .gt 7, 3, 16, 0, 0)]),
  (12, [(.iconst 1, 1, 0, 0, 0), (.goto 4, 3, 17, 0, 0)]),
  (16, [(.iconst 0, 1, 0, 0, 0)]),
  (17, [(.ireturn, 1, 0, 0, 0)])]
set_option maxRecDepth 20000 in
theorem ck_X11_isSmall : en_ck 187 bs_X11_isSmall = true := en_ckF_ok (J := (yX11_isSmall, cX11_isSmall, 1, some .boolean, 11, 1)) (q := (1477, 1476, 0, 12)) rfl rfl rfl (by decide +kernel)
def bs_X11_isDigit : en_Bs := [
  (0, [(.iload_n 0, 1, 0, 0, 0), (.bipush 48, 2, 0, 0, 0), (.if_icmp .lt 13, 3, 16, 0, 0)]),
  (6, [(.iload_n 0, 1, 0, 0, 0), (.bipush 57, 2, 0, 0, 0), (.if_icmp .gt 7, 3, 16, 0, 0)]),
  (12, [(.iconst 1, 1, 0, 0, 0), (.goto 4, 3, 17, 0, 0)]),
  (16, [(.iconst 0, 1, 0, 0, 0)]),
  (17, [(.ireturn, 1, 0, 0, 0)])]
set_option maxRecDepth 20000 in
theorem ck_X11_isDigit : en_ck 188 bs_X11_isDigit = true := en_ckF_ok (J := (yX11_isDigit, cX11_isDigit, 1, some .boolean, 11, 1)) (q := (1480, 1479, 0, 12)) rfl rfl rfl (by decide +kernel)
def bs_X11_begin : en_Bs := [
  (0, [(.aload_n 0, 1, 0, 0, 0), (.iconst 0, 1, 0, 0, 0), (.putfield 199, 3, 11, 10, 1200), (.aload_n 0, 1, 0, 0, 0), (.iconst 0, 1, 0, 0, 0), (.putfield 202, 3, 11, 14, 1204), (.aload_n 0, 1, 0, 0, 0), (.iconst (-1), 1, 0, 0, 0), (.putfield 26, 3, 11, 13, 1203), (.aload_n 0, 1, 0, 0, 0), (.invokevirtual 206, 3, 190, 1, 1471)]),
  (19, [(.return_, 1, 0, 0, 0)])]
set_option maxRecDepth 20000 in
theorem ck_X11_begin : en_ck 189 bs_X11_begin = true := en_ckF_ok (J := (yX11_begin, cX11_begin, 1, none, 11, 0)) (q := (1470, 1469, 61, 12)) rfl rfl rfl (by decide +kernel)
def bs_X11_next : en_Bs := [
  (0, [(.aload_n 0, 1, 0, 0, 0), (.aload_n 0, 1, 0, 0, 0), (.getfield 199, 3, 11, 10, 1200), (.putfield 209, 3, 11, 9, 1199)]),
  (8, [(.aload_n 0, 1, 0, 0, 0), (.getfield 209, 3, 11, 9, 1199), (.aload_n 0, 1, 0, 0, 0), (.getfield 189, 3, 11, 8, 1198), (.if_icmp .ge 30, 3, 46, 0, 0)]),
  (19, [(.aload_n 0, 1, 0, 0, 0), (.getfield 23, 3, 11, 7, 1197), (.aload_n 0, 1, 0, 0, 0), (.getfield 209, 3, 11, 9, 1199), (.iaload, 1, 0, 0, 0), (.bipush 32, 2, 0, 0, 0), (.if_icmp .ne 16, 3, 46, 0, 0)]),
  (33, [(.aload_n 0, 1, 0, 0, 0), (.dup, 1, 0, 0, 0), (.getfield 209, 3, 11, 9, 1199), (.iconst 1, 1, 0, 0, 0), (.iadd, 1, 0, 0, 0), (.putfield 209, 3, 11, 9, 1199), (.goto (-35), 3, 8, 0, 0)]),
  (46, [(.aload_n 0, 1, 0, 0, 0), (.aload_n 0, 1, 0, 0, 0), (.getfield 209, 3, 11, 9, 1199), (.putfield 199, 3, 11, 10, 1200), (.aload_n 0, 1, 0, 0, 0), (.lconst 0, 1, 0, 0, 0), (.putfield 212, 3, 11, 12, 1202), (.aload_n 0, 1, 0, 0, 0), (.aload_n 0, 1, 0, 0, 0), (.getfield 209, 3, 11, 9, 1199), (.aload_n 0, 1, 0, 0, 0), (.getfield 189, 3, 11, 8, 1198), (.if_icmp .ne 7, 3, 75, 0, 0)]),
  (71, [(.iconst 0, 1, 0, 0, 0), (.goto 42, 3, 114, 0, 0)]),
  (75, [(.aload_n 0, 1, 0, 0, 0), (.getfield 23, 3, 11, 7, 1197), (.aload_n 0, 1, 0, 0, 0), (.getfield 209, 3, 11, 9, 1199), (.iaload, 1, 0, 0, 0), (.invokestatic 216, 3, 187, 1, 1475)]),
  (87, [(.ifCond .eq 7, 3, 94, 0, 0)]),
  (90, [(.iconst 1, 1, 0, 0, 0), (.goto 23, 3, 114, 0, 0)]),
  (94, [(.aload_n 0, 1, 0, 0, 0), (.getfield 23, 3, 11, 7, 1197), (.aload_n 0, 1, 0, 0, 0), (.getfield 209, 3, 11, 9, 1199), (.iaload, 1, 0, 0, 0), (.invokestatic 219, 3, 188, 1, 1478)]),
  (106, [(.ifCond .eq 7, 3, 113, 0, 0)]),
  (109, [(.iconst 2, 1, 0, 0, 0), (.goto 4, 3, 114, 0, 0)]),
  (113, [(.iconst 3, 1, 0, 0, 0)]),
  (114, [(.putfield 222, 3, 11, 11, 1201), (.aload_n 0, 1, 0, 0, 0), (.getfield 222, 3, 11, 11, 1201), (.iconst 3, 1, 0, 0, 0), (.if_icmp .ne 27, 3, 149, 0, 0)]),
  (125, [(.aload_n 0, 1, 0, 0, 0), (.aload_n 0, 1, 0, 0, 0), (.getfield 23, 3, 11, 7, 1197), (.aload_n 0, 1, 0, 0, 0), (.getfield 209, 3, 11, 9, 1199), (.iaload, 1, 0, 0, 0), (.i2l, 1, 0, 0, 0), (.putfield 212, 3, 11, 12, 1202), (.aload_n 0, 1, 0, 0, 0), (.dup, 1, 0, 0, 0), (.getfield 199, 3, 11, 10, 1200), (.iconst 1, 1, 0, 0, 0), (.iadd, 1, 0, 0, 0), (.putfield 199, 3, 11, 10, 1200)]),
  (149, [(.aload_n 0, 1, 0, 0, 0), (.getfield 222, 3, 11, 11, 1201), (.iconst 1, 1, 0, 0, 0), (.if_icmp .ne 89, 3, 243, 0, 0)]),
  (157, [(.aload_n 0, 1, 0, 0, 0), (.getfield 199, 3, 11, 10, 1200), (.aload_n 0, 1, 0, 0, 0), (.getfield 189, 3, 11, 8, 1198), (.if_icmp .ge 78, 3, 243, 0, 0)]),
  (168, [(.aload_n 0, 1, 0, 0, 0), (.getfield 23, 3, 11, 7, 1197), (.aload_n 0, 1, 0, 0, 0), (.getfield 199, 3, 11, 10, 1200), (.iaload, 1, 0, 0, 0), (.invokestatic 216, 3, 187, 1, 1475)]),
  (180, [(.ifCond .eq 63, 3, 243, 0, 0)]),
  (183, [(.aload_n 0, 1, 0, 0, 0), (.aload_n 0, 1, 0, 0, 0), (.getfield 199, 3, 11, 10, 1200), (.aload_n 0, 1, 0, 0, 0), (.getfield 209, 3, 11, 9, 1199), (.isub, 1, 0, 0, 0), (.bipush 10, 2, 0, 0, 0), (.if_icmp .ge 29, 3, 224, 0, 0)]),
  (198, [(.aload_n 0, 1, 0, 0, 0), (.getfield 212, 3, 11, 12, 1202), (.ldc2_w 225, 3, 0, 32, 1481), (.lmul, 1, 0, 0, 0), (.aload_n 0, 1, 0, 0, 0), (.getfield 23, 3, 11, 7, 1197), (.aload_n 0, 1, 0, 0, 0), (.getfield 199, 3, 11, 10, 1200), (.iaload, 1, 0, 0, 0), (.i2l, 1, 0, 0, 0), (.ladd, 1, 0, 0, 0), (.ldc2_w 227, 3, 0, 96, 1482), (.lsub, 1, 0, 0, 0), (.goto 6, 3, 227, 0, 0)]),
  (224, [(.ldc2_w 138, 3, 0, 18446744073709551615, 1369)]),
  (227, [(.putfield 212, 3, 11, 12, 1202), (.aload_n 0, 1, 0, 0, 0), (.dup, 1, 0, 0, 0), (.getfield 199, 3, 11, 10, 1200), (.iconst 1, 1, 0, 0, 0), (.iadd, 1, 0, 0, 0), (.putfield 199, 3, 11, 10, 1200), (.goto (-91), 3, 149, 0, 0)]),
  (243, [(.aload_n 0, 1, 0, 0, 0), (.getfield 222, 3, 11, 11, 1201), (.iconst 2, 1, 0, 0, 0), (.if_icmp .ne 87, 3, 335, 0, 0)]),
  (251, [(.aload_n 0, 1, 0, 0, 0), (.getfield 199, 3, 11, 10, 1200), (.aload_n 0, 1, 0, 0, 0), (.getfield 189, 3, 11, 8, 1198), (.if_icmp .ge 76, 3, 335, 0, 0)]),
  (262, [(.aload_n 0, 1, 0, 0, 0), (.getfield 23, 3, 11, 7, 1197), (.aload_n 0, 1, 0, 0, 0), (.getfield 199, 3, 11, 10, 1200), (.iaload, 1, 0, 0, 0), (.invokestatic 219, 3, 188, 1, 1478)]),
  (274, [(.ifCond .eq 61, 3, 335, 0, 0)]),
  (277, [(.aload_n 0, 1, 0, 0, 0), (.aload_n 0, 1, 0, 0, 0), (.getfield 212, 3, 11, 12, 1202), (.ldc2_w 229, 3, 0, 1000000, 1483), (.lcmp, 1, 0, 0, 0), (.ifCond .le 10, 3, 296, 0, 0)]),
  (289, [(.aload_n 0, 1, 0, 0, 0), (.getfield 212, 3, 11, 12, 1202), (.goto 26, 3, 319, 0, 0)]),
  (296, [(.aload_n 0, 1, 0, 0, 0), (.getfield 212, 3, 11, 12, 1202), (.ldc2_w 231, 3, 0, 10, 1484), (.lmul, 1, 0, 0, 0), (.aload_n 0, 1, 0, 0, 0), (.getfield 23, 3, 11, 7, 1197), (.aload_n 0, 1, 0, 0, 0), (.getfield 199, 3, 11, 10, 1200), (.iaload, 1, 0, 0, 0), (.i2l, 1, 0, 0, 0), (.ladd, 1, 0, 0, 0), (.ldc2_w 233, 3, 0, 48, 1485), (.lsub, 1, 0, 0, 0)]),
  (319, [(.putfield 212, 3, 11, 12, 1202), (.aload_n 0, 1, 0, 0, 0), (.dup, 1, 0, 0, 0), (.getfield 199, 3, 11, 10, 1200), (.iconst 1, 1, 0, 0, 0), (.iadd, 1, 0, 0, 0), (.putfield 199, 3, 11, 10, 1200), (.goto (-89), 3, 243, 0, 0)]),
  (335, [(.return_, 1, 0, 0, 0)])]
set_option maxRecDepth 20000 in
theorem ck_X11_next : en_ck 190 bs_X11_next = true := en_ckF_ok (J := (yX11_next, cX11_next, 1, none, 11, 0)) (q := (1474, 1473, 62, 12)) rfl rfl rfl (by decide +kernel)
def bs_X11_isWord : en_Bs := [
  (0, [(.aload_n 0, 1, 0, 0, 0), (.getfield 222, 3, 11, 11, 1201), (.iconst 1, 1, 0, 0, 0), (.if_icmp .ne 16, 3, 21, 0, 0)]),
  (8, [(.aload_n 0, 1, 0, 0, 0), (.getfield 212, 3, 11, 12, 1202), (.lload_n 1, 1, 0, 0, 0), (.lcmp, 1, 0, 0, 0), (.ifCond .ne 7, 3, 21, 0, 0)]),
  (17, [(.iconst 1, 1, 0, 0, 0), (.goto 4, 3, 22, 0, 0)]),
  (21, [(.iconst 0, 1, 0, 0, 0)]),
  (22, [(.ireturn, 1, 0, 0, 0)])]
set_option maxRecDepth 20000 in
theorem ck_X11_isWord : en_ck 191 bs_X11_isWord = true := en_ckF_ok (J := (yX11_isWord, cX11_isWord, 3, some .boolean, 11, 0)) (q := (1493, 1492, 64, 12)) rfl rfl rfl (by decide +kernel)
def bs_X11_isSign : en_Bs := [
  (0, [(.aload_n 0, 1, 0, 0, 0), (.getfield 222, 3, 11, 11, 1201), (.iconst 3, 1, 0, 0, 0), (.if_icmp .ne 17, 3, 22, 0, 0)]),
  (8, [(.aload_n 0, 1, 0, 0, 0), (.getfield 212, 3, 11, 12, 1202), (.iload_n 1, 1, 0, 0, 0), (.i2l, 1, 0, 0, 0), (.lcmp, 1, 0, 0, 0), (.ifCond .ne 7, 3, 22, 0, 0)]),
  (18, [(.iconst 1, 1, 0, 0, 0), (.goto 4, 3, 23, 0, 0)]),
  (22, [(.iconst 0, 1, 0, 0, 0)]),
  (23, [(.ireturn, 1, 0, 0, 0)])]
set_option maxRecDepth 20000 in
theorem ck_X11_isSign : en_ck 192 bs_X11_isSign = true := en_ckF_ok (J := (yX11_isSign, cX11_isSign, 2, some .boolean, 11, 0)) (q := (1514, 1513, 69, 12)) rfl rfl rfl (by decide +kernel)
def bs_X11_must : en_Bs := [
  (0, [(.aload_n 0, 1, 0, 0, 0), (.getfield 202, 3, 11, 14, 1204), (.ifCond .ne 20, 3, 24, 0, 0)]),
  (7, [(.iload_n 1, 1, 0, 0, 0), (.ifCond .ne 16, 3, 24, 0, 0)]),
  (11, [(.aload_n 0, 1, 0, 0, 0), (.iconst 1, 1, 0, 0, 0), (.putfield 202, 3, 11, 14, 1204), (.aload_n 0, 1, 0, 0, 0), (.aload_n 0, 1, 0, 0, 0), (.getfield 209, 3, 11, 9, 1199), (.putfield 26, 3, 11, 13, 1203)]),
  (24, [(.aload_n 0, 1, 0, 0, 0), (.getfield 202, 3, 11, 14, 1204), (.ifCond .ne 7, 3, 35, 0, 0)]),
  (31, [(.aload_n 0, 1, 0, 0, 0), (.invokevirtual 206, 3, 190, 1, 1471)]),
  (35, [(.return_, 1, 0, 0, 0)])]
set_option maxRecDepth 20000 in
theorem ck_X11_must : en_ck 193 bs_X11_must = true := en_ckF_ok (J := (yX11_must, cX11_must, 2, none, 11, 0)) (q := (1497, 1496, 65, 12)) rfl rfl rfl (by decide +kernel)
def bs_X11_fault : en_Bs := [
  (0, [(.aload_n 0, 1, 0, 0, 0), (.iconst 0, 1, 0, 0, 0), (.putfield 121, 3, 11, 0, 1190), (.aload_n 0, 1, 0, 0, 0), (.getfield 26, 3, 11, 13, 1203), (.ireturn, 1, 0, 0, 0)])]
set_option maxRecDepth 20000 in
theorem ck_X11_fault : en_ck 194 bs_X11_fault = true := en_ckF_ok (J := (yX11_fault, cX11_fault, 1, some .int, 11, 0)) (q := (1462, 1460, 1569, 12)) rfl rfl rfl (by decide +kernel)
def bs_X11_emit : en_Bs := [
  (0, [(.aload_n 0, 1, 0, 0, 0), (.getfield 33, 3, 11, 18, 1208), (.aload_n 0, 1, 0, 0, 0), (.getfield 239, 3, 11, 17, 1207), (.iload_n 1, 1, 0, 0, 0), (.iastore, 1, 0, 0, 0), (.aload_n 0, 1, 0, 0, 0), (.getfield 36, 3, 11, 19, 1209), (.aload_n 0, 1, 0, 0, 0), (.getfield 239, 3, 11, 17, 1207), (.iload_n 2, 1, 0, 0, 0), (.iastore, 1, 0, 0, 0), (.aload_n 0, 1, 0, 0, 0), (.dup, 1, 0, 0, 0), (.getfield 239, 3, 11, 17, 1207), (.iconst 1, 1, 0, 0, 0), (.iadd, 1, 0, 0, 0), (.putfield 239, 3, 11, 17, 1207), (.return_, 1, 0, 0, 0)])]
set_option maxRecDepth 20000 in
theorem ck_X11_emit : en_ck 195 bs_X11_emit = true := en_ckF_ok (J := (yX11_emit, cX11_emit, 3, none, 11, 0)) (q := (1535, 1534, 74, 12)) rfl rfl rfl (by decide +kernel)
def bs_X11_push : en_Bs := [
  (0, [(.aload_n 0, 1, 0, 0, 0), (.getfield 39, 3, 11, 21, 1211), (.aload_n 0, 1, 0, 0, 0), (.getfield 242, 3, 11, 23, 1213), (.iload_n 1, 1, 0, 0, 0), (.iastore, 1, 0, 0, 0), (.aload_n 0, 1, 0, 0, 0), (.getfield 42, 3, 11, 22, 1212), (.aload_n 0, 1, 0, 0, 0), (.getfield 242, 3, 11, 23, 1213), (.iload_n 2, 1, 0, 0, 0), (.iastore, 1, 0, 0, 0), (.aload_n 0, 1, 0, 0, 0), (.dup, 1, 0, 0, 0), (.getfield 242, 3, 11, 23, 1213), (.iconst 1, 1, 0, 0, 0), (.iadd, 1, 0, 0, 0), (.putfield 242, 3, 11, 23, 1213), (.return_, 1, 0, 0, 0)])]
set_option maxRecDepth 20000 in
theorem ck_X11_push : en_ck 196 bs_X11_push = true := en_ckF_ok (J := (yX11_push, cX11_push, 3, none, 11, 0)) (q := (1510, 1509, 68, 12)) rfl rfl rfl (by decide +kernel)
def bs_X11_binds : en_Bs := [
  (0, [(.iload_n 0, 1, 0, 0, 0), (.bipush 30, 2, 0, 0, 0), (.if_icmp .lt 7, 3, 10, 0, 0)]),
  (6, [(.iconst 0, 1, 0, 0, 0), (.goto 55, 3, 62, 0, 0)]),
  (10, [(.iload_n 0, 1, 0, 0, 0), (.bipush 29, 2, 0, 0, 0), (.if_icmp .ne 7, 3, 20, 0, 0)]),
  (16, [(.iconst 1, 1, 0, 0, 0), (.goto 45, 3, 62, 0, 0)]),
  (20, [(.iload_n 0, 1, 0, 0, 0), (.bipush 28, 2, 0, 0, 0), (.if_icmp .ne 7, 3, 30, 0, 0)]),
  (26, [(.iconst 2, 1, 0, 0, 0), (.goto 35, 3, 62, 0, 0)]),
  (30, [(.iload_n 0, 1, 0, 0, 0), (.bipush 27, 2, 0, 0, 0), (.if_icmp .ne 7, 3, 40, 0, 0)]),
  (36, [(.iconst 3, 1, 0, 0, 0), (.goto 25, 3, 62, 0, 0)]),
  (40, [(.iload_n 0, 1, 0, 0, 0), (.bipush 24, 2, 0, 0, 0), (.if_icmp .lt 7, 3, 50, 0, 0)]),
  (46, [(.iconst 4, 1, 0, 0, 0), (.goto 15, 3, 62, 0, 0)]),
  (50, [(.iload_n 0, 1, 0, 0, 0), (.bipush 22, 2, 0, 0, 0), (.if_icmp .lt 8, 3, 61, 0, 0)]),
  (56, [(.bipush 6, 2, 0, 0, 0), (.goto 4, 3, 62, 0, 0)]),
  (61, [(.iconst 5, 1, 0, 0, 0)]),
  (62, [(.ireturn, 1, 0, 0, 0)])]
set_option maxRecDepth 20000 in
theorem ck_X11_binds : en_ck 197 bs_X11_binds = true := en_ckF_ok (J := (yX11_binds, cX11_binds, 1, some .int, 11, 1)) (q := (1542, 1541, 0, 12)) rfl rfl rfl (by decide +kernel)
def bs_X11_settle : en_Bs := [
  (0, [(.aload_n 0, 1, 0, 0, 0), (.getfield 242, 3, 11, 23, 1213), (.ifCond .le 97, 3, 101, 0, 0)]),
  (7, [(.aload_n 0, 1, 0, 0, 0), (.getfield 39, 3, 11, 21, 1211), (.aload_n 0, 1, 0, 0, 0), (.getfield 242, 3, 11, 23, 1213), (.iconst 1, 1, 0, 0, 0), (.isub, 1, 0, 0, 0), (.iaload, 1, 0, 0, 0), (.invokestatic 245, 3, 197, 1, 1540)]),
  (21, [(.iload_n 1, 1, 0, 0, 0), (.if_icmp .lt 79, 3, 101, 0, 0)]),
  (25, [(.aload_n 0, 1, 0, 0, 0), (.dup, 1, 0, 0, 0), (.getfield 242, 3, 11, 23, 1213), (.iconst 1, 1, 0, 0, 0), (.isub, 1, 0, 0, 0), (.putfield 242, 3, 11, 23, 1213), (.aload_n 0, 1, 0, 0, 0), (.getfield 39, 3, 11, 21, 1211), (.aload_n 0, 1, 0, 0, 0), (.getfield 242, 3, 11, 23, 1213), (.iaload, 1, 0, 0, 0), (.bipush 28, 2, 0, 0, 0), (.if_icmp .eq 17, 3, 63, 0, 0)]),
  (49, [(.aload_n 0, 1, 0, 0, 0), (.getfield 39, 3, 11, 21, 1211), (.aload_n 0, 1, 0, 0, 0), (.getfield 242, 3, 11, 23, 1213), (.iaload, 1, 0, 0, 0), (.bipush 29, 2, 0, 0, 0), (.if_icmp .ne 24, 3, 84, 0, 0)]),
  (63, [(.aload_n 0, 1, 0, 0, 0), (.getfield 36, 3, 11, 19, 1209), (.aload_n 0, 1, 0, 0, 0), (.getfield 42, 3, 11, 22, 1212), (.aload_n 0, 1, 0, 0, 0), (.getfield 242, 3, 11, 23, 1213), (.iaload, 1, 0, 0, 0), (.aload_n 0, 1, 0, 0, 0), (.getfield 239, 3, 11, 17, 1207), (.iastore, 1, 0, 0, 0), (.goto (-81), 3, 0, 0, 0)]),
  (84, [(.aload_n 0, 1, 0, 0, 0), (.aload_n 0, 1, 0, 0, 0), (.getfield 39, 3, 11, 21, 1211), (.aload_n 0, 1, 0, 0, 0), (.getfield 242, 3, 11, 23, 1213), (.iaload, 1, 0, 0, 0), (.iconst 0, 1, 0, 0, 0), (.invokevirtual 248, 3, 195, 3, 1532)]),
  (98, [(.goto (-98), 3, 0, 0, 0)]),
  (101, [(.return_, 1, 0, 0, 0)])]
set_option maxRecDepth 20000 in
theorem ck_X11_settle : en_ck 198 bs_X11_settle = true := en_ckF_ok (J := (yX11_settle, cX11_settle, 2, none, 11, 0)) (q := (1546, 1545, 76, 12)) rfl rfl rfl (by decide +kernel)
def bs_X11_inner : en_Bs := [
  (0, [(.iconst (-1), 1, 0, 0, 0), (.istore_n 1, 1, 0, 0, 0), (.iconst 0, 1, 0, 0, 0), (.istore_n 2, 1, 0, 0, 0)]),
  (4, [(.iload_n 2, 1, 0, 0, 0), (.aload_n 0, 1, 0, 0, 0), (.getfield 242, 3, 11, 23, 1213), (.if_icmp .ge 31, 3, 40, 0, 0)]),
  (12, [(.aload_n 0, 1, 0, 0, 0), (.getfield 39, 3, 11, 21, 1211), (.iload_n 2, 1, 0, 0, 0), (.iaload, 1, 0, 0, 0), (.bipush 30, 2, 0, 0, 0), (.if_icmp .lt 12, 3, 32, 0, 0)]),
  (23, [(.aload_n 0, 1, 0, 0, 0), (.getfield 39, 3, 11, 21, 1211), (.iload_n 2, 1, 0, 0, 0), (.iaload, 1, 0, 0, 0), (.goto 4, 3, 33, 0, 0)]),
  (32, [(.iload_n 1, 1, 0, 0, 0)]),
  (33, [(.istore_n 1, 1, 0, 0, 0), (.iinc 2 1, 3, 0, 0, 0), (.goto (-33), 3, 4, 0, 0)]),
  (40, [(.iload_n 1, 1, 0, 0, 0), (.ireturn, 1, 0, 0, 0)])]
set_option maxRecDepth 20000 in
theorem ck_X11_inner : en_ck 199 bs_X11_inner = true := en_ckF_ok (J := (yX11_inner, cX11_inner, 3, some .int, 11, 0)) (q := (1550, 1549, 77, 12)) rfl rfl rfl (by decide +kernel)
def bs_X11_isCompared : en_Bs := [
  (0, [(.aload_n 0, 1, 0, 0, 0), (.getfield 242, 3, 11, 23, 1213), (.iconst 1, 1, 0, 0, 0), (.isub, 1, 0, 0, 0), (.istore_n 1, 1, 0, 0, 0)]),
  (7, [(.iload_n 1, 1, 0, 0, 0), (.ifCond .lt 28, 3, 36, 0, 0)]),
  (11, [(.aload_n 0, 1, 0, 0, 0), (.getfield 39, 3, 11, 21, 1211), (.iload_n 1, 1, 0, 0, 0), (.iaload, 1, 0, 0, 0), (.i2l, 1, 0, 0, 0), (.ldc2_w 252, 3, 0, 20, 1555), (.ldc2_w 254, 3, 0, 23, 1556), (.invokestatic 131, 3, 159, 3, 1351)]),
  (27, [(.ifCond .eq 9, 3, 36, 0, 0)]),
  (30, [(.iinc 1 (-1), 3, 0, 0, 0), (.goto (-26), 3, 7, 0, 0)]),
  (36, [(.iload_n 1, 1, 0, 0, 0), (.ifCond .lt 26, 3, 63, 0, 0)]),
  (40, [(.aload_n 0, 1, 0, 0, 0), (.getfield 39, 3, 11, 21, 1211), (.iload_n 1, 1, 0, 0, 0), (.iaload, 1, 0, 0, 0), (.i2l, 1, 0, 0, 0), (.ldc2_w 256, 3, 0, 24, 1557), (.ldc2_w 258, 3, 0, 26, 1558), (.invokestatic 131, 3, 159, 3, 1351)]),
  (56, [(.ifCond .eq 7, 3, 63, 0, 0)]),
  (59, [(.iconst 1, 1, 0, 0, 0), (.goto 4, 3, 64, 0, 0)]),
  (63, [(.iconst 0, 1, 0, 0, 0)]),
  (64, [(.ireturn, 1, 0, 0, 0)])]
set_option maxRecDepth 20000 in
theorem ck_X11_isCompared : en_ck 200 bs_X11_isCompared = true := en_ckF_ok (J := (yX11_isCompared, cX11_isCompared, 2, some .boolean, 11, 0)) (q := (1554, 1553, 78, 12)) rfl rfl rfl (by decide +kernel)
def bs_X11_partAt : en_Bs := [
  (0, [(.iconst (-1), 1, 0, 0, 0), (.istore_n 1, 1, 0, 0, 0), (.iconst 0, 1, 0, 0, 0), (.istore_n 2, 1, 0, 0, 0)]),
  (4, [(.iload_n 2, 1, 0, 0, 0), (.bipush 9, 2, 0, 0, 0), (.if_icmp .ge 30, 3, 37, 0, 0)]),
  (10, [(.aload_n 0, 1, 0, 0, 0), (.aload_n 0, 1, 0, 0, 0), (.getfield 63, 3, 11, 25, 1215), (.iload_n 2, 1, 0, 0, 0), (.laload, 1, 0, 0, 0), (.invokevirtual 260, 3, 191, 2, 1490)]),
  (20, [(.ifCond .eq 9, 3, 29, 0, 0)]),
  (23, [(.iload_n 2, 1, 0, 0, 0), (.iconst 1, 1, 0, 0, 0), (.iadd, 1, 0, 0, 0), (.goto 4, 3, 30, 0, 0)]),
  (29, [(.iload_n 1, 1, 0, 0, 0)]),
  (30, [(.istore_n 1, 1, 0, 0, 0), (.iinc 2 1, 3, 0, 0, 0), (.goto (-30), 3, 4, 0, 0)]),
  (37, [(.iload_n 1, 1, 0, 0, 0), (.ireturn, 1, 0, 0, 0)])]
set_option maxRecDepth 20000 in
theorem ck_X11_partAt : en_ck 201 bs_X11_partAt = true := en_ckF_ok (J := (yX11_partAt, cX11_partAt, 3, some .int, 11, 0)) (q := (1526, 1525, 72, 12)) rfl rfl rfl (by decide +kernel)
def bs_X11_openBracket : en_Bs := [
  (0, [(.aload_n 0, 1, 0, 0, 0), (.aload_n 0, 1, 0, 0, 0), (.getfield 264, 3, 11, 24, 1214), (.bipush 8, 2, 0, 0, 0), (.if_icmp .ge 7, 3, 14, 0, 0)]),
  (10, [(.iconst 1, 1, 0, 0, 0), (.goto 4, 3, 15, 0, 0)]),
  (14, [(.iconst 0, 1, 0, 0, 0)]),
  (15, [(.invokevirtual 235, 3, 193, 2, 1494)]),
  (18, [(.aload_n 0, 1, 0, 0, 0), (.getfield 202, 3, 11, 14, 1204), (.ifCond .ne 19, 3, 41, 0, 0)]),
  (25, [(.aload_n 0, 1, 0, 0, 0), (.dup, 1, 0, 0, 0), (.getfield 264, 3, 11, 24, 1214), (.iconst 1, 1, 0, 0, 0), (.iadd, 1, 0, 0, 0), (.putfield 264, 3, 11, 24, 1214), (.aload_n 0, 1, 0, 0, 0), (.iload_n 1, 1, 0, 0, 0), (.iconst 0, 1, 0, 0, 0), (.invokevirtual 267, 3, 196, 3, 1507)]),
  (41, [(.return_, 1, 0, 0, 0)])]
set_option maxRecDepth 20000 in
theorem ck_X11_openBracket : en_ck 202 bs_X11_openBracket = true := en_ckF_ok (J := (yX11_openBracket, cX11_openBracket, 2, none, 11, 0)) (q := (1518, 1517, 70, 12)) rfl rfl rfl (by decide +kernel)
def bs_X11_leaf : en_Bs := [
  (0, [(.aload_n 0, 1, 0, 0, 0), (.iload_n 1, 1, 0, 0, 0), (.ifCond .eq 16, 3, 18, 0, 0)]),
  (5, [(.aload_n 0, 1, 0, 0, 0), (.getfield 270, 3, 11, 20, 1210), (.bipush 50, 2, 0, 0, 0), (.if_icmp .ge 7, 3, 18, 0, 0)]),
  (14, [(.iconst 1, 1, 0, 0, 0), (.goto 4, 3, 19, 0, 0)]),
  (18, [(.iconst 0, 1, 0, 0, 0)]),
  (19, [(.invokevirtual 235, 3, 193, 2, 1494)]),
  (22, [(.aload_n 0, 1, 0, 0, 0), (.getfield 202, 3, 11, 14, 1204), (.ifCond .ne 19, 3, 45, 0, 0)]),
  (29, [(.aload_n 0, 1, 0, 0, 0), (.iload_n 2, 1, 0, 0, 0), (.iload_n 3, 1, 0, 0, 0), (.invokevirtual 248, 3, 195, 3, 1532)]),
  (35, [(.aload_n 0, 1, 0, 0, 0), (.dup, 1, 0, 0, 0), (.getfield 270, 3, 11, 20, 1210), (.iconst 1, 1, 0, 0, 0), (.iadd, 1, 0, 0, 0), (.putfield 270, 3, 11, 20, 1210)]),
  (45, [(.return_, 1, 0, 0, 0)])]
set_option maxRecDepth 20000 in
theorem ck_X11_leaf : en_ck 203 bs_X11_leaf = true := en_ckF_ok (J := (yX11_leaf, cX11_leaf, 4, none, 11, 0)) (q := (1531, 1530, 73, 12)) rfl rfl rfl (by decide +kernel)
def bs_X11_readPart : en_Bs := [
  (0, [(.aload_n 0, 1, 0, 0, 0), (.bipush 91, 2, 0, 0, 0), (.invokevirtual 273, 3, 192, 2, 1511)]),
  (6, [(.ifCond .eq 11, 3, 17, 0, 0)]),
  (9, [(.aload_n 0, 1, 0, 0, 0), (.bipush 31, 2, 0, 0, 0), (.invokevirtual 276, 3, 202, 2, 1515)]),
  (15, [(.iconst 1, 1, 0, 0, 0), (.ireturn, 1, 0, 0, 0)]),
  (17, [(.aload_n 0, 1, 0, 0, 0), (.invokevirtual 279, 3, 201, 1, 1523)]),
  (21, [(.istore_n 1, 1, 0, 0, 0), (.aload_n 0, 1, 0, 0, 0), (.getfield 222, 3, 11, 11, 1201), (.iconst 2, 1, 0, 0, 0), (.if_icmp .ne 18, 3, 45, 0, 0)]),
  (30, [(.aload_n 0, 1, 0, 0, 0), (.getfield 212, 3, 11, 12, 1202), (.ldc2_w 283, 3, 0, 1000, 1527), (.lcmp, 1, 0, 0, 0), (.ifCond .gt 7, 3, 45, 0, 0)]),
  (41, [(.iconst 1, 1, 0, 0, 0), (.goto 4, 3, 46, 0, 0)]),
  (45, [(.iconst 0, 1, 0, 0, 0)]),
  (46, [(.istore_n 2, 1, 0, 0, 0), (.aload_n 0, 1, 0, 0, 0), (.iload_n 1, 1, 0, 0, 0), (.iconst (-1), 1, 0, 0, 0), (.if_icmp .ne 7, 3, 57, 0, 0)]),
  (53, [(.iload_n 2, 1, 0, 0, 0), (.ifCond .eq 7, 3, 61, 0, 0)]),
  (57, [(.iconst 1, 1, 0, 0, 0), (.goto 4, 3, 62, 0, 0)]),
  (61, [(.iconst 0, 1, 0, 0, 0)]),
  (62, [(.iload_n 1, 1, 0, 0, 0), (.iconst (-1), 1, 0, 0, 0), (.if_icmp .ne 7, 3, 71, 0, 0)]),
  (67, [(.iconst 0, 1, 0, 0, 0), (.goto 4, 3, 72, 0, 0)]),
  (71, [(.iload_n 1, 1, 0, 0, 0)]),
  (72, [(.iload_n 2, 1, 0, 0, 0), (.ifCond .eq 11, 3, 84, 0, 0)]),
  (76, [(.aload_n 0, 1, 0, 0, 0), (.getfield 212, 3, 11, 12, 1202), (.l2i, 1, 0, 0, 0), (.goto 4, 3, 85, 0, 0)]),
  (84, [(.iconst 0, 1, 0, 0, 0)]),
  (85, [(.invokevirtual 285, 3, 203, 4, 1528)]),
  (88, [(.iconst 3, 1, 0, 0, 0), (.ireturn, 1, 0, 0, 0)])]
set_option maxRecDepth 20000 in
theorem ck_X11_readPart : en_ck 204 bs_X11_readPart = true := en_ckF_ok (J := (yX11_readPart, cX11_readPart, 3, some .int, 11, 0)) (q := (1522, 1521, 71, 12)) rfl rfl rfl (by decide +kernel)
def bs_X11_readPlain : en_Bs := [
  (0, [(.aload_n 0, 1, 0, 0, 0), (.ldc2_w 289, 3, 0, 14836, 1506), (.invokevirtual 260, 3, 191, 2, 1490)]),
  (7, [(.ifCond .eq 16, 3, 23, 0, 0)]),
  (10, [(.aload_n 0, 1, 0, 0, 0), (.bipush 27, 2, 0, 0, 0), (.iconst 0, 1, 0, 0, 0), (.invokevirtual 267, 3, 196, 3, 1507)]),
  (17, [(.aload_n 0, 1, 0, 0, 0), (.invokevirtual 206, 3, 190, 1, 1471)]),
  (21, [(.iconst 0, 1, 0, 0, 0), (.ireturn, 1, 0, 0, 0)]),
  (23, [(.aload_n 0, 1, 0, 0, 0), (.bipush 40, 2, 0, 0, 0), (.invokevirtual 273, 3, 192, 2, 1511)]),
  (29, [(.ifCond .eq 11, 3, 40, 0, 0)]),
  (32, [(.aload_n 0, 1, 0, 0, 0), (.bipush 30, 2, 0, 0, 0), (.invokevirtual 276, 3, 202, 2, 1515)]),
  (38, [(.iconst 0, 1, 0, 0, 0), (.ireturn, 1, 0, 0, 0)]),
  (40, [(.aload_n 0, 1, 0, 0, 0), (.invokevirtual 291, 3, 204, 1, 1519)]),
  (44, [(.ireturn, 1, 0, 0, 0)])]
set_option maxRecDepth 20000 in
theorem ck_X11_readPlain : en_ck 205 bs_X11_readPlain = true := en_ckF_ok (J := (yX11_readPlain, cX11_readPlain, 1, some .int, 11, 0)) (q := (1505, 1504, 67, 12)) rfl rfl rfl (by decide +kernel)
def bs_X11_behindSum : en_Bs := [
  (0, [(.aload_n 0, 1, 0, 0, 0), (.bipush 43, 2, 0, 0, 0), (.invokevirtual 273, 3, 192, 2, 1511)]),
  (6, [(.ifCond .eq 8, 3, 14, 0, 0)]),
  (9, [(.bipush 20, 2, 0, 0, 0), (.goto 46, 3, 57, 0, 0)]),
  (14, [(.aload_n 0, 1, 0, 0, 0), (.bipush 45, 2, 0, 0, 0), (.invokevirtual 273, 3, 192, 2, 1511)]),
  (20, [(.ifCond .eq 8, 3, 28, 0, 0)]),
  (23, [(.bipush 21, 2, 0, 0, 0), (.goto 32, 3, 57, 0, 0)]),
  (28, [(.aload_n 0, 1, 0, 0, 0), (.bipush 42, 2, 0, 0, 0), (.invokevirtual 273, 3, 192, 2, 1511)]),
  (34, [(.ifCond .eq 8, 3, 42, 0, 0)]),
  (37, [(.bipush 22, 2, 0, 0, 0), (.goto 18, 3, 57, 0, 0)]),
  (42, [(.aload_n 0, 1, 0, 0, 0), (.bipush 47, 2, 0, 0, 0), (.invokevirtual 273, 3, 192, 2, 1511)]),
  (48, [(.ifCond .eq 8, 3, 56, 0, 0)]),
  (51, [(.bipush 23, 2, 0, 0, 0), (.goto 4, 3, 57, 0, 0)]),
  (56, [(.iconst (-1), 1, 0, 0, 0)]),
  (57, [(.istore_n 2, 1, 0, 0, 0), (.iload_n 2, 1, 0, 0, 0), (.iconst (-1), 1, 0, 0, 0), (.if_icmp .eq 23, 3, 83, 0, 0)]),
  (63, [(.aload_n 0, 1, 0, 0, 0), (.iload_n 2, 1, 0, 0, 0), (.invokestatic 245, 3, 197, 1, 1540)]),
  (68, [(.invokevirtual 294, 3, 198, 2, 1543)]),
  (71, [(.aload_n 0, 1, 0, 0, 0), (.iload_n 2, 1, 0, 0, 0), (.iconst 0, 1, 0, 0, 0), (.invokevirtual 267, 3, 196, 3, 1507)]),
  (77, [(.aload_n 0, 1, 0, 0, 0), (.invokevirtual 206, 3, 190, 1, 1471)]),
  (81, [(.iconst 1, 1, 0, 0, 0), (.ireturn, 1, 0, 0, 0)]),
  (83, [(.aload_n 0, 1, 0, 0, 0), (.invokevirtual 297, 3, 199, 1, 1547)]),
  (87, [(.istore_n 3, 1, 0, 0, 0), (.iload_n 3, 1, 0, 0, 0), (.bipush 31, 2, 0, 0, 0), (.if_icmp .ne 47, 3, 138, 0, 0)]),
  (94, [(.aload_n 0, 1, 0, 0, 0), (.aload_n 0, 1, 0, 0, 0), (.bipush 93, 2, 0, 0, 0), (.invokevirtual 273, 3, 192, 2, 1511)]),
  (101, [(.invokevirtual 235, 3, 193, 2, 1494)]),
  (104, [(.aload_n 0, 1, 0, 0, 0), (.getfield 202, 3, 11, 14, 1204), (.ifCond .ne 28, 3, 136, 0, 0)]),
  (111, [(.aload_n 0, 1, 0, 0, 0), (.iconst 5, 1, 0, 0, 0), (.invokevirtual 294, 3, 198, 2, 1543)]),
  (116, [(.aload_n 0, 1, 0, 0, 0), (.dup, 1, 0, 0, 0), (.getfield 242, 3, 11, 23, 1213), (.iconst 1, 1, 0, 0, 0), (.isub, 1, 0, 0, 0), (.putfield 242, 3, 11, 23, 1213), (.aload_n 0, 1, 0, 0, 0), (.dup, 1, 0, 0, 0), (.getfield 264, 3, 11, 24, 1214), (.iconst 1, 1, 0, 0, 0), (.isub, 1, 0, 0, 0), (.putfield 264, 3, 11, 24, 1214)]),
  (136, [(.iconst 3, 1, 0, 0, 0), (.ireturn, 1, 0, 0, 0)]),
  (138, [(.iload_n 3, 1, 0, 0, 0), (.iconst (-1), 1, 0, 0, 0), (.if_icmp .ne 9, 3, 149, 0, 0)]),
  (143, [(.iload_n 1, 1, 0, 0, 0), (.ifCond .ne 5, 3, 149, 0, 0)]),
  (147, [(.iconst 4, 1, 0, 0, 0), (.ireturn, 1, 0, 0, 0)]),
  (149, [(.aload_n 0, 1, 0, 0, 0), (.invokevirtual 300, 3, 200, 1, 1551)]),
  (153, [(.ifCond .eq 5, 3, 158, 0, 0)]),
  (156, [(.iconst 2, 1, 0, 0, 0), (.ireturn, 1, 0, 0, 0)]),
  (158, [(.aload_n 0, 1, 0, 0, 0), (.bipush 60, 2, 0, 0, 0), (.invokevirtual 273, 3, 192, 2, 1511)]),
  (164, [(.ifCond .eq 8, 3, 172, 0, 0)]),
  (167, [(.bipush 24, 2, 0, 0, 0), (.goto 19, 3, 188, 0, 0)]),
  (172, [(.aload_n 0, 1, 0, 0, 0), (.bipush 62, 2, 0, 0, 0), (.invokevirtual 273, 3, 192, 2, 1511)]),
  (178, [(.ifCond .eq 8, 3, 186, 0, 0)]),
  (181, [(.bipush 25, 2, 0, 0, 0), (.goto 5, 3, 188, 0, 0)]),
  (186, [(.bipush 26, 2, 0, 0, 0)]),
  (188, [(.istore_n 2, 1, 0, 0, 0), (.aload_n 0, 1, 0, 0, 0), (.iload_n 2, 1, 0, 0, 0), (.bipush 26, 2, 0, 0, 0), (.if_icmp .ne 12, 3, 205, 0, 0)]),
  (196, [(.aload_n 0, 1, 0, 0, 0), (.bipush 61, 2, 0, 0, 0), (.invokevirtual 273, 3, 192, 2, 1511)]),
  (202, [(.ifCond .eq 7, 3, 209, 0, 0)]),
  (205, [(.iconst 1, 1, 0, 0, 0), (.goto 4, 3, 210, 0, 0)]),
  (209, [(.iconst 0, 1, 0, 0, 0)]),
  (210, [(.invokevirtual 235, 3, 193, 2, 1494)]),
  (213, [(.aload_n 0, 1, 0, 0, 0), (.getfield 202, 3, 11, 14, 1204), (.ifCond .ne 14, 3, 231, 0, 0)]),
  (220, [(.aload_n 0, 1, 0, 0, 0), (.iconst 5, 1, 0, 0, 0), (.invokevirtual 294, 3, 198, 2, 1543)]),
  (225, [(.aload_n 0, 1, 0, 0, 0), (.iload_n 2, 1, 0, 0, 0), (.iconst 0, 1, 0, 0, 0), (.invokevirtual 267, 3, 196, 3, 1507)]),
  (231, [(.iconst 1, 1, 0, 0, 0), (.ireturn, 1, 0, 0, 0)])]
set_option maxRecDepth 20000 in
theorem ck_X11_behindSum : en_ck 206 bs_X11_behindSum = true := en_ckF_ok (J := (yX11_behindSum, cX11_behindSum, 4, some .int, 11, 0)) (q := (1539, 1538, 75, 12)) rfl rfl rfl (by decide +kernel)
def bs_X11_behindTest : en_Bs := [
  (0, [(.aload_n 0, 1, 0, 0, 0), (.ldc2_w 304, 3, 0, 1476, 1563), (.invokevirtual 260, 3, 191, 2, 1490)]),
  (7, [(.istore_n 1, 1, 0, 0, 0), (.iload_n 1, 1, 0, 0, 0), (.ifCond .ne 13, 3, 22, 0, 0)]),
  (12, [(.aload_n 0, 1, 0, 0, 0), (.ldc2_w 306, 3, 0, 498, 1564), (.invokevirtual 260, 3, 191, 2, 1490)]),
  (19, [(.ifCond .eq 57, 3, 76, 0, 0)]),
  (22, [(.aload_n 0, 1, 0, 0, 0), (.iload_n 1, 1, 0, 0, 0), (.ifCond .eq 7, 3, 31, 0, 0)]),
  (27, [(.iconst 2, 1, 0, 0, 0), (.goto 4, 3, 32, 0, 0)]),
  (31, [(.iconst 1, 1, 0, 0, 0)]),
  (32, [(.invokevirtual 294, 3, 198, 2, 1543)]),
  (35, [(.aload_n 0, 1, 0, 0, 0), (.iload_n 1, 1, 0, 0, 0), (.ifCond .eq 8, 3, 45, 0, 0)]),
  (40, [(.bipush 28, 2, 0, 0, 0), (.goto 5, 3, 47, 0, 0)]),
  (45, [(.bipush 29, 2, 0, 0, 0)]),
  (47, [(.aload_n 0, 1, 0, 0, 0), (.getfield 239, 3, 11, 17, 1207), (.invokevirtual 267, 3, 196, 3, 1507)]),
  (54, [(.aload_n 0, 1, 0, 0, 0), (.iload_n 1, 1, 0, 0, 0), (.ifCond .eq 8, 3, 64, 0, 0)]),
  (59, [(.bipush 28, 2, 0, 0, 0), (.goto 5, 3, 66, 0, 0)]),
  (64, [(.bipush 29, 2, 0, 0, 0)]),
  (66, [(.iconst 0, 1, 0, 0, 0), (.invokevirtual 248, 3, 195, 3, 1532)]),
  (70, [(.aload_n 0, 1, 0, 0, 0), (.invokevirtual 206, 3, 190, 1, 1471)]),
  (74, [(.iconst 0, 1, 0, 0, 0), (.ireturn, 1, 0, 0, 0)]),
  (76, [(.aload_n 0, 1, 0, 0, 0), (.invokevirtual 297, 3, 199, 1, 1547)]),
  (80, [(.iconst (-1), 1, 0, 0, 0), (.if_icmp .ne 5, 3, 86, 0, 0)]),
  (84, [(.iconst 4, 1, 0, 0, 0), (.ireturn, 1, 0, 0, 0)]),
  (86, [(.aload_n 0, 1, 0, 0, 0), (.aload_n 0, 1, 0, 0, 0), (.bipush 41, 2, 0, 0, 0), (.invokevirtual 273, 3, 192, 2, 1511)]),
  (93, [(.invokevirtual 235, 3, 193, 2, 1494)]),
  (96, [(.aload_n 0, 1, 0, 0, 0), (.getfield 202, 3, 11, 14, 1204), (.ifCond .ne 28, 3, 128, 0, 0)]),
  (103, [(.aload_n 0, 1, 0, 0, 0), (.iconst 1, 1, 0, 0, 0), (.invokevirtual 294, 3, 198, 2, 1543)]),
  (108, [(.aload_n 0, 1, 0, 0, 0), (.dup, 1, 0, 0, 0), (.getfield 242, 3, 11, 23, 1213), (.iconst 1, 1, 0, 0, 0), (.isub, 1, 0, 0, 0), (.putfield 242, 3, 11, 23, 1213), (.aload_n 0, 1, 0, 0, 0), (.dup, 1, 0, 0, 0), (.getfield 264, 3, 11, 24, 1214), (.iconst 1, 1, 0, 0, 0), (.isub, 1, 0, 0, 0), (.putfield 264, 3, 11, 24, 1214)]),
  (128, [(.iconst 2, 1, 0, 0, 0), (.ireturn, 1, 0, 0, 0)])]
set_option maxRecDepth 20000 in
theorem ck_X11_behindTest : en_ck 207 bs_X11_behindTest = true := en_ckF_ok (J := (yX11_behindTest, cX11_behindTest, 2, some .int, 11, 0)) (q := (1562, 1561, 79, 12)) rfl rfl rfl (by decide +kernel)
def bs_X11_readExpression : en_Bs := [
  (0, [(.aload_n 0, 1, 0, 0, 0), (.iconst 0, 1, 0, 0, 0), (.putfield 242, 3, 11, 23, 1213), (.aload_n 0, 1, 0, 0, 0), (.iconst 0, 1, 0, 0, 0), (.putfield 264, 3, 11, 24, 1214), (.iload_n 1, 1, 0, 0, 0), (.ifCond .eq 7, 3, 18, 0, 0)]),
  (14, [(.iconst 0, 1, 0, 0, 0), (.goto 4, 3, 19, 0, 0)]),
  (18, [(.iconst 1, 1, 0, 0, 0)]),
  (19, [(.istore_n 2, 1, 0, 0, 0)]),
  (20, [(.aload_n 0, 1, 0, 0, 0), (.getfield 202, 3, 11, 14, 1204), (.ifCond .ne 52, 3, 76, 0, 0)]),
  (27, [(.iload_n 2, 1, 0, 0, 0), (.iconst 4, 1, 0, 0, 0), (.if_icmp .eq 47, 3, 76, 0, 0)]),
  (32, [(.iload_n 2, 1, 0, 0, 0), (.ifCond .ne 10, 3, 43, 0, 0)]),
  (36, [(.aload_n 0, 1, 0, 0, 0), (.invokevirtual 308, 3, 205, 1, 1502)]),
  (40, [(.goto 32, 3, 72, 0, 0)]),
  (43, [(.iload_n 2, 1, 0, 0, 0), (.iconst 1, 1, 0, 0, 0), (.if_icmp .ne 10, 3, 55, 0, 0)]),
  (48, [(.aload_n 0, 1, 0, 0, 0), (.invokevirtual 291, 3, 204, 1, 1519)]),
  (52, [(.goto 20, 3, 72, 0, 0)]),
  (55, [(.iload_n 2, 1, 0, 0, 0), (.iconst 3, 1, 0, 0, 0), (.if_icmp .ne 11, 3, 68, 0, 0)]),
  (60, [(.aload_n 0, 1, 0, 0, 0), (.iload_n 1, 1, 0, 0, 0), (.invokevirtual 311, 3, 206, 2, 1536)]),
  (65, [(.goto 7, 3, 72, 0, 0)]),
  (68, [(.aload_n 0, 1, 0, 0, 0), (.invokevirtual 315, 3, 207, 1, 1559)]),
  (72, [(.istore_n 2, 1, 0, 0, 0), (.goto (-53), 3, 20, 0, 0)]),
  (76, [(.aload_n 0, 1, 0, 0, 0), (.iconst 1, 1, 0, 0, 0), (.invokevirtual 294, 3, 198, 2, 1543)]),
  (81, [(.return_, 1, 0, 0, 0)])]
set_option maxRecDepth 20000 in
theorem ck_X11_readExpression : en_ck 208 bs_X11_readExpression = true := en_ckF_ok (J := (yX11_readExpression, cX11_readExpression, 3, none, 11, 0)) (q := (1501, 1500, 66, 12)) rfl rfl rfl (by decide +kernel)
def bs_X11_readClause : en_Bs := [
  (0, [(.iconst (-1), 1, 0, 0, 0), (.istore_n 1, 1, 0, 0, 0), (.iconst 0, 1, 0, 0, 0), (.istore_n 2, 1, 0, 0, 0)]),
  (4, [(.iload_n 2, 1, 0, 0, 0), (.iconst 3, 1, 0, 0, 0), (.if_icmp .ge 28, 3, 34, 0, 0)]),
  (9, [(.aload_n 0, 1, 0, 0, 0), (.aload_n 0, 1, 0, 0, 0), (.getfield 73, 3, 11, 26, 1216), (.iload_n 2, 1, 0, 0, 0), (.laload, 1, 0, 0, 0), (.invokevirtual 260, 3, 191, 2, 1490)]),
  (19, [(.ifCond .eq 7, 3, 26, 0, 0)]),
  (22, [(.iload_n 2, 1, 0, 0, 0), (.goto 4, 3, 27, 0, 0)]),
  (26, [(.iload_n 1, 1, 0, 0, 0)]),
  (27, [(.istore_n 1, 1, 0, 0, 0), (.iinc 2 1, 3, 0, 0, 0), (.goto (-27), 3, 4, 0, 0)]),
  (34, [(.aload_n 0, 1, 0, 0, 0), (.iload_n 1, 1, 0, 0, 0), (.iconst (-1), 1, 0, 0, 0), (.if_icmp .eq 16, 3, 53, 0, 0)]),
  (40, [(.aload_n 0, 1, 0, 0, 0), (.getfield 318, 3, 11, 15, 1205), (.bipush 12, 2, 0, 0, 0), (.if_icmp .ge 7, 3, 53, 0, 0)]),
  (49, [(.iconst 1, 1, 0, 0, 0), (.goto 4, 3, 54, 0, 0)]),
  (53, [(.iconst 0, 1, 0, 0, 0)]),
  (54, [(.invokevirtual 235, 3, 193, 2, 1494)]),
  (57, [(.aload_n 0, 1, 0, 0, 0), (.getfield 202, 3, 11, 14, 1204), (.ifCond .eq 4, 3, 65, 0, 0)]),
  (64, [(.return_, 1, 0, 0, 0)]),
  (65, [(.bipush 8, 2, 0, 0, 0), (.aload_n 0, 1, 0, 0, 0), (.getfield 318, 3, 11, 15, 1205), (.imul, 1, 0, 0, 0), (.istore_n 2, 1, 0, 0, 0), (.iconst 0, 1, 0, 0, 0), (.istore_n 3, 1, 0, 0, 0)]),
  (75, [(.iload_n 3, 1, 0, 0, 0), (.bipush 8, 2, 0, 0, 0), (.if_icmp .ge 18, 3, 96, 0, 0)]),
  (81, [(.aload_n 0, 1, 0, 0, 0), (.getfield 30, 3, 11, 16, 1206), (.iload_n 2, 1, 0, 0, 0), (.iload_n 3, 1, 0, 0, 0), (.iadd, 1, 0, 0, 0), (.iconst 0, 1, 0, 0, 0), (.iastore, 1, 0, 0, 0), (.iinc 3 1, 3, 0, 0, 0), (.goto (-18), 3, 75, 0, 0)]),
  (96, [(.aload_n 0, 1, 0, 0, 0), (.getfield 30, 3, 11, 16, 1206), (.iload_n 2, 1, 0, 0, 0), (.iload_n 1, 1, 0, 0, 0), (.iastore, 1, 0, 0, 0), (.aload_n 0, 1, 0, 0, 0), (.dup, 1, 0, 0, 0), (.getfield 318, 3, 11, 15, 1205), (.iconst 1, 1, 0, 0, 0), (.iadd, 1, 0, 0, 0), (.putfield 318, 3, 11, 15, 1205), (.aload_n 0, 1, 0, 0, 0), (.getfield 30, 3, 11, 16, 1206), (.iload_n 2, 1, 0, 0, 0), (.iconst 3, 1, 0, 0, 0), (.iadd, 1, 0, 0, 0), (.aload_n 0, 1, 0, 0, 0), (.getfield 239, 3, 11, 17, 1207), (.iastore, 1, 0, 0, 0), (.iload_n 1, 1, 0, 0, 0), (.iconst 2, 1, 0, 0, 0), (.if_icmp .ge 8, 3, 135, 0, 0)]),
  (130, [(.aload_n 0, 1, 0, 0, 0), (.iconst 0, 1, 0, 0, 0), (.invokevirtual 321, 3, 208, 2, 1498)]),
  (135, [(.aload_n 0, 1, 0, 0, 0), (.getfield 30, 3, 11, 16, 1206), (.iload_n 2, 1, 0, 0, 0), (.iconst 4, 1, 0, 0, 0), (.iadd, 1, 0, 0, 0), (.aload_n 0, 1, 0, 0, 0), (.getfield 239, 3, 11, 17, 1207), (.iastore, 1, 0, 0, 0), (.aload_n 0, 1, 0, 0, 0), (.getfield 30, 3, 11, 16, 1206), (.iload_n 2, 1, 0, 0, 0), (.iconst 5, 1, 0, 0, 0), (.iadd, 1, 0, 0, 0), (.aload_n 0, 1, 0, 0, 0), (.getfield 239, 3, 11, 17, 1207), (.iastore, 1, 0, 0, 0), (.aload_n 0, 1, 0, 0, 0), (.getfield 202, 3, 11, 14, 1204), (.ifCond .ne 22, 3, 185, 0, 0)]),
  (166, [(.aload_n 0, 1, 0, 0, 0), (.ldc2_w 324, 3, 0, 294, 1565), (.invokevirtual 260, 3, 191, 2, 1490)]),
  (173, [(.ifCond .eq 12, 3, 185, 0, 0)]),
  (176, [(.aload_n 0, 1, 0, 0, 0), (.invokevirtual 206, 3, 190, 1, 1471)]),
  (180, [(.aload_n 0, 1, 0, 0, 0), (.iconst 1, 1, 0, 0, 0), (.invokevirtual 321, 3, 208, 2, 1498)]),
  (185, [(.aload_n 0, 1, 0, 0, 0), (.getfield 30, 3, 11, 16, 1206), (.iload_n 2, 1, 0, 0, 0), (.bipush 6, 2, 0, 0, 0), (.iadd, 1, 0, 0, 0), (.aload_n 0, 1, 0, 0, 0), (.getfield 239, 3, 11, 17, 1207), (.iastore, 1, 0, 0, 0), (.return_, 1, 0, 0, 0)])]
set_option maxRecDepth 20000 in
theorem ck_X11_readClause : en_ck 209 bs_X11_readClause = true := en_ckF_ok (J := (yX11_readClause, cX11_readClause, 4, none, 11, 0)) (q := (1489, 1488, 63, 12)) rfl rfl rfl (by decide +kernel)
def bs_X11_law : en_Bs := [
  (0, [(.aload_n 0, 1, 0, 0, 0), (.iconst 0, 1, 0, 0, 0), (.putfield 121, 3, 11, 0, 1190), (.aload_n 0, 1, 0, 0, 0), (.getfield 13, 3, 11, 3, 1193), (.iconst 2, 1, 0, 0, 0), (.iaload, 1, 0, 0, 0), (.bipush 6, 2, 0, 0, 0), (.if_icmp .ne 15, 3, 28, 0, 0)]),
  (16, [(.aload_n 0, 1, 0, 0, 0), (.iconst 0, 1, 0, 0, 0), (.putfield 189, 3, 11, 8, 1198), (.aload_n 0, 1, 0, 0, 0), (.bipush (-5), 2, 0, 0, 0), (.invokevirtual 135, 3, 162, 2, 1354)]),
  (27, [(.ireturn, 1, 0, 0, 0)]),
  (28, [(.aload_n 0, 1, 0, 0, 0), (.invokevirtual 326, 3, 189, 1, 1467)]),
  (32, [(.aload_n 0, 1, 0, 0, 0), (.iconst 0, 1, 0, 0, 0), (.putfield 318, 3, 11, 15, 1205), (.aload_n 0, 1, 0, 0, 0), (.iconst 0, 1, 0, 0, 0), (.putfield 239, 3, 11, 17, 1207), (.aload_n 0, 1, 0, 0, 0), (.iconst 0, 1, 0, 0, 0), (.putfield 270, 3, 11, 20, 1210), (.aload_n 0, 1, 0, 0, 0), (.invokevirtual 329, 3, 209, 1, 1486)]),
  (51, [(.aload_n 0, 1, 0, 0, 0), (.getfield 202, 3, 11, 14, 1204), (.ifCond .ne 23, 3, 78, 0, 0)]),
  (58, [(.aload_n 0, 1, 0, 0, 0), (.bipush 59, 2, 0, 0, 0), (.invokevirtual 273, 3, 192, 2, 1511)]),
  (64, [(.ifCond .eq 14, 3, 78, 0, 0)]),
  (67, [(.aload_n 0, 1, 0, 0, 0), (.invokevirtual 206, 3, 190, 1, 1471)]),
  (71, [(.aload_n 0, 1, 0, 0, 0), (.invokevirtual 329, 3, 209, 1, 1486)]),
  (75, [(.goto (-24), 3, 51, 0, 0)]),
  (78, [(.aload_n 0, 1, 0, 0, 0), (.getfield 202, 3, 11, 14, 1204), (.ifCond .ne 15, 3, 97, 0, 0)]),
  (85, [(.aload_n 0, 1, 0, 0, 0), (.getfield 222, 3, 11, 11, 1201), (.ifCond .eq 8, 3, 97, 0, 0)]),
  (92, [(.aload_n 0, 1, 0, 0, 0), (.iconst 0, 1, 0, 0, 0), (.invokevirtual 235, 3, 193, 2, 1494)]),
  (97, [(.aload_n 0, 1, 0, 0, 0), (.iconst 0, 1, 0, 0, 0), (.putfield 189, 3, 11, 8, 1198), (.aload_n 0, 1, 0, 0, 0), (.getfield 202, 3, 11, 14, 1204), (.ifCond .eq 10, 3, 116, 0, 0)]),
  (109, [(.aload_n 0, 1, 0, 0, 0), (.bipush (-6), 2, 0, 0, 0), (.invokevirtual 135, 3, 162, 2, 1354)]),
  (115, [(.ireturn, 1, 0, 0, 0)]),
  (116, [(.bipush 110, 2, 0, 0, 0), (.sipush 900, 3, 0, 0, 0), (.aload_n 0, 1, 0, 0, 0), (.getfield 13, 3, 11, 3, 1193), (.iconst 2, 1, 0, 0, 0), (.iaload, 1, 0, 0, 0), (.imul, 1, 0, 0, 0), (.iadd, 1, 0, 0, 0), (.istore_n 1, 1, 0, 0, 0), (.aload_n 0, 1, 0, 0, 0), (.getfield 13, 3, 11, 3, 1193), (.iload_n 1, 1, 0, 0, 0), (.iconst 1, 1, 0, 0, 0), (.iadd, 1, 0, 0, 0), (.aload_n 0, 1, 0, 0, 0), (.getfield 318, 3, 11, 15, 1205), (.iastore, 1, 0, 0, 0), (.iconst 0, 1, 0, 0, 0), (.istore_n 2, 1, 0, 0, 0)]),
  (144, [(.iload_n 2, 1, 0, 0, 0), (.bipush 8, 2, 0, 0, 0), (.aload_n 0, 1, 0, 0, 0), (.getfield 318, 3, 11, 15, 1205), (.imul, 1, 0, 0, 0), (.if_icmp .ge 25, 3, 177, 0, 0)]),
  (155, [(.aload_n 0, 1, 0, 0, 0), (.getfield 13, 3, 11, 3, 1193), (.iload_n 1, 1, 0, 0, 0), (.iconst 2, 1, 0, 0, 0), (.iadd, 1, 0, 0, 0), (.iload_n 2, 1, 0, 0, 0), (.iadd, 1, 0, 0, 0), (.aload_n 0, 1, 0, 0, 0), (.getfield 30, 3, 11, 16, 1206), (.iload_n 2, 1, 0, 0, 0), (.iaload, 1, 0, 0, 0), (.iastore, 1, 0, 0, 0), (.iinc 2 1, 3, 0, 0, 0), (.goto (-30), 3, 144, 0, 0)]),
  (177, [(.iconst 0, 1, 0, 0, 0), (.istore_n 2, 1, 0, 0, 0)]),
  (179, [(.iload_n 2, 1, 0, 0, 0), (.aload_n 0, 1, 0, 0, 0), (.getfield 239, 3, 11, 17, 1207), (.if_icmp .ge 49, 3, 233, 0, 0)]),
  (187, [(.aload_n 0, 1, 0, 0, 0), (.getfield 13, 3, 11, 3, 1193), (.iload_n 1, 1, 0, 0, 0), (.bipush 98, 2, 0, 0, 0), (.iadd, 1, 0, 0, 0), (.iconst 2, 1, 0, 0, 0), (.iload_n 2, 1, 0, 0, 0), (.imul, 1, 0, 0, 0), (.iadd, 1, 0, 0, 0), (.aload_n 0, 1, 0, 0, 0), (.getfield 33, 3, 11, 18, 1208), (.iload_n 2, 1, 0, 0, 0), (.iaload, 1, 0, 0, 0), (.iastore, 1, 0, 0, 0), (.aload_n 0, 1, 0, 0, 0), (.getfield 13, 3, 11, 3, 1193), (.iload_n 1, 1, 0, 0, 0), (.bipush 98, 2, 0, 0, 0), (.iadd, 1, 0, 0, 0), (.iconst 2, 1, 0, 0, 0), (.iload_n 2, 1, 0, 0, 0), (.imul, 1, 0, 0, 0), (.iadd, 1, 0, 0, 0), (.iconst 1, 1, 0, 0, 0), (.iadd, 1, 0, 0, 0), (.aload_n 0, 1, 0, 0, 0), (.getfield 36, 3, 11, 19, 1209), (.iload_n 2, 1, 0, 0, 0), (.iaload, 1, 0, 0, 0), (.iastore, 1, 0, 0, 0), (.iinc 2 1, 3, 0, 0, 0), (.goto (-51), 3, 179, 0, 0)]),
  (233, [(.aload_n 0, 1, 0, 0, 0), (.getfield 13, 3, 11, 3, 1193), (.iconst 2, 1, 0, 0, 0), (.dup2, 1, 0, 0, 0), (.iaload, 1, 0, 0, 0), (.iconst 1, 1, 0, 0, 0), (.iadd, 1, 0, 0, 0), (.iastore, 1, 0, 0, 0), (.aload_n 0, 1, 0, 0, 0), (.aload_n 0, 1, 0, 0, 0), (.getfield 13, 3, 11, 3, 1193), (.iconst 2, 1, 0, 0, 0), (.iaload, 1, 0, 0, 0), (.iconst 1, 1, 0, 0, 0), (.isub, 1, 0, 0, 0), (.invokevirtual 135, 3, 162, 2, 1354)]),
  (255, [(.ireturn, 1, 0, 0, 0)])]
set_option maxRecDepth 20000 in
theorem ck_X11_law : en_ck 210 bs_X11_law = true := en_ckF_ok (J := (yX11_law, cX11_law, 3, some .int, 11, 0)) (q := (1466, 1464, 1573, 12)) rfl rfl rfl (by decide +kernel)
def bs_X11_force : en_Bs := [
  (0, [(.aload_n 0, 1, 0, 0, 0), (.iconst 0, 1, 0, 0, 0), (.putfield 121, 3, 11, 0, 1190), (.iload_n 1, 1, 0, 0, 0), (.iconst (-1), 1, 0, 0, 0), (.if_icmp .eq 21, 3, 28, 0, 0)]),
  (10, [(.iload_n 1, 1, 0, 0, 0), (.i2l, 1, 0, 0, 0), (.lconst 0, 1, 0, 0, 0), (.aload_n 0, 1, 0, 0, 0), (.getfield 13, 3, 11, 3, 1193), (.iconst 2, 1, 0, 0, 0), (.iaload, 1, 0, 0, 0), (.i2l, 1, 0, 0, 0), (.lconst 1, 1, 0, 0, 0), (.lsub, 1, 0, 0, 0), (.invokestatic 131, 3, 159, 3, 1351)]),
  (25, [(.ifCond .eq 12, 3, 37, 0, 0)]),
  (28, [(.aload_n 0, 1, 0, 0, 0), (.iconst 3, 1, 0, 0, 0), (.iload_n 1, 1, 0, 0, 0), (.invokevirtual 154, 3, 164, 3, 1381)]),
  (34, [(.goto 9, 3, 43, 0, 0)]),
  (37, [(.aload_n 0, 1, 0, 0, 0), (.bipush (-2), 2, 0, 0, 0), (.invokevirtual 135, 3, 162, 2, 1354)]),
  (43, [(.ireturn, 1, 0, 0, 0)])]
set_option maxRecDepth 20000 in
theorem ck_X11_force : en_ck 211 bs_X11_force = true := en_ckF_ok (J := (yX11_force, cX11_force, 2, some .int, 11, 0)) (q := (1569, 1567, 1676, 12)) rfl rfl rfl (by decide +kernel)
def bs_X11_reckon : en_Bs := [
  (0, [(.iload_n 1, 1, 0, 0, 0), (.tableswitch 112 20 25 #[39, 44, 49, 54, 86, 99], 39, 0, 0, 0)]),
  (40, [(.lload_n 2, 1, 0, 0, 0), (.lload 4, 2, 0, 0, 0), (.ladd, 1, 0, 0, 0), (.lreturn, 1, 0, 0, 0)]),
  (45, [(.lload_n 2, 1, 0, 0, 0), (.lload 4, 2, 0, 0, 0), (.lsub, 1, 0, 0, 0), (.lreturn, 1, 0, 0, 0)]),
  (50, [(.lload_n 2, 1, 0, 0, 0), (.lload 4, 2, 0, 0, 0), (.lmul, 1, 0, 0, 0), (.lreturn, 1, 0, 0, 0)]),
  (55, [(.aload_n 0, 1, 0, 0, 0), (.lload 4, 2, 0, 0, 0), (.lconst 0, 1, 0, 0, 0), (.lcmp, 1, 0, 0, 0), (.ifCond .ne 7, 3, 67, 0, 0)]),
  (63, [(.iconst 1, 1, 0, 0, 0), (.goto 4, 3, 68, 0, 0)]),
  (67, [(.iconst 0, 1, 0, 0, 0)]),
  (68, [(.putfield 332, 3, 11, 30, 1220), (.aload_n 0, 1, 0, 0, 0), (.getfield 332, 3, 11, 30, 1220), (.ifCond .eq 7, 3, 82, 0, 0)]),
  (78, [(.lconst 0, 1, 0, 0, 0), (.goto 7, 3, 86, 0, 0)]),
  (82, [(.lload_n 2, 1, 0, 0, 0), (.lload 4, 2, 0, 0, 0), (.ldiv, 1, 0, 0, 0)]),
  (86, [(.lreturn, 1, 0, 0, 0)]),
  (87, [(.lload_n 2, 1, 0, 0, 0), (.lload 4, 2, 0, 0, 0), (.lcmp, 1, 0, 0, 0), (.ifCond .ge 7, 3, 98, 0, 0)]),
  (94, [(.lconst 1, 1, 0, 0, 0), (.goto 4, 3, 99, 0, 0)]),
  (98, [(.lconst 0, 1, 0, 0, 0)]),
  (99, [(.lreturn, 1, 0, 0, 0)]),
  (100, [(.lload_n 2, 1, 0, 0, 0), (.lload 4, 2, 0, 0, 0), (.lcmp, 1, 0, 0, 0), (.ifCond .le 7, 3, 111, 0, 0)]),
  (107, [(.lconst 1, 1, 0, 0, 0), (.goto 4, 3, 112, 0, 0)]),
  (111, [(.lconst 0, 1, 0, 0, 0)]),
  (112, [(.lreturn, 1, 0, 0, 0)]),
  (113, [(.lload_n 2, 1, 0, 0, 0), (.lload 4, 2, 0, 0, 0), (.lcmp, 1, 0, 0, 0), (.ifCond .ne 7, 3, 124, 0, 0)]),
  (120, [(.lconst 1, 1, 0, 0, 0), (.goto 4, 3, 125, 0, 0)]),
  (124, [(.lconst 0, 1, 0, 0, 0)]),
  (125, [(.lreturn, 1, 0, 0, 0)])]
set_option maxRecDepth 20000 in
theorem ck_X11_reckon : en_ck 212 bs_X11_reckon = true := en_ckF_ok (J := (yX11_reckon, cX11_reckon, 6, some .long, 11, 0)) (q := (1629, 1628, 91, 12)) rfl rfl rfl (by decide +kernel)
