theorem en_okB_app (I : en_I) (a b : en_Bs) (h1 : en_okB I a = true) (h2 : en_okB I b = true) : en_okB I (a ++ b) = true := by
  unfold en_okB at *
  rw [List.all_append, h1, h2]
  rfl
def bs_L_0 : en_Bs := [
  (0, [(.new 7, 3, 10, 0, 21), (.dup, 1, 0, 0, 0), (.invokespecial 9, 3, 103, 1, 23)]),
  (7, [(.astore_n 1, 1, 0, 0, 0), (.new 10, 3, 11, 0, 1172), (.dup, 1, 0, 0, 0), (.invokespecial 12, 3, 158, 1, 1174)]),
  (15, [(.astore_n 2, 1, 0, 0, 0), (.iconst 0, 1, 0, 0, 0), (.istore_n 3, 1, 0, 0, 0)]),
  (18, [(.iload_n 3, 1, 0, 0, 0), (.aload_n 0, 1, 0, 0, 0), (.arraylength, 1, 0, 0, 0), (.bipush 7, 2, 0, 0, 0), (.isub, 1, 0, 0, 0), (.if_icmp .gt 1312, 3, 1336, 0, 0)]),
  (27, [(.aload_n 0, 1, 0, 0, 0), (.iload_n 3, 1, 0, 0, 0), (.iaload, 1, 0, 0, 0), (.bipush 63, 2, 0, 0, 0), (.iand, 1, 0, 0, 0), (.tableswitch 1297 0 39 #[175, 218, 261, 294, 369, 402, 425, 458, 521, 544, 557, 570, 583, 596, 619, 652, 685, 718, 751, 794, 807, 840, 873, 896, 919, 942, 965, 998, 1011, 1034, 1057, 1090, 1103, 1116, 1159, 1182, 1215, 1238, 1261, 1284], 175, 0, 0, 0)]),
  (208, [(.aload_n 1, 1, 0, 0, 0), (.aload_n 0, 1, 0, 0, 0), (.iload_n 3, 1, 0, 0, 0), (.iconst 1, 1, 0, 0, 0), (.iadd, 1, 0, 0, 0), (.iaload, 1, 0, 0, 0), (.aload_n 0, 1, 0, 0, 0), (.iload_n 3, 1, 0, 0, 0), (.iconst 2, 1, 0, 0, 0), (.iadd, 1, 0, 0, 0), (.iaload, 1, 0, 0, 0), (.aload_n 0, 1, 0, 0, 0), (.iload_n 3, 1, 0, 0, 0), (.iconst 3, 1, 0, 0, 0), (.iadd, 1, 0, 0, 0), (.iaload, 1, 0, 0, 0), (.invokevirtual 13, 3, 104, 4, 463)]),
  (227, [(.pop, 1, 0, 0, 0), (.aload_n 2, 1, 0, 0, 0), (.aload_n 0, 1, 0, 0, 0), (.iload_n 3, 1, 0, 0, 0), (.iconst 1, 1, 0, 0, 0), (.iadd, 1, 0, 0, 0), (.iaload, 1, 0, 0, 0), (.aload_n 0, 1, 0, 0, 0), (.iload_n 3, 1, 0, 0, 0), (.iconst 2, 1, 0, 0, 0), (.iadd, 1, 0, 0, 0), (.iaload, 1, 0, 0, 0), (.aload_n 0, 1, 0, 0, 0), (.iload_n 3, 1, 0, 0, 0), (.iconst 3, 1, 0, 0, 0), (.iadd, 1, 0, 0, 0), (.iaload, 1, 0, 0, 0), (.invokevirtual 17, 3, 172, 4, 1362)]),
  (247, [(.pop, 1, 0, 0, 0), (.goto 1082, 3, 1330, 0, 0)]),
  (251, [(.aload_n 1, 1, 0, 0, 0), (.aload_n 0, 1, 0, 0, 0), (.iload_n 3, 1, 0, 0, 0), (.iconst 1, 1, 0, 0, 0), (.iadd, 1, 0, 0, 0), (.iaload, 1, 0, 0, 0), (.aload_n 0, 1, 0, 0, 0), (.iload_n 3, 1, 0, 0, 0), (.iconst 2, 1, 0, 0, 0), (.iadd, 1, 0, 0, 0), (.iaload, 1, 0, 0, 0), (.aload_n 0, 1, 0, 0, 0), (.iload_n 3, 1, 0, 0, 0), (.iconst 3, 1, 0, 0, 0), (.iadd, 1, 0, 0, 0), (.iaload, 1, 0, 0, 0), (.invokevirtual 18, 3, 105, 4, 504)])]
theorem ck_L_0 : en_okB en_I0v bs_L_0 = true := en_okBF_ok (by decide +kernel)
def bs_L_1 : en_Bs := [
  (270, [(.pop, 1, 0, 0, 0), (.aload_n 2, 1, 0, 0, 0), (.aload_n 0, 1, 0, 0, 0), (.iload_n 3, 1, 0, 0, 0), (.iconst 1, 1, 0, 0, 0), (.iadd, 1, 0, 0, 0), (.iaload, 1, 0, 0, 0), (.aload_n 0, 1, 0, 0, 0), (.iload_n 3, 1, 0, 0, 0), (.iconst 2, 1, 0, 0, 0), (.iadd, 1, 0, 0, 0), (.iaload, 1, 0, 0, 0), (.aload_n 0, 1, 0, 0, 0), (.iload_n 3, 1, 0, 0, 0), (.iconst 3, 1, 0, 0, 0), (.iadd, 1, 0, 0, 0), (.iaload, 1, 0, 0, 0), (.invokevirtual 21, 3, 173, 4, 1373)]),
  (290, [(.pop, 1, 0, 0, 0), (.goto 1039, 3, 1330, 0, 0)]),
  (294, [(.aload_n 1, 1, 0, 0, 0), (.aload_n 0, 1, 0, 0, 0), (.iload_n 3, 1, 0, 0, 0), (.iconst 1, 1, 0, 0, 0), (.iadd, 1, 0, 0, 0), (.iaload, 1, 0, 0, 0), (.aload_n 0, 1, 0, 0, 0), (.iload_n 3, 1, 0, 0, 0), (.iconst 2, 1, 0, 0, 0), (.iadd, 1, 0, 0, 0), (.iaload, 1, 0, 0, 0), (.invokevirtual 22, 3, 106, 3, 512)]),
  (308, [(.pop, 1, 0, 0, 0), (.aload_n 2, 1, 0, 0, 0), (.aload_n 0, 1, 0, 0, 0), (.iload_n 3, 1, 0, 0, 0), (.iconst 1, 1, 0, 0, 0), (.iadd, 1, 0, 0, 0), (.iaload, 1, 0, 0, 0), (.aload_n 0, 1, 0, 0, 0), (.iload_n 3, 1, 0, 0, 0), (.iconst 2, 1, 0, 0, 0), (.iadd, 1, 0, 0, 0), (.iaload, 1, 0, 0, 0), (.invokevirtual 26, 3, 175, 3, 1389)]),
  (323, [(.pop, 1, 0, 0, 0), (.goto 1006, 3, 1330, 0, 0)]),
  (327, [(.aload_n 1, 1, 0, 0, 0), (.aload_n 0, 1, 0, 0, 0), (.iload_n 3, 1, 0, 0, 0), (.iconst 1, 1, 0, 0, 0), (.iadd, 1, 0, 0, 0), (.iaload, 1, 0, 0, 0), (.aload_n 0, 1, 0, 0, 0), (.iload_n 3, 1, 0, 0, 0), (.iconst 2, 1, 0, 0, 0), (.iadd, 1, 0, 0, 0), (.iaload, 1, 0, 0, 0), (.aload_n 0, 1, 0, 0, 0), (.iload_n 3, 1, 0, 0, 0), (.iconst 3, 1, 0, 0, 0), (.iadd, 1, 0, 0, 0), (.iaload, 1, 0, 0, 0), (.aload_n 0, 1, 0, 0, 0), (.iload_n 3, 1, 0, 0, 0), (.iconst 4, 1, 0, 0, 0), (.iadd, 1, 0, 0, 0), (.iaload, 1, 0, 0, 0), (.aload_n 0, 1, 0, 0, 0), (.iload_n 3, 1, 0, 0, 0), (.iconst 5, 1, 0, 0, 0), (.iadd, 1, 0, 0, 0), (.iaload, 1, 0, 0, 0), (.aload_n 0, 1, 0, 0, 0), (.iload_n 3, 1, 0, 0, 0), (.bipush 6, 2, 0, 0, 0), (.iadd, 1, 0, 0, 0), (.iaload, 1, 0, 0, 0), (.invokevirtual 27, 3, 107, 7, 521)]),
  (362, [(.pop, 1, 0, 0, 0), (.aload_n 2, 1, 0, 0, 0), (.aload_n 0, 1, 0, 0, 0), (.iload_n 3, 1, 0, 0, 0), (.iconst 1, 1, 0, 0, 0), (.iadd, 1, 0, 0, 0), (.iaload, 1, 0, 0, 0), (.aload_n 0, 1, 0, 0, 0), (.iload_n 3, 1, 0, 0, 0), (.iconst 2, 1, 0, 0, 0), (.iadd, 1, 0, 0, 0), (.iaload, 1, 0, 0, 0), (.aload_n 0, 1, 0, 0, 0), (.iload_n 3, 1, 0, 0, 0), (.iconst 3, 1, 0, 0, 0), (.iadd, 1, 0, 0, 0), (.iaload, 1, 0, 0, 0), (.aload_n 0, 1, 0, 0, 0), (.iload_n 3, 1, 0, 0, 0), (.iconst 4, 1, 0, 0, 0), (.iadd, 1, 0, 0, 0), (.iaload, 1, 0, 0, 0), (.aload_n 0, 1, 0, 0, 0), (.iload_n 3, 1, 0, 0, 0), (.iconst 5, 1, 0, 0, 0), (.iadd, 1, 0, 0, 0), (.iaload, 1, 0, 0, 0), (.aload_n 0, 1, 0, 0, 0), (.iload_n 3, 1, 0, 0, 0), (.bipush 6, 2, 0, 0, 0), (.iadd, 1, 0, 0, 0), (.iaload, 1, 0, 0, 0), (.invokevirtual 31, 3, 178, 7, 1405)]),
  (398, [(.pop, 1, 0, 0, 0), (.goto 931, 3, 1330, 0, 0)]),
  (402, [(.aload_n 1, 1, 0, 0, 0), (.aload_n 0, 1, 0, 0, 0), (.iload_n 3, 1, 0, 0, 0), (.iconst 1, 1, 0, 0, 0), (.iadd, 1, 0, 0, 0), (.iaload, 1, 0, 0, 0), (.aload_n 0, 1, 0, 0, 0), (.iload_n 3, 1, 0, 0, 0), (.iconst 2, 1, 0, 0, 0), (.iadd, 1, 0, 0, 0), (.iaload, 1, 0, 0, 0), (.invokevirtual 32, 3, 108, 3, 533)])]
theorem ck_L_1 : en_okB en_I0v bs_L_1 = true := en_okBF_ok (by decide +kernel)
def bs_L_2 : en_Bs := [
  (416, [(.pop, 1, 0, 0, 0), (.aload_n 2, 1, 0, 0, 0), (.aload_n 0, 1, 0, 0, 0), (.iload_n 3, 1, 0, 0, 0), (.iconst 1, 1, 0, 0, 0), (.iadd, 1, 0, 0, 0), (.iaload, 1, 0, 0, 0), (.aload_n 0, 1, 0, 0, 0), (.iload_n 3, 1, 0, 0, 0), (.iconst 2, 1, 0, 0, 0), (.iadd, 1, 0, 0, 0), (.iaload, 1, 0, 0, 0), (.invokevirtual 35, 3, 179, 3, 1417)]),
  (431, [(.pop, 1, 0, 0, 0), (.goto 898, 3, 1330, 0, 0)]),
  (435, [(.aload_n 1, 1, 0, 0, 0), (.aload_n 0, 1, 0, 0, 0), (.iload_n 3, 1, 0, 0, 0), (.iconst 1, 1, 0, 0, 0), (.iadd, 1, 0, 0, 0), (.iaload, 1, 0, 0, 0), (.invokevirtual 36, 3, 109, 2, 545)]),
  (444, [(.pop, 1, 0, 0, 0), (.aload_n 2, 1, 0, 0, 0), (.aload_n 0, 1, 0, 0, 0), (.iload_n 3, 1, 0, 0, 0), (.iconst 1, 1, 0, 0, 0), (.iadd, 1, 0, 0, 0), (.iaload, 1, 0, 0, 0), (.invokevirtual 40, 3, 180, 2, 1430)]),
  (454, [(.pop, 1, 0, 0, 0), (.goto 875, 3, 1330, 0, 0)]),
  (458, [(.aload_n 1, 1, 0, 0, 0), (.aload_n 0, 1, 0, 0, 0), (.iload_n 3, 1, 0, 0, 0), (.iconst 1, 1, 0, 0, 0), (.iadd, 1, 0, 0, 0), (.iaload, 1, 0, 0, 0), (.aload_n 0, 1, 0, 0, 0), (.iload_n 3, 1, 0, 0, 0), (.iconst 2, 1, 0, 0, 0), (.iadd, 1, 0, 0, 0), (.iaload, 1, 0, 0, 0), (.invokevirtual 41, 3, 110, 3, 557)]),
  (472, [(.pop, 1, 0, 0, 0), (.aload_n 2, 1, 0, 0, 0), (.aload_n 0, 1, 0, 0, 0), (.iload_n 3, 1, 0, 0, 0), (.iconst 1, 1, 0, 0, 0), (.iadd, 1, 0, 0, 0), (.iaload, 1, 0, 0, 0), (.aload_n 0, 1, 0, 0, 0), (.iload_n 3, 1, 0, 0, 0), (.iconst 2, 1, 0, 0, 0), (.iadd, 1, 0, 0, 0), (.iaload, 1, 0, 0, 0), (.invokevirtual 44, 3, 181, 3, 1434)]),
  (487, [(.pop, 1, 0, 0, 0), (.goto 842, 3, 1330, 0, 0)]),
  (491, [(.aload_n 1, 1, 0, 0, 0), (.aload_n 0, 1, 0, 0, 0), (.iload_n 3, 1, 0, 0, 0), (.iconst 1, 1, 0, 0, 0), (.iadd, 1, 0, 0, 0), (.iaload, 1, 0, 0, 0), (.aload_n 0, 1, 0, 0, 0), (.iload_n 3, 1, 0, 0, 0), (.iconst 2, 1, 0, 0, 0), (.iadd, 1, 0, 0, 0), (.iaload, 1, 0, 0, 0), (.aload_n 0, 1, 0, 0, 0), (.iload_n 3, 1, 0, 0, 0), (.iconst 3, 1, 0, 0, 0), (.iadd, 1, 0, 0, 0), (.iaload, 1, 0, 0, 0), (.aload_n 0, 1, 0, 0, 0), (.iload_n 3, 1, 0, 0, 0), (.iconst 4, 1, 0, 0, 0), (.iadd, 1, 0, 0, 0), (.iaload, 1, 0, 0, 0), (.aload_n 0, 1, 0, 0, 0), (.iload_n 3, 1, 0, 0, 0), (.iconst 5, 1, 0, 0, 0), (.iadd, 1, 0, 0, 0), (.iaload, 1, 0, 0, 0), (.invokevirtual 45, 3, 111, 6, 561)])]
theorem ck_L_2 : en_okB en_I0v bs_L_2 = true := en_okBF_ok (by decide +kernel)
def bs_L_3 : en_Bs := [
  (520, [(.pop, 1, 0, 0, 0), (.aload_n 2, 1, 0, 0, 0), (.aload_n 0, 1, 0, 0, 0), (.iload_n 3, 1, 0, 0, 0), (.iconst 1, 1, 0, 0, 0), (.iadd, 1, 0, 0, 0), (.iaload, 1, 0, 0, 0), (.aload_n 0, 1, 0, 0, 0), (.iload_n 3, 1, 0, 0, 0), (.iconst 2, 1, 0, 0, 0), (.iadd, 1, 0, 0, 0), (.iaload, 1, 0, 0, 0), (.aload_n 0, 1, 0, 0, 0), (.iload_n 3, 1, 0, 0, 0), (.iconst 3, 1, 0, 0, 0), (.iadd, 1, 0, 0, 0), (.iaload, 1, 0, 0, 0), (.aload_n 0, 1, 0, 0, 0), (.iload_n 3, 1, 0, 0, 0), (.iconst 4, 1, 0, 0, 0), (.iadd, 1, 0, 0, 0), (.iaload, 1, 0, 0, 0), (.aload_n 0, 1, 0, 0, 0), (.iload_n 3, 1, 0, 0, 0), (.iconst 5, 1, 0, 0, 0), (.iadd, 1, 0, 0, 0), (.iaload, 1, 0, 0, 0), (.invokevirtual 49, 3, 185, 6, 1447)]),
  (550, [(.pop, 1, 0, 0, 0), (.goto 779, 3, 1330, 0, 0)]),
  (554, [(.aload_n 1, 1, 0, 0, 0), (.aload_n 0, 1, 0, 0, 0), (.iload_n 3, 1, 0, 0, 0), (.iconst 1, 1, 0, 0, 0), (.iadd, 1, 0, 0, 0), (.iaload, 1, 0, 0, 0), (.invokevirtual 50, 3, 112, 2, 569)]),
  (563, [(.pop, 1, 0, 0, 0), (.aload_n 2, 1, 0, 0, 0), (.aload_n 0, 1, 0, 0, 0), (.iload_n 3, 1, 0, 0, 0), (.iconst 1, 1, 0, 0, 0), (.iadd, 1, 0, 0, 0), (.iaload, 1, 0, 0, 0), (.invokevirtual 53, 3, 186, 2, 1455)]),
  (573, [(.pop, 1, 0, 0, 0), (.goto 756, 3, 1330, 0, 0)]),
  (577, [(.aload_n 1, 1, 0, 0, 0), (.invokevirtual 54, 3, 113, 1, 573)]),
  (581, [(.pop, 1, 0, 0, 0), (.aload_n 2, 1, 0, 0, 0), (.invokevirtual 58, 3, 182, 1, 1439)]),
  (586, [(.pop, 1, 0, 0, 0), (.goto 743, 3, 1330, 0, 0)]),
  (590, [(.aload_n 1, 1, 0, 0, 0), (.invokevirtual 59, 3, 114, 1, 585)])]
theorem ck_L_3 : en_okB en_I0v bs_L_3 = true := en_okBF_ok (by decide +kernel)
def bs_L_4 : en_Bs := [
  (594, [(.pop, 1, 0, 0, 0), (.aload_n 2, 1, 0, 0, 0), (.invokevirtual 62, 3, 183, 1, 1443)]),
  (599, [(.pop, 1, 0, 0, 0), (.goto 730, 3, 1330, 0, 0)]),
  (603, [(.aload_n 1, 1, 0, 0, 0), (.invokevirtual 63, 3, 115, 1, 589)]),
  (607, [(.pop, 1, 0, 0, 0), (.aload_n 2, 1, 0, 0, 0), (.invokevirtual 66, 3, 210, 1, 1463)]),
  (612, [(.pop, 1, 0, 0, 0), (.goto 717, 3, 1330, 0, 0)]),
  (616, [(.aload_n 1, 1, 0, 0, 0), (.invokevirtual 67, 3, 116, 1, 751)]),
  (620, [(.pop, 1, 0, 0, 0), (.aload_n 2, 1, 0, 0, 0), (.invokevirtual 70, 3, 194, 1, 1459)]),
  (625, [(.pop, 1, 0, 0, 0), (.goto 704, 3, 1330, 0, 0)]),
  (629, [(.aload_n 1, 1, 0, 0, 0), (.aload_n 0, 1, 0, 0, 0), (.iload_n 3, 1, 0, 0, 0), (.iconst 1, 1, 0, 0, 0), (.iadd, 1, 0, 0, 0), (.iaload, 1, 0, 0, 0), (.invokevirtual 71, 3, 117, 2, 755)])]
theorem ck_L_4 : en_okB en_I0v bs_L_4 = true := en_okBF_ok (by decide +kernel)
def bs_L_5 : en_Bs := [
  (638, [(.pop, 1, 0, 0, 0), (.aload_n 2, 1, 0, 0, 0), (.aload_n 0, 1, 0, 0, 0), (.iload_n 3, 1, 0, 0, 0), (.iconst 1, 1, 0, 0, 0), (.iadd, 1, 0, 0, 0), (.iaload, 1, 0, 0, 0), (.invokevirtual 74, 3, 211, 2, 1566)]),
  (648, [(.pop, 1, 0, 0, 0), (.goto 681, 3, 1330, 0, 0)]),
  (652, [(.aload_n 1, 1, 0, 0, 0), (.aload_n 0, 1, 0, 0, 0), (.iload_n 3, 1, 0, 0, 0), (.iconst 1, 1, 0, 0, 0), (.iadd, 1, 0, 0, 0), (.iaload, 1, 0, 0, 0), (.aload_n 0, 1, 0, 0, 0), (.iload_n 3, 1, 0, 0, 0), (.iconst 2, 1, 0, 0, 0), (.iadd, 1, 0, 0, 0), (.iaload, 1, 0, 0, 0), (.invokevirtual 75, 3, 118, 3, 759)]),
  (666, [(.pop, 1, 0, 0, 0), (.aload_n 2, 1, 0, 0, 0), (.aload_n 0, 1, 0, 0, 0), (.iload_n 3, 1, 0, 0, 0), (.iconst 1, 1, 0, 0, 0), (.iadd, 1, 0, 0, 0), (.iaload, 1, 0, 0, 0), (.aload_n 0, 1, 0, 0, 0), (.iload_n 3, 1, 0, 0, 0), (.iconst 2, 1, 0, 0, 0), (.iadd, 1, 0, 0, 0), (.iaload, 1, 0, 0, 0), (.invokevirtual 78, 3, 220, 3, 1570)]),
  (681, [(.pop, 1, 0, 0, 0), (.goto 648, 3, 1330, 0, 0)]),
  (685, [(.aload_n 1, 1, 0, 0, 0), (.aload_n 0, 1, 0, 0, 0), (.iload_n 3, 1, 0, 0, 0), (.iconst 1, 1, 0, 0, 0), (.iadd, 1, 0, 0, 0), (.iaload, 1, 0, 0, 0), (.aload_n 0, 1, 0, 0, 0), (.iload_n 3, 1, 0, 0, 0), (.iconst 2, 1, 0, 0, 0), (.iadd, 1, 0, 0, 0), (.iaload, 1, 0, 0, 0), (.invokevirtual 79, 3, 119, 3, 781)]),
  (699, [(.pop, 1, 0, 0, 0), (.aload_n 2, 1, 0, 0, 0), (.aload_n 0, 1, 0, 0, 0), (.iload_n 3, 1, 0, 0, 0), (.iconst 1, 1, 0, 0, 0), (.iadd, 1, 0, 0, 0), (.iaload, 1, 0, 0, 0), (.aload_n 0, 1, 0, 0, 0), (.iload_n 3, 1, 0, 0, 0), (.iconst 2, 1, 0, 0, 0), (.iadd, 1, 0, 0, 0), (.iaload, 1, 0, 0, 0), (.invokevirtual 82, 3, 222, 3, 1578)]),
  (714, [(.pop, 1, 0, 0, 0), (.goto 615, 3, 1330, 0, 0)]),
  (718, [(.aload_n 1, 1, 0, 0, 0), (.aload_n 0, 1, 0, 0, 0), (.iload_n 3, 1, 0, 0, 0), (.iconst 1, 1, 0, 0, 0), (.iadd, 1, 0, 0, 0), (.iaload, 1, 0, 0, 0), (.aload_n 0, 1, 0, 0, 0), (.iload_n 3, 1, 0, 0, 0), (.iconst 2, 1, 0, 0, 0), (.iadd, 1, 0, 0, 0), (.iaload, 1, 0, 0, 0), (.invokevirtual 83, 3, 120, 3, 795)])]
theorem ck_L_5 : en_okB en_I0v bs_L_5 = true := en_okBF_ok (by decide +kernel)
def bs_L_6 : en_Bs := [
  (732, [(.pop, 1, 0, 0, 0), (.aload_n 2, 1, 0, 0, 0), (.aload_n 0, 1, 0, 0, 0), (.iload_n 3, 1, 0, 0, 0), (.iconst 1, 1, 0, 0, 0), (.iadd, 1, 0, 0, 0), (.iaload, 1, 0, 0, 0), (.aload_n 0, 1, 0, 0, 0), (.iload_n 3, 1, 0, 0, 0), (.iconst 2, 1, 0, 0, 0), (.iadd, 1, 0, 0, 0), (.iaload, 1, 0, 0, 0), (.invokevirtual 86, 3, 230, 3, 1586)]),
  (747, [(.pop, 1, 0, 0, 0), (.goto 582, 3, 1330, 0, 0)]),
  (751, [(.aload_n 1, 1, 0, 0, 0), (.aload_n 0, 1, 0, 0, 0), (.iload_n 3, 1, 0, 0, 0), (.iconst 1, 1, 0, 0, 0), (.iadd, 1, 0, 0, 0), (.iaload, 1, 0, 0, 0), (.aload_n 0, 1, 0, 0, 0), (.iload_n 3, 1, 0, 0, 0), (.iconst 2, 1, 0, 0, 0), (.iadd, 1, 0, 0, 0), (.iaload, 1, 0, 0, 0), (.invokevirtual 87, 3, 121, 3, 891)]),
  (765, [(.pop, 1, 0, 0, 0), (.aload_n 2, 1, 0, 0, 0), (.aload_n 0, 1, 0, 0, 0), (.iload_n 3, 1, 0, 0, 0), (.iconst 1, 1, 0, 0, 0), (.iadd, 1, 0, 0, 0), (.iaload, 1, 0, 0, 0), (.aload_n 0, 1, 0, 0, 0), (.iload_n 3, 1, 0, 0, 0), (.iconst 2, 1, 0, 0, 0), (.iadd, 1, 0, 0, 0), (.iaload, 1, 0, 0, 0), (.invokevirtual 90, 3, 232, 3, 1644)]),
  (780, [(.pop, 1, 0, 0, 0), (.goto 549, 3, 1330, 0, 0)]),
  (784, [(.aload_n 1, 1, 0, 0, 0), (.aload_n 0, 1, 0, 0, 0), (.iload_n 3, 1, 0, 0, 0), (.iconst 1, 1, 0, 0, 0), (.iadd, 1, 0, 0, 0), (.iaload, 1, 0, 0, 0), (.aload_n 0, 1, 0, 0, 0), (.iload_n 3, 1, 0, 0, 0), (.iconst 2, 1, 0, 0, 0), (.iadd, 1, 0, 0, 0), (.iaload, 1, 0, 0, 0), (.aload_n 0, 1, 0, 0, 0), (.iload_n 3, 1, 0, 0, 0), (.iconst 3, 1, 0, 0, 0), (.iadd, 1, 0, 0, 0), (.iaload, 1, 0, 0, 0), (.invokevirtual 91, 3, 122, 4, 899)]),
  (803, [(.pop, 1, 0, 0, 0), (.aload_n 2, 1, 0, 0, 0), (.aload_n 0, 1, 0, 0, 0), (.iload_n 3, 1, 0, 0, 0), (.iconst 1, 1, 0, 0, 0), (.iadd, 1, 0, 0, 0), (.iaload, 1, 0, 0, 0), (.aload_n 0, 1, 0, 0, 0), (.iload_n 3, 1, 0, 0, 0), (.iconst 2, 1, 0, 0, 0), (.iadd, 1, 0, 0, 0), (.iaload, 1, 0, 0, 0), (.aload_n 0, 1, 0, 0, 0), (.iload_n 3, 1, 0, 0, 0), (.iconst 3, 1, 0, 0, 0), (.iadd, 1, 0, 0, 0), (.iaload, 1, 0, 0, 0), (.invokevirtual 94, 3, 233, 4, 1651)]),
  (823, [(.pop, 1, 0, 0, 0), (.goto 506, 3, 1330, 0, 0)]),
  (827, [(.aload_n 1, 1, 0, 0, 0), (.invokevirtual 95, 3, 123, 1, 903)])]
theorem ck_L_6 : en_okB en_I0v bs_L_6 = true := en_okBF_ok (by decide +kernel)
def bs_L_7 : en_Bs := [
  (831, [(.pop, 1, 0, 0, 0), (.aload_n 2, 1, 0, 0, 0), (.invokevirtual 98, 3, 235, 1, 1655)]),
  (836, [(.pop, 1, 0, 0, 0), (.goto 493, 3, 1330, 0, 0)]),
  (840, [(.aload_n 1, 1, 0, 0, 0), (.aload_n 0, 1, 0, 0, 0), (.iload_n 3, 1, 0, 0, 0), (.iconst 1, 1, 0, 0, 0), (.iadd, 1, 0, 0, 0), (.iaload, 1, 0, 0, 0), (.aload_n 0, 1, 0, 0, 0), (.iload_n 3, 1, 0, 0, 0), (.iconst 2, 1, 0, 0, 0), (.iadd, 1, 0, 0, 0), (.iaload, 1, 0, 0, 0), (.invokevirtual 99, 3, 124, 3, 921)]),
  (854, [(.pop, 1, 0, 0, 0), (.aload_n 2, 1, 0, 0, 0), (.aload_n 0, 1, 0, 0, 0), (.iload_n 3, 1, 0, 0, 0), (.iconst 1, 1, 0, 0, 0), (.iadd, 1, 0, 0, 0), (.iaload, 1, 0, 0, 0), (.aload_n 0, 1, 0, 0, 0), (.iload_n 3, 1, 0, 0, 0), (.iconst 2, 1, 0, 0, 0), (.iadd, 1, 0, 0, 0), (.iaload, 1, 0, 0, 0), (.invokevirtual 102, 3, 239, 3, 1663)]),
  (869, [(.pop, 1, 0, 0, 0), (.goto 460, 3, 1330, 0, 0)]),
  (873, [(.aload_n 1, 1, 0, 0, 0), (.aload_n 0, 1, 0, 0, 0), (.iload_n 3, 1, 0, 0, 0), (.iconst 1, 1, 0, 0, 0), (.iadd, 1, 0, 0, 0), (.iaload, 1, 0, 0, 0), (.aload_n 0, 1, 0, 0, 0), (.iload_n 3, 1, 0, 0, 0), (.iconst 2, 1, 0, 0, 0), (.iadd, 1, 0, 0, 0), (.iaload, 1, 0, 0, 0), (.invokevirtual 103, 3, 125, 3, 976)]),
  (887, [(.pop, 1, 0, 0, 0), (.aload_n 2, 1, 0, 0, 0), (.aload_n 0, 1, 0, 0, 0), (.iload_n 3, 1, 0, 0, 0), (.iconst 1, 1, 0, 0, 0), (.iadd, 1, 0, 0, 0), (.iaload, 1, 0, 0, 0), (.aload_n 0, 1, 0, 0, 0), (.iload_n 3, 1, 0, 0, 0), (.iconst 2, 1, 0, 0, 0), (.iadd, 1, 0, 0, 0), (.iaload, 1, 0, 0, 0), (.invokevirtual 106, 3, 240, 3, 1679)]),
  (902, [(.pop, 1, 0, 0, 0), (.goto 427, 3, 1330, 0, 0)]),
  (906, [(.aload_n 1, 1, 0, 0, 0), (.aload_n 0, 1, 0, 0, 0), (.iload_n 3, 1, 0, 0, 0), (.iconst 1, 1, 0, 0, 0), (.iadd, 1, 0, 0, 0), (.iaload, 1, 0, 0, 0), (.invokevirtual 107, 3, 126, 2, 981)])]
theorem ck_L_7 : en_okB en_I0v bs_L_7 = true := en_okBF_ok (by decide +kernel)
def bs_L_8 : en_Bs := [
  (915, [(.pop, 1, 0, 0, 0), (.aload_n 2, 1, 0, 0, 0), (.aload_n 0, 1, 0, 0, 0), (.iload_n 3, 1, 0, 0, 0), (.iconst 1, 1, 0, 0, 0), (.iadd, 1, 0, 0, 0), (.iaload, 1, 0, 0, 0), (.invokevirtual 110, 3, 242, 2, 1683)]),
  (925, [(.pop, 1, 0, 0, 0), (.goto 404, 3, 1330, 0, 0)]),
  (929, [(.aload_n 1, 1, 0, 0, 0), (.aload_n 0, 1, 0, 0, 0), (.iload_n 3, 1, 0, 0, 0), (.iconst 1, 1, 0, 0, 0), (.iadd, 1, 0, 0, 0), (.iaload, 1, 0, 0, 0), (.invokevirtual 111, 3, 127, 2, 1002)]),
  (938, [(.pop, 1, 0, 0, 0), (.aload_n 2, 1, 0, 0, 0), (.aload_n 0, 1, 0, 0, 0), (.iload_n 3, 1, 0, 0, 0), (.iconst 1, 1, 0, 0, 0), (.iadd, 1, 0, 0, 0), (.iaload, 1, 0, 0, 0), (.invokevirtual 114, 3, 244, 2, 1695)]),
  (948, [(.pop, 1, 0, 0, 0), (.goto 381, 3, 1330, 0, 0)]),
  (952, [(.aload_n 1, 1, 0, 0, 0), (.aload_n 0, 1, 0, 0, 0), (.iload_n 3, 1, 0, 0, 0), (.iconst 1, 1, 0, 0, 0), (.iadd, 1, 0, 0, 0), (.iaload, 1, 0, 0, 0), (.invokevirtual 115, 3, 128, 2, 1040)]),
  (961, [(.pop, 1, 0, 0, 0), (.aload_n 2, 1, 0, 0, 0), (.aload_n 0, 1, 0, 0, 0), (.iload_n 3, 1, 0, 0, 0), (.iconst 1, 1, 0, 0, 0), (.iadd, 1, 0, 0, 0), (.iaload, 1, 0, 0, 0), (.invokevirtual 118, 3, 246, 2, 1708)]),
  (971, [(.pop, 1, 0, 0, 0), (.goto 358, 3, 1330, 0, 0)]),
  (975, [(.aload_n 1, 1, 0, 0, 0), (.aload_n 0, 1, 0, 0, 0), (.iload_n 3, 1, 0, 0, 0), (.iconst 1, 1, 0, 0, 0), (.iadd, 1, 0, 0, 0), (.iaload, 1, 0, 0, 0), (.invokevirtual 119, 3, 129, 2, 1044)])]
theorem ck_L_8 : en_okB en_I0v bs_L_8 = true := en_okBF_ok (by decide +kernel)
def bs_L_9 : en_Bs := [
  (984, [(.pop, 1, 0, 0, 0), (.aload_n 2, 1, 0, 0, 0), (.aload_n 0, 1, 0, 0, 0), (.iload_n 3, 1, 0, 0, 0), (.iconst 1, 1, 0, 0, 0), (.iadd, 1, 0, 0, 0), (.iaload, 1, 0, 0, 0), (.invokevirtual 122, 3, 248, 2, 1716)]),
  (994, [(.pop, 1, 0, 0, 0), (.goto 335, 3, 1330, 0, 0)]),
  (998, [(.aload_n 1, 1, 0, 0, 0), (.aload_n 0, 1, 0, 0, 0), (.iload_n 3, 1, 0, 0, 0), (.iconst 1, 1, 0, 0, 0), (.iadd, 1, 0, 0, 0), (.iaload, 1, 0, 0, 0), (.aload_n 0, 1, 0, 0, 0), (.iload_n 3, 1, 0, 0, 0), (.iconst 2, 1, 0, 0, 0), (.iadd, 1, 0, 0, 0), (.iaload, 1, 0, 0, 0), (.invokevirtual 123, 3, 130, 3, 1060)]),
  (1012, [(.pop, 1, 0, 0, 0), (.aload_n 2, 1, 0, 0, 0), (.aload_n 0, 1, 0, 0, 0), (.iload_n 3, 1, 0, 0, 0), (.iconst 1, 1, 0, 0, 0), (.iadd, 1, 0, 0, 0), (.iaload, 1, 0, 0, 0), (.aload_n 0, 1, 0, 0, 0), (.iload_n 3, 1, 0, 0, 0), (.iconst 2, 1, 0, 0, 0), (.iadd, 1, 0, 0, 0), (.iaload, 1, 0, 0, 0), (.invokevirtual 126, 3, 250, 3, 1724)]),
  (1027, [(.pop, 1, 0, 0, 0), (.goto 302, 3, 1330, 0, 0)]),
  (1031, [(.aload_n 1, 1, 0, 0, 0), (.invokevirtual 127, 3, 131, 1, 1068)]),
  (1035, [(.aload_n 2, 1, 0, 0, 0), (.invokevirtual 130, 3, 251, 1, 1732)]),
  (1039, [(.if_icmp .eq 291, 3, 1330, 0, 0)]),
  (1042, [(.iconst 0, 1, 0, 0, 0), (.ireturn, 1, 0, 0, 0)])]
theorem ck_L_9 : en_okB en_I0v bs_L_9 = true := en_okBF_ok (by decide +kernel)
def bs_L_10 : en_Bs := [
  (1044, [(.aload_n 1, 1, 0, 0, 0), (.aload_n 0, 1, 0, 0, 0), (.iload_n 3, 1, 0, 0, 0), (.iconst 1, 1, 0, 0, 0), (.iadd, 1, 0, 0, 0), (.iaload, 1, 0, 0, 0), (.invokevirtual 131, 3, 132, 2, 1076)]),
  (1053, [(.pop, 1, 0, 0, 0), (.aload_n 2, 1, 0, 0, 0), (.aload_n 0, 1, 0, 0, 0), (.iload_n 3, 1, 0, 0, 0), (.iconst 1, 1, 0, 0, 0), (.iadd, 1, 0, 0, 0), (.iaload, 1, 0, 0, 0), (.invokevirtual 134, 3, 252, 2, 1736)]),
  (1063, [(.pop, 1, 0, 0, 0), (.goto 266, 3, 1330, 0, 0)]),
  (1067, [(.aload_n 1, 1, 0, 0, 0), (.aload_n 0, 1, 0, 0, 0), (.iload_n 3, 1, 0, 0, 0), (.iconst 1, 1, 0, 0, 0), (.iadd, 1, 0, 0, 0), (.iaload, 1, 0, 0, 0), (.invokevirtual 135, 3, 133, 2, 1088)]),
  (1076, [(.pop, 1, 0, 0, 0), (.aload_n 2, 1, 0, 0, 0), (.aload_n 0, 1, 0, 0, 0), (.iload_n 3, 1, 0, 0, 0), (.iconst 1, 1, 0, 0, 0), (.iadd, 1, 0, 0, 0), (.iaload, 1, 0, 0, 0), (.invokevirtual 138, 3, 253, 2, 1740)]),
  (1086, [(.pop, 1, 0, 0, 0), (.goto 243, 3, 1330, 0, 0)]),
  (1090, [(.aload_n 1, 1, 0, 0, 0), (.aload_n 0, 1, 0, 0, 0), (.iload_n 3, 1, 0, 0, 0), (.iconst 1, 1, 0, 0, 0), (.iadd, 1, 0, 0, 0), (.iaload, 1, 0, 0, 0), (.aload_n 0, 1, 0, 0, 0), (.iload_n 3, 1, 0, 0, 0), (.iconst 2, 1, 0, 0, 0), (.iadd, 1, 0, 0, 0), (.iaload, 1, 0, 0, 0), (.invokevirtual 139, 3, 134, 3, 1098)]),
  (1104, [(.pop, 1, 0, 0, 0), (.aload_n 2, 1, 0, 0, 0), (.aload_n 0, 1, 0, 0, 0), (.iload_n 3, 1, 0, 0, 0), (.iconst 1, 1, 0, 0, 0), (.iadd, 1, 0, 0, 0), (.iaload, 1, 0, 0, 0), (.aload_n 0, 1, 0, 0, 0), (.iload_n 3, 1, 0, 0, 0), (.iconst 2, 1, 0, 0, 0), (.iadd, 1, 0, 0, 0), (.iaload, 1, 0, 0, 0), (.invokevirtual 142, 3, 254, 3, 1744)]),
  (1119, [(.pop, 1, 0, 0, 0), (.goto 210, 3, 1330, 0, 0)])]
theorem ck_L_10 : en_okB en_I0v bs_L_10 = true := en_okBF_ok (by decide +kernel)
def bs_L_11 : en_Bs := [
  (1123, [(.aload_n 1, 1, 0, 0, 0), (.invokevirtual 143, 3, 135, 1, 1102)]),
  (1127, [(.pop, 1, 0, 0, 0), (.aload_n 2, 1, 0, 0, 0), (.invokevirtual 146, 3, 255, 1, 1748)]),
  (1132, [(.pop, 1, 0, 0, 0), (.goto 197, 3, 1330, 0, 0)]),
  (1136, [(.aload_n 1, 1, 0, 0, 0), (.invokevirtual 147, 3, 136, 1, 1106)]),
  (1140, [(.pop, 1, 0, 0, 0), (.aload_n 2, 1, 0, 0, 0), (.invokevirtual 150, 3, 257, 1, 1752)]),
  (1145, [(.pop, 1, 0, 0, 0), (.goto 184, 3, 1330, 0, 0)]),
  (1149, [(.aload_n 1, 1, 0, 0, 0), (.aload_n 0, 1, 0, 0, 0), (.iload_n 3, 1, 0, 0, 0), (.iconst 1, 1, 0, 0, 0), (.iadd, 1, 0, 0, 0), (.iaload, 1, 0, 0, 0), (.aload_n 0, 1, 0, 0, 0), (.iload_n 3, 1, 0, 0, 0), (.iconst 2, 1, 0, 0, 0), (.iadd, 1, 0, 0, 0), (.iaload, 1, 0, 0, 0), (.aload_n 0, 1, 0, 0, 0), (.iload_n 3, 1, 0, 0, 0), (.iconst 3, 1, 0, 0, 0), (.iadd, 1, 0, 0, 0), (.iaload, 1, 0, 0, 0), (.invokevirtual 151, 3, 137, 4, 1118)]),
  (1168, [(.pop, 1, 0, 0, 0), (.aload_n 2, 1, 0, 0, 0), (.aload_n 0, 1, 0, 0, 0), (.iload_n 3, 1, 0, 0, 0), (.iconst 1, 1, 0, 0, 0), (.iadd, 1, 0, 0, 0), (.iaload, 1, 0, 0, 0), (.aload_n 0, 1, 0, 0, 0), (.iload_n 3, 1, 0, 0, 0), (.iconst 2, 1, 0, 0, 0), (.iadd, 1, 0, 0, 0), (.iaload, 1, 0, 0, 0), (.aload_n 0, 1, 0, 0, 0), (.iload_n 3, 1, 0, 0, 0), (.iconst 3, 1, 0, 0, 0), (.iadd, 1, 0, 0, 0), (.iaload, 1, 0, 0, 0), (.invokevirtual 154, 3, 258, 4, 1760)]),
  (1188, [(.pop, 1, 0, 0, 0), (.goto 141, 3, 1330, 0, 0)])]
theorem ck_L_11 : en_okB en_I0v bs_L_11 = true := en_okBF_ok (by decide +kernel)
def bs_L_12 : en_Bs := [
  (1192, [(.aload_n 1, 1, 0, 0, 0), (.aload_n 0, 1, 0, 0, 0), (.iload_n 3, 1, 0, 0, 0), (.iconst 1, 1, 0, 0, 0), (.iadd, 1, 0, 0, 0), (.iaload, 1, 0, 0, 0), (.invokevirtual 155, 3, 138, 2, 1126)]),
  (1201, [(.pop, 1, 0, 0, 0), (.aload_n 2, 1, 0, 0, 0), (.aload_n 0, 1, 0, 0, 0), (.iload_n 3, 1, 0, 0, 0), (.iconst 1, 1, 0, 0, 0), (.iadd, 1, 0, 0, 0), (.iaload, 1, 0, 0, 0), (.invokevirtual 158, 3, 261, 2, 1764)]),
  (1211, [(.pop, 1, 0, 0, 0), (.goto 118, 3, 1330, 0, 0)]),
  (1215, [(.aload_n 1, 1, 0, 0, 0), (.aload_n 0, 1, 0, 0, 0), (.iload_n 3, 1, 0, 0, 0), (.iconst 1, 1, 0, 0, 0), (.iadd, 1, 0, 0, 0), (.iaload, 1, 0, 0, 0), (.aload_n 0, 1, 0, 0, 0), (.iload_n 3, 1, 0, 0, 0), (.iconst 2, 1, 0, 0, 0), (.iadd, 1, 0, 0, 0), (.iaload, 1, 0, 0, 0), (.invokevirtual 159, 3, 139, 3, 1140)]),
  (1229, [(.pop, 1, 0, 0, 0), (.aload_n 2, 1, 0, 0, 0), (.aload_n 0, 1, 0, 0, 0), (.iload_n 3, 1, 0, 0, 0), (.iconst 1, 1, 0, 0, 0), (.iadd, 1, 0, 0, 0), (.iaload, 1, 0, 0, 0), (.aload_n 0, 1, 0, 0, 0), (.iload_n 3, 1, 0, 0, 0), (.iconst 2, 1, 0, 0, 0), (.iadd, 1, 0, 0, 0), (.iaload, 1, 0, 0, 0), (.invokevirtual 162, 3, 262, 3, 1779)]),
  (1244, [(.pop, 1, 0, 0, 0), (.goto 85, 3, 1330, 0, 0)]),
  (1248, [(.aload_n 1, 1, 0, 0, 0), (.aload_n 0, 1, 0, 0, 0), (.iload_n 3, 1, 0, 0, 0), (.iconst 1, 1, 0, 0, 0), (.iadd, 1, 0, 0, 0), (.iaload, 1, 0, 0, 0), (.invokevirtual 163, 3, 140, 2, 1144)]),
  (1257, [(.pop, 1, 0, 0, 0), (.aload_n 2, 1, 0, 0, 0), (.aload_n 0, 1, 0, 0, 0), (.iload_n 3, 1, 0, 0, 0), (.iconst 1, 1, 0, 0, 0), (.iadd, 1, 0, 0, 0), (.iaload, 1, 0, 0, 0), (.invokevirtual 166, 3, 165, 2, 1347)]),
  (1267, [(.pop, 1, 0, 0, 0), (.goto 62, 3, 1330, 0, 0)])]
theorem ck_L_12 : en_okB en_I0v bs_L_12 = true := en_okBF_ok (by decide +kernel)
def bs_L_13 : en_Bs := [
  (1271, [(.aload_n 1, 1, 0, 0, 0), (.aload_n 0, 1, 0, 0, 0), (.iload_n 3, 1, 0, 0, 0), (.iconst 1, 1, 0, 0, 0), (.iadd, 1, 0, 0, 0), (.iaload, 1, 0, 0, 0), (.invokevirtual 167, 3, 141, 2, 1156)]),
  (1280, [(.pop, 1, 0, 0, 0), (.aload_n 2, 1, 0, 0, 0), (.aload_n 0, 1, 0, 0, 0), (.iload_n 3, 1, 0, 0, 0), (.iconst 1, 1, 0, 0, 0), (.iadd, 1, 0, 0, 0), (.iaload, 1, 0, 0, 0), (.invokevirtual 170, 3, 166, 2, 1358)]),
  (1290, [(.pop, 1, 0, 0, 0), (.goto 39, 3, 1330, 0, 0)]),
  (1294, [(.aload_n 1, 1, 0, 0, 0), (.aload_n 0, 1, 0, 0, 0), (.iload_n 3, 1, 0, 0, 0), (.iconst 1, 1, 0, 0, 0), (.iadd, 1, 0, 0, 0), (.iaload, 1, 0, 0, 0), (.invokevirtual 171, 3, 142, 2, 1160)]),
  (1303, [(.pop, 1, 0, 0, 0), (.aload_n 2, 1, 0, 0, 0), (.aload_n 0, 1, 0, 0, 0), (.iload_n 3, 1, 0, 0, 0), (.iconst 1, 1, 0, 0, 0), (.iadd, 1, 0, 0, 0), (.iaload, 1, 0, 0, 0), (.invokevirtual 174, 3, 263, 2, 1783)]),
  (1313, [(.pop, 1, 0, 0, 0), (.goto 16, 3, 1330, 0, 0)]),
  (1317, [(.aload_n 1, 1, 0, 0, 0), (.invokevirtual 175, 3, 143, 1, 1168)]),
  (1321, [(.pop, 1, 0, 0, 0), (.aload_n 2, 1, 0, 0, 0), (.invokevirtual 178, 3, 264, 1, 1787)]),
  (1326, [(.pop, 1, 0, 0, 0), (.goto 3, 3, 1330, 0, 0)])]
theorem ck_L_13 : en_okB en_I0v bs_L_13 = true := en_okBF_ok (by decide +kernel)
def bs_L_14 : en_Bs := [
  (1330, [(.iinc 3 7, 3, 0, 0, 0), (.goto (-1315), 3, 18, 0, 0)]),
  (1336, [(.iconst 1, 1, 0, 0, 0), (.ireturn, 1, 0, 0, 0)])]
theorem ck_L_14 : en_okB en_I0v bs_L_14 = true := en_okBF_ok (by decide +kernel)
def bs_L_law : en_Bs := bs_L_0 ++ (bs_L_1 ++ (bs_L_2 ++ (bs_L_3 ++ (bs_L_4 ++ (bs_L_5 ++ (bs_L_6 ++ (bs_L_7 ++ (bs_L_8 ++ (bs_L_9 ++ (bs_L_10 ++ (bs_L_11 ++ (bs_L_12 ++ (bs_L_13 ++ (bs_L_14))))))))))))))
theorem ck_L_law : en_okB en_I0v bs_L_law = true := en_okB_app _ _ _ ck_L_0 (en_okB_app _ _ _ ck_L_1 (en_okB_app _ _ _ ck_L_2 (en_okB_app _ _ _ ck_L_3 (en_okB_app _ _ _ ck_L_4 (en_okB_app _ _ _ ck_L_5 (en_okB_app _ _ _ ck_L_6 (en_okB_app _ _ _ ck_L_7 (en_okB_app _ _ _ ck_L_8 (en_okB_app _ _ _ ck_L_9 (en_okB_app _ _ _ ck_L_10 (en_okB_app _ _ _ ck_L_11 (en_okB_app _ _ _ ck_L_12 (en_okB_app _ _ _ ck_L_13 (ck_L_14))))))))))))))
