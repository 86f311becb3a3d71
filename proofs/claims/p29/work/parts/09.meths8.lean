def bs_X11_count : en_Bs := [
  (0, [(.aload_n 0, 1, 0, 0, 0), (.iconst 0, 1, 0, 0, 0), (.putfield 121, 3, 11, 0, 1190), (.iload_n 1, 1, 0, 0, 0), (.iconst 4, 1, 0, 0, 0), (.if_icmp .eq 8, 3, 15, 0, 0)]),
  (10, [(.iload_n 1, 1, 0, 0, 0), (.iconst 5, 1, 0, 0, 0), (.if_icmp .ne 59, 3, 71, 0, 0)]),
  (15, [(.aload_n 0, 1, 0, 0, 0), (.invokevirtual 397, 3, 229, 1, 1590)]),
  (19, [(.iconst 0, 1, 0, 0, 0), (.istore_n 2, 1, 0, 0, 0), (.iconst 0, 1, 0, 0, 0), (.istore_n 3, 1, 0, 0, 0)]),
  (23, [(.iload_n 3, 1, 0, 0, 0), (.aload_n 0, 1, 0, 0, 0), (.getfield 13, 3, 11, 3, 1193), (.iconst 1, 1, 0, 0, 0), (.iaload, 1, 0, 0, 0), (.if_icmp .ge 27, 3, 57, 0, 0)]),
  (33, [(.iload_n 2, 1, 0, 0, 0), (.aload_n 0, 1, 0, 0, 0), (.getfield 103, 3, 11, 41, 1231), (.iload_n 3, 1, 0, 0, 0), (.iaload, 1, 0, 0, 0), (.iconst (-1), 1, 0, 0, 0), (.if_icmp .ne 7, 3, 48, 0, 0)]),
  (44, [(.iconst 1, 1, 0, 0, 0), (.goto 4, 3, 49, 0, 0)]),
  (48, [(.iconst 0, 1, 0, 0, 0)]),
  (49, [(.iadd, 1, 0, 0, 0), (.istore_n 2, 1, 0, 0, 0), (.iinc 3 1, 3, 0, 0, 0), (.goto (-31), 3, 23, 0, 0)]),
  (57, [(.iload_n 1, 1, 0, 0, 0), (.iconst 4, 1, 0, 0, 0), (.if_icmp .ne 10, 3, 69, 0, 0)]),
  (62, [(.aload_n 0, 1, 0, 0, 0), (.invokevirtual 465, 3, 260, 1, 1775)]),
  (66, [(.goto 4, 3, 70, 0, 0)]),
  (69, [(.iload_n 2, 1, 0, 0, 0)]),
  (70, [(.ireturn, 1, 0, 0, 0)]),
  (71, [(.iload_n 1, 1, 0, 0, 0), (.tableswitch 167 0 14 #[76, 83, 90, 97, 167, 167, 104, 109, 116, 123, 130, 137, 145, 152, 159], 76, 0, 0, 0)]),
  (148, [(.aload_n 0, 1, 0, 0, 0), (.getfield 13, 3, 11, 3, 1193), (.iconst 0, 1, 0, 0, 0), (.iaload, 1, 0, 0, 0), (.ireturn, 1, 0, 0, 0)]),
  (155, [(.aload_n 0, 1, 0, 0, 0), (.getfield 13, 3, 11, 3, 1193), (.iconst 1, 1, 0, 0, 0), (.iaload, 1, 0, 0, 0), (.ireturn, 1, 0, 0, 0)]),
  (162, [(.aload_n 0, 1, 0, 0, 0), (.getfield 13, 3, 11, 3, 1193), (.iconst 2, 1, 0, 0, 0), (.iaload, 1, 0, 0, 0), (.ireturn, 1, 0, 0, 0)]),
  (169, [(.aload_n 0, 1, 0, 0, 0), (.getfield 13, 3, 11, 3, 1193), (.iconst 4, 1, 0, 0, 0), (.iaload, 1, 0, 0, 0), (.ireturn, 1, 0, 0, 0)]),
  (176, [(.aload_n 0, 1, 0, 0, 0), (.getfield 189, 3, 11, 8, 1198), (.ireturn, 1, 0, 0, 0)]),
  (181, [(.aload_n 0, 1, 0, 0, 0), (.getfield 7, 3, 11, 2, 1192), (.iconst 1, 1, 0, 0, 0), (.iaload, 1, 0, 0, 0), (.ireturn, 1, 0, 0, 0)]),
  (188, [(.aload_n 0, 1, 0, 0, 0), (.getfield 7, 3, 11, 2, 1192), (.iconst 2, 1, 0, 0, 0), (.iaload, 1, 0, 0, 0), (.ireturn, 1, 0, 0, 0)]),
  (195, [(.aload_n 0, 1, 0, 0, 0), (.getfield 7, 3, 11, 2, 1192), (.iconst 3, 1, 0, 0, 0), (.iaload, 1, 0, 0, 0), (.ireturn, 1, 0, 0, 0)]),
  (202, [(.aload_n 0, 1, 0, 0, 0), (.getfield 7, 3, 11, 2, 1192), (.iconst 5, 1, 0, 0, 0), (.iaload, 1, 0, 0, 0), (.ireturn, 1, 0, 0, 0)]),
  (209, [(.aload_n 0, 1, 0, 0, 0), (.getfield 7, 3, 11, 2, 1192), (.bipush 6, 2, 0, 0, 0), (.iaload, 1, 0, 0, 0), (.ireturn, 1, 0, 0, 0)]),
  (217, [(.aload_n 0, 1, 0, 0, 0), (.getfield 13, 3, 11, 3, 1193), (.iconst 3, 1, 0, 0, 0), (.iaload, 1, 0, 0, 0), (.ireturn, 1, 0, 0, 0)]),
  (224, [(.aload_n 0, 1, 0, 0, 0), (.getfield 13, 3, 11, 3, 1193), (.iconst 5, 1, 0, 0, 0), (.iaload, 1, 0, 0, 0), (.ireturn, 1, 0, 0, 0)]),
  (231, [(.aload_n 0, 1, 0, 0, 0), (.getfield 13, 3, 11, 3, 1193), (.bipush 6, 2, 0, 0, 0), (.iaload, 1, 0, 0, 0), (.ireturn, 1, 0, 0, 0)]),
  (239, [(.iconst (-1), 1, 0, 0, 0), (.ireturn, 1, 0, 0, 0)])]
set_option maxRecDepth 20000 in
theorem ck_X11_count : en_ck 263 bs_X11_count = true := en_ckF_ok (J := (yX11_count, cX11_count, 4, some .int, 11, 0)) (q := (1786, 1784, 1893, 12)) rfl rfl rfl (by decide +kernel)
def bs_X11_status : en_Bs := [
  (0, [(.aload_n 0, 1, 0, 0, 0), (.iconst 0, 1, 0, 0, 0), (.putfield 121, 3, 11, 0, 1190), (.aload_n 0, 1, 0, 0, 0), (.getfield 124, 3, 11, 1, 1191), (.ireturn, 1, 0, 0, 0)])]
set_option maxRecDepth 20000 in
theorem ck_X11_status : en_ck 264 bs_X11_status = true := en_ckF_ok (J := (yX11_status, cX11_status, 1, some .int, 11, 0)) (q := (1790, 1788, 1897, 12)) rfl rfl rfl (by decide +kernel)
def bs_J6_bitCount_0f7a4 : en_Bs := [
  (0, [(.iload_n 0, 1, 0, 0, 0), (.iload_n 0, 1, 0, 0, 0), (.iconst 1, 1, 0, 0, 0), (.iushr, 1, 0, 0, 0), (.ldc_w 265, 3, 1, 1431655765, 997), (.iand, 1, 0, 0, 0), (.isub, 1, 0, 0, 0), (.istore_n 0, 1, 0, 0, 0), (.iload_n 0, 1, 0, 0, 0), (.ldc_w 266, 3, 1, 858993459, 998), (.iand, 1, 0, 0, 0), (.iload_n 0, 1, 0, 0, 0), (.iconst 2, 1, 0, 0, 0), (.iushr, 1, 0, 0, 0), (.ldc_w 266, 3, 1, 858993459, 998), (.iand, 1, 0, 0, 0), (.iadd, 1, 0, 0, 0), (.istore_n 0, 1, 0, 0, 0), (.iload_n 0, 1, 0, 0, 0), (.iload_n 0, 1, 0, 0, 0), (.iconst 4, 1, 0, 0, 0), (.iushr, 1, 0, 0, 0), (.iadd, 1, 0, 0, 0), (.ldc_w 267, 3, 1, 252645135, 999), (.iand, 1, 0, 0, 0), (.istore_n 0, 1, 0, 0, 0), (.iload_n 0, 1, 0, 0, 0), (.iload_n 0, 1, 0, 0, 0), (.bipush 8, 2, 0, 0, 0), (.iushr, 1, 0, 0, 0), (.iadd, 1, 0, 0, 0), (.istore_n 0, 1, 0, 0, 0), (.iload_n 0, 1, 0, 0, 0), (.iload_n 0, 1, 0, 0, 0), (.bipush 16, 2, 0, 0, 0), (.iushr, 1, 0, 0, 0), (.iadd, 1, 0, 0, 0), (.istore_n 0, 1, 0, 0, 0), (.iload_n 0, 1, 0, 0, 0), (.bipush 63, 2, 0, 0, 0), (.iand, 1, 0, 0, 0), (.ireturn, 1, 0, 0, 0)])]
set_option maxRecDepth 20000 in
theorem ck_J6_bitCount_0f7a4 : en_ck 265 bs_J6_bitCount_0f7a4 = true := en_ckF_ok (J := (yJ6_bitCount_0f7a4, cJ6_bitCount_0f7a4, 1, some .int, 100, 1)) (q := (996, 995, 0, 20)) rfl rfl rfl (by decide +kernel)
def bs_J7_fill_53178 : en_Bs := [
  (0, [(.iconst 0, 1, 0, 0, 0), (.istore_n 2, 1, 0, 0, 0), (.aload_n 0, 1, 0, 0, 0), (.arraylength, 1, 0, 0, 0), (.istore_n 3, 1, 0, 0, 0)]),
  (5, [(.iload_n 2, 1, 0, 0, 0), (.iload_n 3, 1, 0, 0, 0), (.if_icmp .ge 13, 3, 20, 0, 0)]),
  (10, [(.aload_n 0, 1, 0, 0, 0), (.iload_n 2, 1, 0, 0, 0), (.iload_n 1, 1, 0, 0, 0), (.iastore, 1, 0, 0, 0), (.iinc 2 1, 3, 0, 0, 0), (.goto (-12), 3, 5, 0, 0)]),
  (20, [(.return_, 1, 0, 0, 0)])]
set_option maxRecDepth 20000 in
theorem ck_J7_fill_53178 : en_ck 266 bs_J7_fill_53178 = true := en_ckF_ok (J := (yJ7_fill_53178, cJ7_fill_53178, 4, none, 100, 1)) (q := (829, 828, 0, 18)) rfl rfl rfl (by decide +kernel)
