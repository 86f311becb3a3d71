def bs_X10_count : en_Bs := [
  (0, [(.iload_n 1, 1, 0, 0, 0), (.tableswitch 191 0 14 #[75, 83, 91, 99, 107, 115, 123, 131, 138, 145, 152, 159, 167, 175, 183], 75, 0, 0, 0)]),
  (76, [(.aload_n 0, 1, 0, 0, 0), (.getfield 10, 3, 10, 0, 408), (.getfield 112, 3, 0, 0, 86), (.ireturn, 1, 0, 0, 0)]),
  (84, [(.aload_n 0, 1, 0, 0, 0), (.getfield 10, 3, 10, 0, 408), (.getfield 159, 3, 0, 4, 106), (.ireturn, 1, 0, 0, 0)]),
  (92, [(.aload_n 0, 1, 0, 0, 0), (.getfield 10, 3, 10, 0, 408), (.getfield 180, 3, 0, 6, 110), (.ireturn, 1, 0, 0, 0)]),
  (100, [(.aload_n 0, 1, 0, 0, 0), (.getfield 10, 3, 10, 0, 408), (.getfield 269, 3, 0, 12, 124), (.ireturn, 1, 0, 0, 0)]),
  (108, [(.aload_n 0, 1, 0, 0, 0), (.invokevirtual 214, 3, 147, 1, 799)]),
  (112, [(.invokevirtual 307, 3, 32, 1, 1136)]),
  (115, [(.ireturn, 1, 0, 0, 0)]),
  (116, [(.aload_n 0, 1, 0, 0, 0), (.invokevirtual 214, 3, 147, 1, 799)]),
  (120, [(.invokevirtual 317, 3, 33, 1, 1164)]),
  (123, [(.ireturn, 1, 0, 0, 0)]),
  (124, [(.aload_n 0, 1, 0, 0, 0), (.getfield 27, 3, 10, 3, 411), (.getfield 168, 3, 8, 1, 171), (.ireturn, 1, 0, 0, 0)]),
  (132, [(.aload_n 0, 1, 0, 0, 0), (.getfield 94, 3, 10, 13, 421), (.iconst 1, 1, 0, 0, 0), (.iaload, 1, 0, 0, 0), (.ireturn, 1, 0, 0, 0)]),
  (139, [(.aload_n 0, 1, 0, 0, 0), (.getfield 94, 3, 10, 13, 421), (.iconst 2, 1, 0, 0, 0), (.iaload, 1, 0, 0, 0), (.ireturn, 1, 0, 0, 0)]),
  (146, [(.aload_n 0, 1, 0, 0, 0), (.getfield 94, 3, 10, 13, 421), (.iconst 3, 1, 0, 0, 0), (.iaload, 1, 0, 0, 0), (.ireturn, 1, 0, 0, 0)]),
  (153, [(.aload_n 0, 1, 0, 0, 0), (.getfield 94, 3, 10, 13, 421), (.iconst 5, 1, 0, 0, 0), (.iaload, 1, 0, 0, 0), (.ireturn, 1, 0, 0, 0)]),
  (160, [(.aload_n 0, 1, 0, 0, 0), (.getfield 94, 3, 10, 13, 421), (.bipush 6, 2, 0, 0, 0), (.iaload, 1, 0, 0, 0), (.ireturn, 1, 0, 0, 0)]),
  (168, [(.aload_n 0, 1, 0, 0, 0), (.getfield 10, 3, 10, 0, 408), (.getfield 198, 3, 0, 9, 114), (.ireturn, 1, 0, 0, 0)]),
  (176, [(.aload_n 0, 1, 0, 0, 0), (.getfield 10, 3, 10, 0, 408), (.getfield 162, 3, 0, 10, 117), (.ireturn, 1, 0, 0, 0)]),
  (184, [(.aload_n 0, 1, 0, 0, 0), (.getfield 10, 3, 10, 0, 408), (.getfield 165, 3, 0, 11, 120), (.ireturn, 1, 0, 0, 0)]),
  (192, [(.iconst (-1), 1, 0, 0, 0), (.ireturn, 1, 0, 0, 0)])]
set_option maxRecDepth 20000 in
theorem ck_X10_count : en_ck 142 bs_X10_count = true := en_ckF_ok (J := (yX10_count, cX10_count, 2, some .int, 10, 0)) (q := (1163, 1161, 1270, 1)) rfl rfl rfl (by decide +kernel)
def bs_X10_status : en_Bs := [
  (0, [(.aload_n 0, 1, 0, 0, 0), (.getfield 320, 3, 10, 17, 425), (.ireturn, 1, 0, 0, 0)])]
set_option maxRecDepth 20000 in
theorem ck_X10_status : en_ck 143 bs_X10_status = true := en_ckF_ok (J := (yX10_status, cX10_status, 1, some .int, 10, 0)) (q := (1171, 1169, 1278, 1)) rfl rfl rfl (by decide +kernel)
def bs_X10_refused : en_Bs := [
  (0, [(.aload_n 0, 1, 0, 0, 0), (.iload_n 1, 1, 0, 0, 0), (.putfield 320, 3, 10, 17, 425), (.iload_n 1, 1, 0, 0, 0), (.ineg, 1, 0, 0, 0), (.iconst 0, 1, 0, 0, 0), (.bipush 6, 2, 0, 0, 0), (.invokestatic 97, 3, 154, 3, 467)]),
  (13, [(.ifCond .eq 14, 3, 27, 0, 0)]),
  (16, [(.aload_n 0, 1, 0, 0, 0), (.getfield 94, 3, 10, 13, 421), (.iload_n 1, 1, 0, 0, 0), (.ineg, 1, 0, 0, 0), (.dup2, 1, 0, 0, 0), (.iaload, 1, 0, 0, 0), (.iconst 1, 1, 0, 0, 0), (.iadd, 1, 0, 0, 0), (.iastore, 1, 0, 0, 0)]),
  (27, [(.iload_n 1, 1, 0, 0, 0), (.ireturn, 1, 0, 0, 0)])]
set_option maxRecDepth 20000 in
theorem ck_X10_refused : en_ck 144 bs_X10_refused = true := en_ckF_ok (J := (yX10_refused, cX10_refused, 2, some .int, 10, 0)) (q := (479, 478, 0, 1)) rfl rfl rfl (by decide +kernel)
def bs_X10_accepted : en_Bs := [
  (0, [(.aload_n 0, 1, 0, 0, 0), (.iconst 0, 1, 0, 0, 0), (.putfield 320, 3, 10, 17, 425), (.iload_n 1, 1, 0, 0, 0), (.ireturn, 1, 0, 0, 0)])]
set_option maxRecDepth 20000 in
theorem ck_X10_accepted : en_ck 145 bs_X10_accepted = true := en_ckF_ok (J := (yX10_accepted, cX10_accepted, 2, some .int, 10, 0)) (q := (503, 502, 2, 1)) rfl rfl rfl (by decide +kernel)
def bs_X10_changed : en_Bs := [
  (0, [(.aload_n 0, 1, 0, 0, 0), (.iconst 0, 1, 0, 0, 0), (.putfield 323, 3, 10, 14, 422), (.aload_n 0, 1, 0, 0, 0), (.getfield 69, 3, 10, 8, 416), (.invokevirtual 327, 3, 84, 1, 484)]),
  (12, [(.aload_n 0, 1, 0, 0, 0), (.getfield 76, 3, 10, 9, 417), (.invokevirtual 330, 3, 80, 1, 488)]),
  (19, [(.aload_n 0, 1, 0, 0, 0), (.getfield 83, 3, 10, 10, 418), (.invokevirtual 331, 3, 38, 1, 492)]),
  (26, [(.return_, 1, 0, 0, 0)])]
set_option maxRecDepth 20000 in
theorem ck_X10_changed : en_ck 146 bs_X10_changed = true := en_ckF_ok (J := (yX10_changed, cX10_changed, 1, none, 10, 0)) (q := (483, 482, 1, 1)) rfl rfl rfl (by decide +kernel)
def bs_X10_dayNow : en_Bs := [
  (0, [(.aload_n 0, 1, 0, 0, 0), (.getfield 323, 3, 10, 14, 422), (.ifCond .ne 23, 3, 27, 0, 0)]),
  (7, [(.aload_n 0, 1, 0, 0, 0), (.getfield 57, 3, 10, 6, 414), (.iconst 0, 1, 0, 0, 0), (.invokevirtual 285, 3, 16, 2, 803)]),
  (15, [(.aload_n 0, 1, 0, 0, 0), (.getfield 57, 3, 10, 6, 414), (.invokevirtual 295, 3, 18, 1, 819)]),
  (22, [(.aload_n 0, 1, 0, 0, 0), (.iconst 1, 1, 0, 0, 0), (.putfield 323, 3, 10, 14, 422)]),
  (27, [(.aload_n 0, 1, 0, 0, 0), (.getfield 57, 3, 10, 6, 414), (.areturn, 1, 0, 0, 0)])]
set_option maxRecDepth 20000 in
theorem ck_X10_dayNow : en_ck 147 bs_X10_dayNow = true := en_ckF_ok (J := (yX10_dayNow, cX10_dayNow, 1, some (.object "LeftHands$Day"), 10, 0)) (q := (802, 801, 21, 1)) rfl rfl rfl (by decide +kernel)
def bs_X10_imageOf : en_Bs := [
  (0, [(.iload_n 1, 1, 0, 0, 0), (.iconst 0, 1, 0, 0, 0), (.iconst 1, 1, 0, 0, 0), (.invokestatic 97, 3, 154, 3, 467)]),
  (6, [(.ifCond .eq 12, 3, 18, 0, 0)]),
  (9, [(.aload_n 0, 1, 0, 0, 0), (.getfield 16, 3, 10, 1, 409), (.iload_n 1, 1, 0, 0, 0), (.aaload, 1, 0, 0, 0), (.goto 4, 3, 19, 0, 0)]),
  (18, [(.aconst_null, 1, 0, 0, 0)]),
  (19, [(.areturn, 1, 0, 0, 0)])]
set_option maxRecDepth 20000 in
theorem ck_X10_imageOf : en_ck 148 bs_X10_imageOf = true := en_ckF_ok (J := (yX10_imageOf, cX10_imageOf, 2, some (.object "LeftHands$Bazaar"), 10, 0)) (q := (1151, 1150, 50, 1)) rfl rfl rfl (by decide +kernel)
def bs_X10_whyNoLoad : en_Bs := [
  (0, [(.iload_n 1, 1, 0, 0, 0), (.iconst 1, 1, 0, 0, 0), (.bipush 9, 2, 0, 0, 0), (.invokestatic 97, 3, 154, 3, 467)]),
  (7, [(.ifCond .eq 37, 3, 44, 0, 0)]),
  (10, [(.iload 4, 2, 0, 0, 0), (.iconst 0, 1, 0, 0, 0), (.bipush 99, 2, 0, 0, 0), (.invokestatic 97, 3, 154, 3, 467)]),
  (18, [(.ifCond .eq 26, 3, 44, 0, 0)]),
  (21, [(.iload 5, 2, 0, 0, 0), (.iconst 0, 1, 0, 0, 0), (.bipush 9, 2, 0, 0, 0), (.invokestatic 97, 3, 154, 3, 467)]),
  (29, [(.ifCond .eq 15, 3, 44, 0, 0)]),
  (32, [(.iload 6, 2, 0, 0, 0), (.iconst 0, 1, 0, 0, 0), (.sipush 9999, 3, 0, 0, 0), (.invokestatic 97, 3, 154, 3, 467)]),
  (41, [(.ifCond .ne 5, 3, 46, 0, 0)]),
  (44, [(.iconst (-1), 1, 0, 0, 0), (.ireturn, 1, 0, 0, 0)]),
  (46, [(.aload_n 0, 1, 0, 0, 0), (.getfield 10, 3, 10, 0, 408), (.iload_n 2, 1, 0, 0, 0), (.invokevirtual 126, 3, 3, 2, 508)]),
  (54, [(.ifCond .eq 14, 3, 68, 0, 0)]),
  (57, [(.aload_n 0, 1, 0, 0, 0), (.getfield 10, 3, 10, 0, 408), (.iload_n 3, 1, 0, 0, 0), (.invokevirtual 126, 3, 3, 2, 508)]),
  (65, [(.ifCond .ne 6, 3, 71, 0, 0)]),
  (68, [(.bipush (-2), 2, 0, 0, 0), (.ireturn, 1, 0, 0, 0)]),
  (71, [(.aload_n 0, 1, 0, 0, 0), (.getfield 10, 3, 10, 0, 408), (.getfield 159, 3, 0, 4, 106), (.bipush 8, 2, 0, 0, 0), (.if_icmp .lt 8, 3, 88, 0, 0)]),
  (83, [(.bipush (-5), 2, 0, 0, 0), (.goto 4, 3, 89, 0, 0)]),
  (88, [(.iconst 0, 1, 0, 0, 0)]),
  (89, [(.ireturn, 1, 0, 0, 0)])]
set_option maxRecDepth 20000 in
theorem ck_X10_whyNoLoad : en_ck 149 bs_X10_whyNoLoad = true := en_ckF_ok (J := (yX10_whyNoLoad, cX10_whyNoLoad, 7, some .int, 10, 0)) (q := (528, 527, 3, 1)) rfl rfl rfl (by decide +kernel)
def bs_X10_addFromTape : en_Bs := [
  (0, [(.aload_n 0, 1, 0, 0, 0), (.getfield 27, 3, 10, 3, 411), (.iload_n 1, 1, 0, 0, 0), (.iconst 0, 1, 0, 0, 0), (.iadd, 1, 0, 0, 0), (.invokevirtual 332, 3, 94, 2, 581)]),
  (10, [(.istore_n 2, 1, 0, 0, 0), (.aload_n 0, 1, 0, 0, 0), (.getfield 27, 3, 10, 3, 411), (.iload_n 1, 1, 0, 0, 0), (.iconst 1, 1, 0, 0, 0), (.iadd, 1, 0, 0, 0), (.invokevirtual 332, 3, 94, 2, 581)]),
  (21, [(.istore_n 3, 1, 0, 0, 0), (.aload_n 0, 1, 0, 0, 0), (.getfield 27, 3, 10, 3, 411), (.iload_n 1, 1, 0, 0, 0), (.iconst 2, 1, 0, 0, 0), (.iadd, 1, 0, 0, 0), (.invokevirtual 332, 3, 94, 2, 581)]),
  (32, [(.istore 4, 2, 0, 0, 0), (.aload_n 0, 1, 0, 0, 0), (.getfield 27, 3, 10, 3, 411), (.iload_n 1, 1, 0, 0, 0), (.iconst 3, 1, 0, 0, 0), (.iadd, 1, 0, 0, 0), (.invokevirtual 332, 3, 94, 2, 581)]),
  (44, [(.istore 5, 2, 0, 0, 0), (.aload_n 0, 1, 0, 0, 0), (.getfield 27, 3, 10, 3, 411), (.iload_n 1, 1, 0, 0, 0), (.iconst 4, 1, 0, 0, 0), (.iadd, 1, 0, 0, 0), (.invokevirtual 332, 3, 94, 2, 581)]),
  (56, [(.istore 6, 2, 0, 0, 0), (.aload_n 0, 1, 0, 0, 0), (.getfield 27, 3, 10, 3, 411), (.iload_n 1, 1, 0, 0, 0), (.iconst 5, 1, 0, 0, 0), (.iadd, 1, 0, 0, 0), (.invokevirtual 332, 3, 94, 2, 581)]),
  (68, [(.istore 7, 2, 0, 0, 0), (.aload_n 0, 1, 0, 0, 0), (.iload_n 2, 1, 0, 0, 0), (.iload_n 3, 1, 0, 0, 0), (.iload 4, 2, 0, 0, 0), (.iload 5, 2, 0, 0, 0), (.iload 6, 2, 0, 0, 0), (.iload 7, 2, 0, 0, 0), (.invokevirtual 141, 3, 149, 7, 525)]),
  (84, [(.ifCond .eq 5, 3, 89, 0, 0)]),
  (87, [(.iconst 0, 1, 0, 0, 0), (.ireturn, 1, 0, 0, 0)]),
  (89, [(.aload_n 0, 1, 0, 0, 0), (.getfield 10, 3, 10, 0, 408), (.iload_n 2, 1, 0, 0, 0), (.iload_n 3, 1, 0, 0, 0), (.iload 4, 2, 0, 0, 0), (.iload 5, 2, 0, 0, 0), (.iload 6, 2, 0, 0, 0), (.iload 7, 2, 0, 0, 0), (.invokevirtual 145, 3, 6, 7, 529)]),
  (106, [(.pop, 1, 0, 0, 0), (.iconst 1, 1, 0, 0, 0), (.ireturn, 1, 0, 0, 0)])]
set_option maxRecDepth 20000 in
theorem ck_X10_addFromTape : en_ck 150 bs_X10_addFromTape = true := en_ckF_ok (J := (yX10_addFromTape, cX10_addFromTape, 8, some .boolean, 10, 0)) (q := (580, 579, 4, 1)) rfl rfl rfl (by decide +kernel)
def bs_X10_drawAfter : en_Bs := [
  (0, [(.iload_n 0, 1, 0, 0, 0), (.sipush 1103, 3, 0, 0, 0), (.imul, 1, 0, 0, 0), (.sipush 12345, 3, 0, 0, 0), (.iadd, 1, 0, 0, 0), (.ldc_w 334, 3, 1, 1000003, 1134), (.irem, 1, 0, 0, 0), (.ireturn, 1, 0, 0, 0)])]
set_option maxRecDepth 20000 in
theorem ck_X10_drawAfter : en_ck 151 bs_X10_drawAfter = true := en_ckF_ok (J := (yX10_drawAfter, cX10_drawAfter, 1, some .int, 10, 1)) (q := (1133, 1132, 0, 1)) rfl rfl rfl (by decide +kernel)
def bs_X10_isStrength : en_Bs := [
  (0, [(.iload_n 0, 1, 0, 0, 0), (.iconst 1, 1, 0, 0, 0), (.bipush 9, 2, 0, 0, 0), (.invokestatic 97, 3, 154, 3, 467)]),
  (7, [(.ireturn, 1, 0, 0, 0)])]
set_option maxRecDepth 20000 in
theorem ck_X10_isStrength : en_ck 152 bs_X10_isStrength = true := en_ckF_ok (J := (yX10_isStrength, cX10_isStrength, 1, some .boolean, 10, 1)) (q := (472, 471, 0, 1)) rfl rfl rfl (by decide +kernel)
def bs_X10_isFee : en_Bs := [
  (0, [(.iload_n 0, 1, 0, 0, 0), (.iconst 0, 1, 0, 0, 0), (.bipush 99, 2, 0, 0, 0), (.invokestatic 97, 3, 154, 3, 467)]),
  (7, [(.ireturn, 1, 0, 0, 0)])]
set_option maxRecDepth 20000 in
theorem ck_X10_isFee : en_ck 153 bs_X10_isFee = true := en_ckF_ok (J := (yX10_isFee, cX10_isFee, 1, some .boolean, 10, 1)) (q := (475, 474, 0, 1)) rfl rfl rfl (by decide +kernel)
def bs_X10_within : en_Bs := [
  (0, [(.iload_n 0, 1, 0, 0, 0), (.iload_n 1, 1, 0, 0, 0), (.if_icmp .lt 12, 3, 14, 0, 0)]),
  (5, [(.iload_n 0, 1, 0, 0, 0), (.iload_n 2, 1, 0, 0, 0), (.if_icmp .gt 7, 3, 14, 0, 0)]),
  (10, [(.iconst 1, 1, 0, 0, 0), (.goto 4, 3, 15, 0, 0)]),
  (14, [(.iconst 0, 1, 0, 0, 0)]),
  (15, [(.ireturn, 1, 0, 0, 0)])]
set_option maxRecDepth 20000 in
theorem ck_X10_within : en_ck 154 bs_X10_within = true := en_ckF_ok (J := (yX10_within, cX10_within, 3, some .boolean, 10, 1)) (q := (469, 468, 0, 1)) rfl rfl rfl (by decide +kernel)
def bs_X10_hasBit : en_Bs := [
  (0, [(.iload_n 0, 1, 0, 0, 0), (.iload_n 1, 1, 0, 0, 0), (.ishr, 1, 0, 0, 0), (.iconst 1, 1, 0, 0, 0), (.iand, 1, 0, 0, 0), (.ifCond .eq 7, 3, 12, 0, 0)]),
  (8, [(.iconst 1, 1, 0, 0, 0), (.goto 4, 3, 13, 0, 0)]),
  (12, [(.iconst 0, 1, 0, 0, 0)]),
  (13, [(.ireturn, 1, 0, 0, 0)])]
set_option maxRecDepth 20000 in
theorem ck_X10_hasBit : en_ck 155 bs_X10_hasBit = true := en_ckF_ok (J := (yX10_hasBit, cX10_hasBit, 2, some .boolean, 10, 1)) (q := (794, 793, 0, 1)) rfl rfl rfl (by decide +kernel)
def bs_X10_areBits : en_Bs := [
  (0, [(.iload_n 0, 1, 0, 0, 0), (.ifCond .lt 13, 3, 14, 0, 0)]),
  (4, [(.iload_n 0, 1, 0, 0, 0), (.iload_n 1, 1, 0, 0, 0), (.ishr, 1, 0, 0, 0), (.ifCond .ne 7, 3, 14, 0, 0)]),
  (10, [(.iconst 1, 1, 0, 0, 0), (.goto 4, 3, 15, 0, 0)]),
  (14, [(.iconst 0, 1, 0, 0, 0)]),
  (15, [(.ireturn, 1, 0, 0, 0)])]
set_option maxRecDepth 20000 in
theorem ck_X10_areBits : en_ck 156 bs_X10_areBits = true := en_ckF_ok (J := (yX10_areBits, cX10_areBits, 2, some .boolean, 10, 1)) (q := (787, 786, 0, 1)) rfl rfl rfl (by decide +kernel)
def bs_X10_exchange : en_Bs := [
  (0, [(.aload_n 0, 1, 0, 0, 0), (.iload_n 1, 1, 0, 0, 0), (.iaload, 1, 0, 0, 0), (.istore_n 3, 1, 0, 0, 0), (.aload_n 0, 1, 0, 0, 0), (.iload_n 1, 1, 0, 0, 0), (.aload_n 0, 1, 0, 0, 0), (.iload_n 2, 1, 0, 0, 0), (.iaload, 1, 0, 0, 0), (.iastore, 1, 0, 0, 0), (.aload_n 0, 1, 0, 0, 0), (.iload_n 2, 1, 0, 0, 0), (.iload_n 3, 1, 0, 0, 0), (.iastore, 1, 0, 0, 0), (.return_, 1, 0, 0, 0)])]
set_option maxRecDepth 20000 in
theorem ck_X10_exchange : en_ck 157 bs_X10_exchange = true := en_ckF_ok (J := (yX10_exchange, cX10_exchange, 4, none, 10, 1)) (q := (968, 967, 0, 1)) rfl rfl rfl (by decide +kernel)
def bs_X11_init : en_Bs := [
  (0, [(.aload_n 0, 1, 0, 0, 0), (.invokespecial 1, 3, 900, 0, 1177), (.aload_n 0, 1, 0, 0, 0), (.bipush 7, 2, 0, 0, 0), (.newarray .int, 2, 0, 0, 0), (.putfield 7, 3, 11, 2, 1192), (.aload_n 0, 1, 0, 0, 0), (.sipush 5510, 3, 0, 0, 0), (.newarray .int, 2, 0, 0, 0), (.putfield 13, 3, 11, 3, 1193), (.aload_n 0, 1, 0, 0, 0), (.sipush 11020, 3, 0, 0, 0), (.newarray .int, 2, 0, 0, 0), (.putfield 16, 3, 11, 4, 1194), (.aload_n 0, 1, 0, 0, 0), (.iconst 2, 1, 0, 0, 0), (.newarray .boolean, 2, 0, 0, 0), (.putfield 19, 3, 11, 5, 1195), (.aload_n 0, 1, 0, 0, 0), (.sipush 400, 3, 0, 0, 0), (.newarray .int, 2, 0, 0, 0), (.putfield 23, 3, 11, 7, 1197), (.aload_n 0, 1, 0, 0, 0), (.iconst (-1), 1, 0, 0, 0), (.putfield 26, 3, 11, 13, 1203), (.aload_n 0, 1, 0, 0, 0), (.bipush 96, 2, 0, 0, 0), (.newarray .int, 2, 0, 0, 0), (.putfield 30, 3, 11, 16, 1206), (.aload_n 0, 1, 0, 0, 0), (.sipush 400, 3, 0, 0, 0), (.newarray .int, 2, 0, 0, 0), (.putfield 33, 3, 11, 18, 1208), (.aload_n 0, 1, 0, 0, 0), (.sipush 400, 3, 0, 0, 0), (.newarray .int, 2, 0, 0, 0), (.putfield 36, 3, 11, 19, 1209), (.aload_n 0, 1, 0, 0, 0), (.sipush 400, 3, 0, 0, 0), (.newarray .int, 2, 0, 0, 0), (.putfield 39, 3, 11, 21, 1211), (.aload_n 0, 1, 0, 0, 0), (.sipush 400, 3, 0, 0, 0), (.newarray .int, 2, 0, 0, 0), (.putfield 42, 3, 11, 22, 1212), (.aload_n 0, 1, 0, 0, 0), (.bipush 9, 2, 0, 0, 0), (.newarray .long, 2, 0, 0, 0), (.dup, 1, 0, 0, 0), (.iconst 0, 1, 0, 0, 0), (.ldc2_w 45, 3, 0, 408612, 1178), (.lastore, 1, 0, 0, 0), (.dup, 1, 0, 0, 0), (.iconst 1, 1, 0, 0, 0), (.ldc2_w 47, 3, 0, 777297172, 1179), (.lastore, 1, 0, 0, 0), (.dup, 1, 0, 0, 0), (.iconst 2, 1, 0, 0, 0), (.ldc2_w 49, 3, 0, 8441477, 1180), (.lastore, 1, 0, 0, 0), (.dup, 1, 0, 0, 0), (.iconst 3, 1, 0, 0, 0), (.ldc2_w 51, 3, 0, 20579780, 1181), (.lastore, 1, 0, 0, 0), (.dup, 1, 0, 0, 0), (.iconst 4, 1, 0, 0, 0), (.ldc2_w 53, 3, 0, 398548, 1182), (.lastore, 1, 0, 0, 0), (.dup, 1, 0, 0, 0), (.iconst 5, 1, 0, 0, 0), (.ldc2_w 55, 3, 0, 446125701, 1183), (.lastore, 1, 0, 0, 0), (.dup, 1, 0, 0, 0), (.bipush 6, 2, 0, 0, 0), (.ldc2_w 57, 3, 0, 24159891, 1184), (.lastore, 1, 0, 0, 0), (.dup, 1, 0, 0, 0), (.bipush 7, 2, 0, 0, 0), (.ldc2_w 59, 3, 0, 674919554696, 1185), (.lastore, 1, 0, 0, 0), (.dup, 1, 0, 0, 0), (.bipush 8, 2, 0, 0, 0), (.ldc2_w 61, 3, 0, 52595, 1186), (.lastore, 1, 0, 0, 0), (.putfield 63, 3, 11, 25, 1215), (.aload_n 0, 1, 0, 0, 0), (.iconst 3, 1, 0, 0, 0), (.newarray .long, 2, 0, 0, 0), (.dup, 1, 0, 0, 0), (.iconst 0, 1, 0, 0, 0), (.ldc2_w 67, 3, 0, 6605428, 1187), (.lastore, 1, 0, 0, 0), (.dup, 1, 0, 0, 0), (.iconst 1, 1, 0, 0, 0), (.ldc2_w 69, 3, 0, 6309, 1188), (.lastore, 1, 0, 0, 0), (.dup, 1, 0, 0, 0), (.iconst 2, 1, 0, 0, 0), (.ldc2_w 71, 3, 0, 67155, 1189), (.lastore, 1, 0, 0, 0), (.putfield 73, 3, 11, 26, 1216), (.aload_n 0, 1, 0, 0, 0), (.bipush 13, 2, 0, 0, 0), (.newarray .long, 2, 0, 0, 0), (.putfield 76, 3, 11, 28, 1218), (.aload_n 0, 1, 0, 0, 0), (.sipush 400, 3, 0, 0, 0), (.newarray .long, 2, 0, 0, 0), (.putfield 79, 3, 11, 29, 1219), (.aload_n 0, 1, 0, 0, 0), (.bipush 12, 2, 0, 0, 0), (.newarray .int, 2, 0, 0, 0), (.putfield 82, 3, 11, 33, 1223), (.aload_n 0, 1, 0, 0, 0), (.bipush 12, 2, 0, 0, 0), (.newarray .int, 2, 0, 0, 0), (.putfield 85, 3, 11, 34, 1224), (.aload_n 0, 1, 0, 0, 0), (.bipush 8, 2, 0, 0, 0), (.newarray .int, 2, 0, 0, 0), (.putfield 88, 3, 11, 35, 1225), (.aload_n 0, 1, 0, 0, 0), (.bipush 13, 2, 0, 0, 0), (.newarray .int, 2, 0, 0, 0), (.putfield 91, 3, 11, 37, 1227), (.aload_n 0, 1, 0, 0, 0), (.bipush 8, 2, 0, 0, 0), (.newarray .int, 2, 0, 0, 0), (.putfield 94, 3, 11, 38, 1228), (.aload_n 0, 1, 0, 0, 0), (.bipush 8, 2, 0, 0, 0), (.newarray .int, 2, 0, 0, 0), (.putfield 97, 3, 11, 39, 1229), (.aload_n 0, 1, 0, 0, 0), (.bipush 8, 2, 0, 0, 0), (.newarray .int, 2, 0, 0, 0), (.putfield 100, 3, 11, 40, 1230), (.aload_n 0, 1, 0, 0, 0), (.bipush 8, 2, 0, 0, 0), (.newarray .int, 2, 0, 0, 0), (.putfield 103, 3, 11, 41, 1231), (.aload_n 0, 1, 0, 0, 0), (.bipush 8, 2, 0, 0, 0), (.newarray .int, 2, 0, 0, 0), (.putfield 106, 3, 11, 42, 1232), (.aload_n 0, 1, 0, 0, 0), (.bipush 8, 2, 0, 0, 0), (.newarray .boolean, 2, 0, 0, 0), (.putfield 109, 3, 11, 43, 1233), (.aload_n 0, 1, 0, 0, 0), (.sipush 800, 3, 0, 0, 0), (.newarray .int, 2, 0, 0, 0), (.putfield 112, 3, 11, 44, 1234), (.aload_n 0, 1, 0, 0, 0), (.bipush 8, 2, 0, 0, 0), (.newarray .int, 2, 0, 0, 0), (.putfield 115, 3, 11, 49, 1239), (.aload_n 0, 1, 0, 0, 0), (.bipush 8, 2, 0, 0, 0), (.newarray .int, 2, 0, 0, 0), (.putfield 118, 3, 11, 50, 1240), (.aload_n 0, 1, 0, 0, 0), (.getfield 13, 3, 11, 3, 1193), (.iconst 3, 1, 0, 0, 0), (.iconst (-1), 1, 0, 0, 0), (.iastore, 1, 0, 0, 0), (.aload_n 0, 1, 0, 0, 0), (.getfield 13, 3, 11, 3, 1193), (.iconst 5, 1, 0, 0, 0), (.bipush 60, 2, 0, 0, 0), (.iastore, 1, 0, 0, 0), (.aload_n 0, 1, 0, 0, 0), (.getfield 13, 3, 11, 3, 1193), (.bipush 6, 2, 0, 0, 0), (.iconst 2, 1, 0, 0, 0), (.iastore, 1, 0, 0, 0), (.return_, 1, 0, 0, 0)])]
set_option maxRecDepth 20000 in
theorem ck_X11_init : en_ck 158 bs_X11_init = true := en_ckF_ok (J := (yX11_init, cX11_init, 1, none, 11, 0)) (q := (1176, 1175, 0, 12)) rfl rfl rfl (by decide +kernel)
def bs_X11_in : en_Bs := [
  (0, [(.lload_n 0, 1, 0, 0, 0), (.lload_n 2, 1, 0, 0, 0), (.lcmp, 1, 0, 0, 0), (.ifCond .lt 14, 3, 17, 0, 0)]),
  (6, [(.lload_n 0, 1, 0, 0, 0), (.lload 4, 2, 0, 0, 0), (.lcmp, 1, 0, 0, 0), (.ifCond .gt 7, 3, 17, 0, 0)]),
  (13, [(.iconst 1, 1, 0, 0, 0), (.goto 4, 3, 18, 0, 0)]),
  (17, [(.iconst 0, 1, 0, 0, 0)]),
  (18, [(.ireturn, 1, 0, 0, 0)])]
set_option maxRecDepth 20000 in
theorem ck_X11_in : en_ck 159 bs_X11_in = true := en_ckF_ok (J := (yX11_in, cX11_in, 6, some .boolean, 11, 1)) (q := (1353, 1352, 0, 12)) rfl rfl rfl (by decide +kernel)
def bs_X11_is : en_Bs := [
  (0, [(.iload_n 0, 1, 0, 0, 0), (.iload_n 1, 1, 0, 0, 0), (.ishr, 1, 0, 0, 0), (.iconst 1, 1, 0, 0, 0), (.iand, 1, 0, 0, 0), (.iconst 1, 1, 0, 0, 0), (.if_icmp .ne 7, 3, 13, 0, 0)]),
  (9, [(.iconst 1, 1, 0, 0, 0), (.goto 4, 3, 14, 0, 0)]),
  (13, [(.iconst 0, 1, 0, 0, 0)]),
  (14, [(.ireturn, 1, 0, 0, 0)])]
set_option maxRecDepth 20000 in
theorem ck_X11_is : en_ck 160 bs_X11_is = true := en_ckF_ok (J := (yX11_is, cX11_is, 2, some .boolean, 11, 1)) (q := (1404, 1403, 0, 12)) rfl rfl rfl (by decide +kernel)
def bs_X11_bits : en_Bs := [
  (0, [(.iconst 0, 1, 0, 0, 0), (.istore_n 1, 1, 0, 0, 0), (.iconst 0, 1, 0, 0, 0), (.istore_n 2, 1, 0, 0, 0)]),
  (4, [(.iload_n 2, 1, 0, 0, 0), (.bipush 12, 2, 0, 0, 0), (.if_icmp .ge 17, 3, 24, 0, 0)]),
  (10, [(.iload_n 1, 1, 0, 0, 0), (.iload_n 0, 1, 0, 0, 0), (.iload_n 2, 1, 0, 0, 0), (.ishr, 1, 0, 0, 0), (.iconst 1, 1, 0, 0, 0), (.iand, 1, 0, 0, 0), (.iadd, 1, 0, 0, 0), (.istore_n 1, 1, 0, 0, 0), (.iinc 2 1, 3, 0, 0, 0), (.goto (-17), 3, 4, 0, 0)]),
  (24, [(.iload_n 1, 1, 0, 0, 0), (.ireturn, 1, 0, 0, 0)])]
set_option maxRecDepth 20000 in
theorem ck_X11_bits : en_ck 161 bs_X11_bits = true := en_ckF_ok (J := (yX11_bits, cX11_bits, 3, some .int, 11, 1)) (q := (1690, 1689, 0, 12)) rfl rfl rfl (by decide +kernel)
def bs_X11_tell : en_Bs := [
  (0, [(.aload_n 0, 1, 0, 0, 0), (.iload_n 1, 1, 0, 0, 0), (.ifCond .ge 7, 3, 9, 0, 0)]),
  (5, [(.iload_n 1, 1, 0, 0, 0), (.goto 4, 3, 10, 0, 0)]),
  (9, [(.iconst 0, 1, 0, 0, 0)]),
  (10, [(.putfield 124, 3, 11, 1, 1191), (.iload_n 1, 1, 0, 0, 0), (.ifCond .ge 14, 3, 28, 0, 0)]),
  (17, [(.aload_n 0, 1, 0, 0, 0), (.getfield 7, 3, 11, 2, 1192), (.iload_n 1, 1, 0, 0, 0), (.ineg, 1, 0, 0, 0), (.dup2, 1, 0, 0, 0), (.iaload, 1, 0, 0, 0), (.iconst 1, 1, 0, 0, 0), (.iadd, 1, 0, 0, 0), (.iastore, 1, 0, 0, 0)]),
  (28, [(.iload_n 1, 1, 0, 0, 0), (.ireturn, 1, 0, 0, 0)])]
set_option maxRecDepth 20000 in
theorem ck_X11_tell : en_ck 162 bs_X11_tell = true := en_ckF_ok (J := (yX11_tell, cX11_tell, 2, some .int, 11, 0)) (q := (1357, 1356, 51, 12)) rfl rfl rfl (by decide +kernel)
def bs_X11_was : en_Bs := [
  (0, [(.aload_n 0, 1, 0, 0, 0), (.iconst 0, 1, 0, 0, 0), (.putfield 124, 3, 11, 1, 1191), (.iload_n 1, 1, 0, 0, 0), (.ireturn, 1, 0, 0, 0)])]
set_option maxRecDepth 20000 in
theorem ck_X11_was : en_ck 163 bs_X11_was = true := en_ckF_ok (J := (yX11_was, cX11_was, 2, some .int, 11, 0)) (q := (1388, 1387, 54, 12)) rfl rfl rfl (by decide +kernel)
def bs_X11_change : en_Bs := [
  (0, [(.aload_n 0, 1, 0, 0, 0), (.getfield 13, 3, 11, 3, 1193), (.iload_n 1, 1, 0, 0, 0), (.iaload, 1, 0, 0, 0), (.istore_n 3, 1, 0, 0, 0), (.aload_n 0, 1, 0, 0, 0), (.getfield 13, 3, 11, 3, 1193), (.iload_n 1, 1, 0, 0, 0), (.iload_n 2, 1, 0, 0, 0), (.iastore, 1, 0, 0, 0), (.aload_n 0, 1, 0, 0, 0), (.iload_n 3, 1, 0, 0, 0), (.invokevirtual 127, 3, 163, 2, 1385)]),
  (19, [(.ireturn, 1, 0, 0, 0)])]
set_option maxRecDepth 20000 in
theorem ck_X11_change : en_ck 164 bs_X11_change = true := en_ckF_ok (J := (yX11_change, cX11_change, 4, some .int, 11, 0)) (q := (1384, 1383, 53, 12)) rfl rfl rfl (by decide +kernel)
def bs_X11_image : en_Bs := [
  (0, [(.aload_n 0, 1, 0, 0, 0), (.iconst 0, 1, 0, 0, 0), (.putfield 121, 3, 11, 0, 1190), (.iload_n 1, 1, 0, 0, 0), (.i2l, 1, 0, 0, 0), (.lconst 0, 1, 0, 0, 0), (.lconst 1, 1, 0, 0, 0), (.invokestatic 131, 3, 159, 3, 1351)]),
  (12, [(.ifCond .ne 9, 3, 21, 0, 0)]),
  (15, [(.aload_n 0, 1, 0, 0, 0), (.iconst (-1), 1, 0, 0, 0), (.invokevirtual 135, 3, 162, 2, 1354)]),
  (20, [(.ireturn, 1, 0, 0, 0)]),
  (21, [(.iconst 0, 1, 0, 0, 0), (.istore_n 2, 1, 0, 0, 0)]),
  (23, [(.iload_n 2, 1, 0, 0, 0), (.sipush 5510, 3, 0, 0, 0), (.if_icmp .ge 27, 3, 54, 0, 0)]),
  (30, [(.aload_n 0, 1, 0, 0, 0), (.getfield 16, 3, 11, 4, 1194), (.sipush 5510, 3, 0, 0, 0), (.iload_n 1, 1, 0, 0, 0), (.imul, 1, 0, 0, 0), (.iload_n 2, 1, 0, 0, 0), (.iadd, 1, 0, 0, 0), (.aload_n 0, 1, 0, 0, 0), (.getfield 13, 3, 11, 3, 1193), (.iload_n 2, 1, 0, 0, 0), (.iaload, 1, 0, 0, 0), (.iastore, 1, 0, 0, 0), (.iinc 2 1, 3, 0, 0, 0), (.goto (-28), 3, 23, 0, 0)]),
  (54, [(.aload_n 0, 1, 0, 0, 0), (.getfield 19, 3, 11, 5, 1195), (.iload_n 1, 1, 0, 0, 0), (.iconst 1, 1, 0, 0, 0), (.bastore, 1, 0, 0, 0), (.aload_n 0, 1, 0, 0, 0), (.iconst 0, 1, 0, 0, 0), (.invokevirtual 135, 3, 162, 2, 1354)]),
  (66, [(.ireturn, 1, 0, 0, 0)])]
set_option maxRecDepth 20000 in
theorem ck_X11_image : en_ck 165 bs_X11_image = true := en_ckF_ok (J := (yX11_image, cX11_image, 3, some .int, 11, 0)) (q := (1350, 1348, 1457, 12)) rfl rfl rfl (by decide +kernel)
def bs_X11_back : en_Bs := [
  (0, [(.aload_n 0, 1, 0, 0, 0), (.iconst 0, 1, 0, 0, 0), (.putfield 121, 3, 11, 0, 1190), (.iload_n 1, 1, 0, 0, 0), (.i2l, 1, 0, 0, 0), (.lconst 0, 1, 0, 0, 0), (.lconst 1, 1, 0, 0, 0), (.invokestatic 131, 3, 159, 3, 1351)]),
  (12, [(.ifCond .ne 9, 3, 21, 0, 0)]),
  (15, [(.aload_n 0, 1, 0, 0, 0), (.iconst (-1), 1, 0, 0, 0), (.invokevirtual 135, 3, 162, 2, 1354)]),
  (20, [(.ireturn, 1, 0, 0, 0)]),
  (21, [(.aload_n 0, 1, 0, 0, 0), (.getfield 19, 3, 11, 5, 1195), (.iload_n 1, 1, 0, 0, 0), (.baload, 1, 0, 0, 0), (.ifCond .ne 10, 3, 37, 0, 0)]),
  (30, [(.aload_n 0, 1, 0, 0, 0), (.bipush (-2), 2, 0, 0, 0), (.invokevirtual 135, 3, 162, 2, 1354)]),
  (36, [(.ireturn, 1, 0, 0, 0)]),
  (37, [(.iconst 0, 1, 0, 0, 0), (.istore_n 2, 1, 0, 0, 0)]),
  (39, [(.iload_n 2, 1, 0, 0, 0), (.sipush 5510, 3, 0, 0, 0), (.if_icmp .ge 27, 3, 70, 0, 0)]),
  (46, [(.aload_n 0, 1, 0, 0, 0), (.getfield 13, 3, 11, 3, 1193), (.iload_n 2, 1, 0, 0, 0), (.aload_n 0, 1, 0, 0, 0), (.getfield 16, 3, 11, 4, 1194), (.sipush 5510, 3, 0, 0, 0), (.iload_n 1, 1, 0, 0, 0), (.imul, 1, 0, 0, 0), (.iload_n 2, 1, 0, 0, 0), (.iadd, 1, 0, 0, 0), (.iaload, 1, 0, 0, 0), (.iastore, 1, 0, 0, 0), (.iinc 2 1, 3, 0, 0, 0), (.goto (-28), 3, 39, 0, 0)]),
  (70, [(.aload_n 0, 1, 0, 0, 0), (.iconst 0, 1, 0, 0, 0), (.invokevirtual 135, 3, 162, 2, 1354)]),
  (75, [(.ireturn, 1, 0, 0, 0)])]
set_option maxRecDepth 20000 in
theorem ck_X11_back : en_ck 166 bs_X11_back = true := en_ckF_ok (J := (yX11_back, cX11_back, 3, some .int, 11, 0)) (q := (1361, 1359, 1468, 12)) rfl rfl rfl (by decide +kernel)
def bs_X11_isStand : en_Bs := [
  (0, [(.iload_n 1, 1, 0, 0, 0), (.i2l, 1, 0, 0, 0), (.lconst 0, 1, 0, 0, 0), (.aload_n 0, 1, 0, 0, 0), (.getfield 13, 3, 11, 3, 1193), (.iconst 0, 1, 0, 0, 0), (.iaload, 1, 0, 0, 0), (.i2l, 1, 0, 0, 0), (.lconst 1, 1, 0, 0, 0), (.lsub, 1, 0, 0, 0), (.invokestatic 131, 3, 159, 3, 1351)]),
  (15, [(.ireturn, 1, 0, 0, 0)])]
set_option maxRecDepth 20000 in
theorem ck_X11_isStand : en_ck 167 bs_X11_isStand = true := en_ckF_ok (J := (yX11_isStand, cX11_isStand, 2, some .boolean, 11, 0)) (q := (1380, 1379, 52, 12)) rfl rfl rfl (by decide +kernel)
def bs_X11_isLoad : en_Bs := [
  (0, [(.iload_n 1, 1, 0, 0, 0), (.i2l, 1, 0, 0, 0), (.lconst 0, 1, 0, 0, 0), (.aload_n 0, 1, 0, 0, 0), (.getfield 13, 3, 11, 3, 1193), (.iconst 1, 1, 0, 0, 0), (.iaload, 1, 0, 0, 0), (.i2l, 1, 0, 0, 0), (.lconst 1, 1, 0, 0, 0), (.lsub, 1, 0, 0, 0), (.invokestatic 131, 3, 159, 3, 1351)]),
  (15, [(.ireturn, 1, 0, 0, 0)])]
set_option maxRecDepth 20000 in
theorem ck_X11_isLoad : en_ck 168 bs_X11_isLoad = true := en_ckF_ok (J := (yX11_isLoad, cX11_isLoad, 2, some .boolean, 11, 0)) (q := (1424, 1423, 58, 12)) rfl rfl rfl (by decide +kernel)
def bs_X11_ofStand : en_Bs := [
  (0, [(.aload_n 0, 1, 0, 0, 0), (.getfield 13, 3, 11, 3, 1193), (.bipush 10, 2, 0, 0, 0), (.iconst 3, 1, 0, 0, 0), (.iload_n 1, 1, 0, 0, 0), (.imul, 1, 0, 0, 0), (.iadd, 1, 0, 0, 0), (.iload_n 2, 1, 0, 0, 0), (.iadd, 1, 0, 0, 0), (.iaload, 1, 0, 0, 0), (.ireturn, 1, 0, 0, 0)])]
set_option maxRecDepth 20000 in
theorem ck_X11_ofStand : en_ck 169 bs_X11_ofStand = true := en_ckF_ok (J := (yX11_ofStand, cX11_ofStand, 3, some .int, 11, 0)) (q := (1401, 1400, 56, 12)) rfl rfl rfl (by decide +kernel)
def bs_X11_ofLoad : en_Bs := [
  (0, [(.aload_n 0, 1, 0, 0, 0), (.getfield 13, 3, 11, 3, 1193), (.bipush 46, 2, 0, 0, 0), (.bipush 6, 2, 0, 0, 0), (.iload_n 1, 1, 0, 0, 0), (.imul, 1, 0, 0, 0), (.iadd, 1, 0, 0, 0), (.iload_n 2, 1, 0, 0, 0), (.iadd, 1, 0, 0, 0), (.iaload, 1, 0, 0, 0), (.ireturn, 1, 0, 0, 0)])]
set_option maxRecDepth 20000 in
theorem ck_X11_ofLoad : en_ck 170 bs_X11_ofLoad = true := en_ckF_ok (J := (yX11_ofLoad, cX11_ofLoad, 3, some .int, 11, 0)) (q := (1429, 1428, 59, 12)) rfl rfl rfl (by decide +kernel)
def bs_X11_fits : en_Bs := [
  (0, [(.iload_n 0, 1, 0, 0, 0), (.tableswitch 59 0 2 #[27, 39, 49], 27, 0, 0, 0)]),
  (28, [(.iload_n 1, 1, 0, 0, 0), (.i2l, 1, 0, 0, 0), (.ldc2_w 138, 3, 0, 18446744073709551615, 1369), (.ldc2_w 140, 3, 0, 11, 1370), (.invokestatic 131, 3, 159, 3, 1351)]),
  (39, [(.ireturn, 1, 0, 0, 0)]),
  (40, [(.iload_n 1, 1, 0, 0, 0), (.i2l, 1, 0, 0, 0), (.lconst 1, 1, 0, 0, 0), (.ldc2_w 142, 3, 0, 9, 1371), (.invokestatic 131, 3, 159, 3, 1351)]),
  (49, [(.ireturn, 1, 0, 0, 0)]),
  (50, [(.iload_n 1, 1, 0, 0, 0), (.i2l, 1, 0, 0, 0), (.lconst 0, 1, 0, 0, 0), (.ldc2_w 144, 3, 0, 99, 1372), (.invokestatic 131, 3, 159, 3, 1351)]),
  (59, [(.ireturn, 1, 0, 0, 0)]),
  (60, [(.iconst 0, 1, 0, 0, 0), (.ireturn, 1, 0, 0, 0)])]
set_option maxRecDepth 20000 in
theorem ck_X11_fits : en_ck 171 bs_X11_fits = true := en_ckF_ok (J := (yX11_fits, cX11_fits, 2, some .boolean, 11, 1)) (q := (1368, 1367, 0, 12)) rfl rfl rfl (by decide +kernel)
def bs_X11_stand : en_Bs := [
  (0, [(.aload_n 0, 1, 0, 0, 0), (.iconst 0, 1, 0, 0, 0), (.putfield 121, 3, 11, 0, 1190), (.iconst 0, 1, 0, 0, 0), (.iload_n 1, 1, 0, 0, 0), (.invokestatic 146, 3, 171, 2, 1366)]),
  (10, [(.ifCond .eq 19, 3, 29, 0, 0)]),
  (13, [(.iconst 1, 1, 0, 0, 0), (.iload_n 2, 1, 0, 0, 0), (.invokestatic 146, 3, 171, 2, 1366)]),
  (18, [(.ifCond .eq 11, 3, 29, 0, 0)]),
  (21, [(.iconst 2, 1, 0, 0, 0), (.iload_n 3, 1, 0, 0, 0), (.invokestatic 146, 3, 171, 2, 1366)]),
  (26, [(.ifCond .ne 9, 3, 35, 0, 0)]),
  (29, [(.aload_n 0, 1, 0, 0, 0), (.iconst (-1), 1, 0, 0, 0), (.invokevirtual 135, 3, 162, 2, 1354)]),
  (34, [(.ireturn, 1, 0, 0, 0)]),
  (35, [(.aload_n 0, 1, 0, 0, 0), (.getfield 13, 3, 11, 3, 1193), (.iconst 0, 1, 0, 0, 0), (.iaload, 1, 0, 0, 0), (.istore 4, 2, 0, 0, 0), (.iload 4, 2, 0, 0, 0), (.bipush 12, 2, 0, 0, 0), (.if_icmp .ne 10, 3, 57, 0, 0)]),
  (50, [(.aload_n 0, 1, 0, 0, 0), (.bipush (-5), 2, 0, 0, 0), (.invokevirtual 135, 3, 162, 2, 1354)]),
  (56, [(.ireturn, 1, 0, 0, 0)]),
  (57, [(.aload_n 0, 1, 0, 0, 0), (.getfield 13, 3, 11, 3, 1193), (.bipush 10, 2, 0, 0, 0), (.iconst 3, 1, 0, 0, 0), (.iload 4, 2, 0, 0, 0), (.imul, 1, 0, 0, 0), (.iadd, 1, 0, 0, 0), (.iload_n 1, 1, 0, 0, 0), (.iastore, 1, 0, 0, 0), (.aload_n 0, 1, 0, 0, 0), (.getfield 13, 3, 11, 3, 1193), (.bipush 10, 2, 0, 0, 0), (.iconst 3, 1, 0, 0, 0), (.iload 4, 2, 0, 0, 0), (.imul, 1, 0, 0, 0), (.iadd, 1, 0, 0, 0), (.iconst 1, 1, 0, 0, 0), (.iadd, 1, 0, 0, 0), (.iload_n 2, 1, 0, 0, 0), (.iastore, 1, 0, 0, 0), (.aload_n 0, 1, 0, 0, 0), (.getfield 13, 3, 11, 3, 1193), (.bipush 10, 2, 0, 0, 0), (.iconst 3, 1, 0, 0, 0), (.iload 4, 2, 0, 0, 0), (.imul, 1, 0, 0, 0), (.iadd, 1, 0, 0, 0), (.iconst 2, 1, 0, 0, 0), (.iadd, 1, 0, 0, 0), (.iload_n 3, 1, 0, 0, 0), (.iastore, 1, 0, 0, 0), (.aload_n 0, 1, 0, 0, 0), (.getfield 13, 3, 11, 3, 1193), (.iconst 0, 1, 0, 0, 0), (.dup2, 1, 0, 0, 0), (.iaload, 1, 0, 0, 0), (.iconst 1, 1, 0, 0, 0), (.iadd, 1, 0, 0, 0), (.iastore, 1, 0, 0, 0), (.aload_n 0, 1, 0, 0, 0), (.iload 4, 2, 0, 0, 0), (.invokevirtual 135, 3, 162, 2, 1354)]),
  (116, [(.ireturn, 1, 0, 0, 0)])]
set_option maxRecDepth 20000 in
theorem ck_X11_stand : en_ck 172 bs_X11_stand = true := en_ckF_ok (J := (yX11_stand, cX11_stand, 5, some .int, 11, 0)) (q := (1365, 1363, 1472, 12)) rfl rfl rfl (by decide +kernel)
def bs_X11_put : en_Bs := [
  (0, [(.aload_n 0, 1, 0, 0, 0), (.iconst 0, 1, 0, 0, 0), (.putfield 121, 3, 11, 0, 1190), (.iload_n 2, 1, 0, 0, 0), (.iload_n 3, 1, 0, 0, 0), (.invokestatic 146, 3, 171, 2, 1366)]),
  (10, [(.ifCond .ne 9, 3, 19, 0, 0)]),
  (13, [(.aload_n 0, 1, 0, 0, 0), (.iconst (-1), 1, 0, 0, 0), (.invokevirtual 135, 3, 162, 2, 1354)]),
  (18, [(.ireturn, 1, 0, 0, 0)]),
  (19, [(.aload_n 0, 1, 0, 0, 0), (.iload_n 1, 1, 0, 0, 0), (.invokevirtual 150, 3, 167, 2, 1377)]),
  (24, [(.ifCond .eq 19, 3, 43, 0, 0)]),
  (27, [(.aload_n 0, 1, 0, 0, 0), (.bipush 10, 2, 0, 0, 0), (.iconst 3, 1, 0, 0, 0), (.iload_n 1, 1, 0, 0, 0), (.imul, 1, 0, 0, 0), (.iadd, 1, 0, 0, 0), (.iload_n 2, 1, 0, 0, 0), (.iadd, 1, 0, 0, 0), (.iload_n 3, 1, 0, 0, 0), (.invokevirtual 154, 3, 164, 3, 1381)]),
  (40, [(.goto 9, 3, 49, 0, 0)]),
  (43, [(.aload_n 0, 1, 0, 0, 0), (.bipush (-2), 2, 0, 0, 0), (.invokevirtual 135, 3, 162, 2, 1354)]),
  (49, [(.ireturn, 1, 0, 0, 0)])]
set_option maxRecDepth 20000 in
theorem ck_X11_put : en_ck 173 bs_X11_put = true := en_ckF_ok (J := (yX11_put, cX11_put, 4, some .int, 11, 0)) (q := (1376, 1374, 1483, 12)) rfl rfl rfl (by decide +kernel)
def bs_X11_nextOf : en_Bs := [
  (0, [(.aload_n 0, 1, 0, 0, 0), (.iload_n 1, 1, 0, 0, 0), (.iconst 0, 1, 0, 0, 0), (.invokevirtual 158, 3, 169, 3, 1398)]),
  (6, [(.istore_n 3, 1, 0, 0, 0), (.iconst 0, 1, 0, 0, 0), (.istore 4, 2, 0, 0, 0)]),
  (10, [(.iload 4, 2, 0, 0, 0), (.bipush 13, 2, 0, 0, 0), (.if_icmp .ge 34, 3, 48, 0, 0)]),
  (17, [(.aload_n 0, 1, 0, 0, 0), (.iload_n 3, 1, 0, 0, 0), (.invokevirtual 150, 3, 167, 2, 1377)]),
  (22, [(.ifCond .eq 26, 3, 48, 0, 0)]),
  (25, [(.iload_n 2, 1, 0, 0, 0), (.iload_n 3, 1, 0, 0, 0), (.invokestatic 161, 3, 160, 2, 1402)]),
  (30, [(.ifCond .ne 5, 3, 35, 0, 0)]),
  (33, [(.iload_n 3, 1, 0, 0, 0), (.ireturn, 1, 0, 0, 0)]),
  (35, [(.aload_n 0, 1, 0, 0, 0), (.iload_n 3, 1, 0, 0, 0), (.iconst 0, 1, 0, 0, 0), (.invokevirtual 158, 3, 169, 3, 1398)]),
  (41, [(.istore_n 3, 1, 0, 0, 0), (.iinc 4 1, 3, 0, 0, 0), (.goto (-35), 3, 10, 0, 0)]),
  (48, [(.iconst (-1), 1, 0, 0, 0), (.ireturn, 1, 0, 0, 0)])]
set_option maxRecDepth 20000 in
theorem ck_X11_nextOf : en_ck 174 bs_X11_nextOf = true := en_ckF_ok (J := (yX11_nextOf, cX11_nextOf, 5, some .int, 11, 0)) (q := (1397, 1396, 55, 12)) rfl rfl rfl (by decide +kernel)
def bs_X11_of : en_Bs := [
  (0, [(.aload_n 0, 1, 0, 0, 0), (.iconst 0, 1, 0, 0, 0), (.putfield 121, 3, 11, 0, 1190), (.aload_n 0, 1, 0, 0, 0), (.iload_n 1, 1, 0, 0, 0), (.invokevirtual 150, 3, 167, 2, 1377)]),
  (10, [(.ifCond .eq 15, 3, 25, 0, 0)]),
  (13, [(.iload_n 2, 1, 0, 0, 0), (.i2l, 1, 0, 0, 0), (.lconst 0, 1, 0, 0, 0), (.ldc2_w 164, 3, 0, 3, 1393), (.invokestatic 131, 3, 159, 3, 1351)]),
  (22, [(.ifCond .ne 5, 3, 27, 0, 0)]),
  (25, [(.iconst (-1), 1, 0, 0, 0), (.ireturn, 1, 0, 0, 0)]),
  (27, [(.iload_n 2, 1, 0, 0, 0), (.iconst 3, 1, 0, 0, 0), (.if_icmp .ne 12, 3, 41, 0, 0)]),
  (32, [(.aload_n 0, 1, 0, 0, 0), (.iload_n 1, 1, 0, 0, 0), (.iconst 0, 1, 0, 0, 0), (.invokevirtual 166, 3, 174, 3, 1394)]),
  (38, [(.goto 9, 3, 47, 0, 0)]),
  (41, [(.aload_n 0, 1, 0, 0, 0), (.iload_n 1, 1, 0, 0, 0), (.iload_n 2, 1, 0, 0, 0), (.invokevirtual 158, 3, 169, 3, 1398)]),
  (47, [(.ireturn, 1, 0, 0, 0)])]
set_option maxRecDepth 20000 in
theorem ck_X11_of : en_ck 175 bs_X11_of = true := en_ckF_ok (J := (yX11_of, cX11_of, 3, some .int, 11, 0)) (q := (1392, 1390, 1499, 12)) rfl rfl rfl (by decide +kernel)
def bs_X11_isLoadLike : en_Bs := [
  (0, [(.iload_n 0, 1, 0, 0, 0), (.i2l, 1, 0, 0, 0), (.lconst 1, 1, 0, 0, 0), (.ldc2_w 142, 3, 0, 9, 1371), (.invokestatic 131, 3, 159, 3, 1351)]),
  (9, [(.ifCond .eq 43, 3, 52, 0, 0)]),
  (12, [(.iload_n 1, 1, 0, 0, 0), (.i2l, 1, 0, 0, 0), (.lconst 0, 1, 0, 0, 0), (.ldc2_w 144, 3, 0, 99, 1372), (.invokestatic 131, 3, 159, 3, 1351)]),
  (21, [(.ifCond .eq 31, 3, 52, 0, 0)]),
  (24, [(.iload_n 2, 1, 0, 0, 0), (.i2l, 1, 0, 0, 0), (.lconst 0, 1, 0, 0, 0), (.ldc2_w 142, 3, 0, 9, 1371), (.invokestatic 131, 3, 159, 3, 1351)]),
  (33, [(.ifCond .eq 19, 3, 52, 0, 0)]),
  (36, [(.iload_n 3, 1, 0, 0, 0), (.i2l, 1, 0, 0, 0), (.lconst 0, 1, 0, 0, 0), (.ldc2_w 169, 3, 0, 9999, 1412), (.invokestatic 131, 3, 159, 3, 1351)]),
  (45, [(.ifCond .eq 7, 3, 52, 0, 0)]),
  (48, [(.iconst 1, 1, 0, 0, 0), (.goto 4, 3, 53, 0, 0)]),
  (52, [(.iconst 0, 1, 0, 0, 0)]),
  (53, [(.ireturn, 1, 0, 0, 0)])]
set_option maxRecDepth 20000 in
theorem ck_X11_isLoadLike : en_ck 176 bs_X11_isLoadLike = true := en_ckF_ok (J := (yX11_isLoadLike, cX11_isLoadLike, 4, some .boolean, 11, 1)) (q := (1411, 1410, 0, 12)) rfl rfl rfl (by decide +kernel)
def bs_X11_addLoad : en_Bs := [
  (0, [(.bipush 46, 2, 0, 0, 0), (.bipush 6, 2, 0, 0, 0), (.aload_n 0, 1, 0, 0, 0), (.getfield 13, 3, 11, 3, 1193), (.iconst 1, 1, 0, 0, 0), (.iaload, 1, 0, 0, 0), (.imul, 1, 0, 0, 0), (.iadd, 1, 0, 0, 0), (.istore 7, 2, 0, 0, 0), (.aload_n 0, 1, 0, 0, 0), (.getfield 13, 3, 11, 3, 1193), (.iload 7, 2, 0, 0, 0), (.iload_n 1, 1, 0, 0, 0), (.iastore, 1, 0, 0, 0), (.aload_n 0, 1, 0, 0, 0), (.getfield 13, 3, 11, 3, 1193), (.iload 7, 2, 0, 0, 0), (.iconst 1, 1, 0, 0, 0), (.iadd, 1, 0, 0, 0), (.iload_n 2, 1, 0, 0, 0), (.iastore, 1, 0, 0, 0), (.aload_n 0, 1, 0, 0, 0), (.getfield 13, 3, 11, 3, 1193), (.iload 7, 2, 0, 0, 0), (.iconst 2, 1, 0, 0, 0), (.iadd, 1, 0, 0, 0), (.iload_n 3, 1, 0, 0, 0), (.iastore, 1, 0, 0, 0), (.aload_n 0, 1, 0, 0, 0), (.getfield 13, 3, 11, 3, 1193), (.iload 7, 2, 0, 0, 0), (.iconst 3, 1, 0, 0, 0), (.iadd, 1, 0, 0, 0), (.iload 4, 2, 0, 0, 0), (.iastore, 1, 0, 0, 0), (.aload_n 0, 1, 0, 0, 0), (.getfield 13, 3, 11, 3, 1193), (.iload 7, 2, 0, 0, 0), (.iconst 4, 1, 0, 0, 0), (.iadd, 1, 0, 0, 0), (.iload 5, 2, 0, 0, 0), (.iastore, 1, 0, 0, 0), (.aload_n 0, 1, 0, 0, 0), (.getfield 13, 3, 11, 3, 1193), (.iload 7, 2, 0, 0, 0), (.iconst 5, 1, 0, 0, 0), (.iadd, 1, 0, 0, 0), (.iload 6, 2, 0, 0, 0), (.iastore, 1, 0, 0, 0), (.aload_n 0, 1, 0, 0, 0), (.getfield 13, 3, 11, 3, 1193), (.iconst 1, 1, 0, 0, 0), (.dup2, 1, 0, 0, 0), (.iaload, 1, 0, 0, 0), (.iconst 1, 1, 0, 0, 0), (.iadd, 1, 0, 0, 0), (.iastore, 1, 0, 0, 0), (.return_, 1, 0, 0, 0)])]
set_option maxRecDepth 20000 in
theorem ck_X11_addLoad : en_ck 177 bs_X11_addLoad = true := en_ckF_ok (J := (yX11_addLoad, cX11_addLoad, 8, none, 11, 0)) (q := (1416, 1415, 57, 12)) rfl rfl rfl (by decide +kernel)
def bs_X11_load : en_Bs := [
  (0, [(.aload_n 0, 1, 0, 0, 0), (.iconst 0, 1, 0, 0, 0), (.putfield 121, 3, 11, 0, 1190), (.iload_n 1, 1, 0, 0, 0), (.iload 4, 2, 0, 0, 0), (.iload 5, 2, 0, 0, 0), (.iload 6, 2, 0, 0, 0), (.invokestatic 171, 3, 176, 4, 1409)]),
  (15, [(.ifCond .ne 9, 3, 24, 0, 0)]),
  (18, [(.aload_n 0, 1, 0, 0, 0), (.iconst (-1), 1, 0, 0, 0), (.invokevirtual 135, 3, 162, 2, 1354)]),
  (23, [(.ireturn, 1, 0, 0, 0)]),
  (24, [(.aload_n 0, 1, 0, 0, 0), (.iload_n 2, 1, 0, 0, 0), (.invokevirtual 150, 3, 167, 2, 1377)]),
  (29, [(.ifCond .eq 11, 3, 40, 0, 0)]),
  (32, [(.aload_n 0, 1, 0, 0, 0), (.iload_n 3, 1, 0, 0, 0), (.invokevirtual 150, 3, 167, 2, 1377)]),
  (37, [(.ifCond .ne 10, 3, 47, 0, 0)]),
  (40, [(.aload_n 0, 1, 0, 0, 0), (.bipush (-2), 2, 0, 0, 0), (.invokevirtual 135, 3, 162, 2, 1354)]),
  (46, [(.ireturn, 1, 0, 0, 0)]),
  (47, [(.aload_n 0, 1, 0, 0, 0), (.getfield 13, 3, 11, 3, 1193), (.iconst 1, 1, 0, 0, 0), (.iaload, 1, 0, 0, 0), (.bipush 8, 2, 0, 0, 0), (.if_icmp .ne 10, 3, 65, 0, 0)]),
  (58, [(.aload_n 0, 1, 0, 0, 0), (.bipush (-5), 2, 0, 0, 0), (.invokevirtual 135, 3, 162, 2, 1354)]),
  (64, [(.ireturn, 1, 0, 0, 0)]),
  (65, [(.aload_n 0, 1, 0, 0, 0), (.iload_n 1, 1, 0, 0, 0), (.iload_n 2, 1, 0, 0, 0), (.iload_n 3, 1, 0, 0, 0), (.iload 4, 2, 0, 0, 0), (.iload 5, 2, 0, 0, 0), (.iload 6, 2, 0, 0, 0), (.invokevirtual 175, 3, 177, 7, 1413)]),
  (78, [(.aload_n 0, 1, 0, 0, 0), (.aload_n 0, 1, 0, 0, 0), (.getfield 13, 3, 11, 3, 1193), (.iconst 1, 1, 0, 0, 0), (.iaload, 1, 0, 0, 0), (.iconst 1, 1, 0, 0, 0), (.isub, 1, 0, 0, 0), (.invokevirtual 135, 3, 162, 2, 1354)]),
  (90, [(.ireturn, 1, 0, 0, 0)])]
set_option maxRecDepth 20000 in
theorem ck_X11_load : en_ck 178 bs_X11_load = true := en_ckF_ok (J := (yX11_load, cX11_load, 7, some .int, 11, 0)) (q := (1408, 1406, 1515, 12)) rfl rfl rfl (by decide +kernel)
def bs_X11_fact : en_Bs := [
  (0, [(.aload_n 0, 1, 0, 0, 0), (.iconst 0, 1, 0, 0, 0), (.putfield 121, 3, 11, 0, 1190), (.aload_n 0, 1, 0, 0, 0), (.iload_n 1, 1, 0, 0, 0), (.invokevirtual 179, 3, 168, 2, 1421)]),
  (10, [(.ifCond .eq 24, 3, 34, 0, 0)]),
  (13, [(.iload_n 2, 1, 0, 0, 0), (.i2l, 1, 0, 0, 0), (.lconst 0, 1, 0, 0, 0), (.ldc2_w 182, 3, 0, 5, 1425), (.invokestatic 131, 3, 159, 3, 1351)]),
  (22, [(.ifCond .eq 12, 3, 34, 0, 0)]),
  (25, [(.aload_n 0, 1, 0, 0, 0), (.iload_n 1, 1, 0, 0, 0), (.iload_n 2, 1, 0, 0, 0), (.invokevirtual 184, 3, 170, 3, 1426)]),
  (31, [(.goto 4, 3, 35, 0, 0)]),
  (34, [(.iconst (-1), 1, 0, 0, 0)]),
  (35, [(.ireturn, 1, 0, 0, 0)])]
set_option maxRecDepth 20000 in
theorem ck_X11_fact : en_ck 179 bs_X11_fact = true := en_ckF_ok (J := (yX11_fact, cX11_fact, 3, some .int, 11, 0)) (q := (1420, 1418, 1527, 12)) rfl rfl rfl (by decide +kernel)
def bs_X11_drop : en_Bs := [
  (0, [(.aload_n 0, 1, 0, 0, 0), (.iconst 0, 1, 0, 0, 0), (.putfield 121, 3, 11, 0, 1190), (.aload_n 0, 1, 0, 0, 0), (.iload_n 1, 1, 0, 0, 0), (.invokevirtual 179, 3, 168, 2, 1421)]),
  (10, [(.ifCond .ne 10, 3, 20, 0, 0)]),
  (13, [(.aload_n 0, 1, 0, 0, 0), (.bipush (-2), 2, 0, 0, 0), (.invokevirtual 135, 3, 162, 2, 1354)]),
  (19, [(.ireturn, 1, 0, 0, 0)]),
  (20, [(.bipush 46, 2, 0, 0, 0), (.bipush 6, 2, 0, 0, 0), (.iload_n 1, 1, 0, 0, 0), (.imul, 1, 0, 0, 0), (.iadd, 1, 0, 0, 0), (.istore_n 2, 1, 0, 0, 0)]),
  (28, [(.iload_n 2, 1, 0, 0, 0), (.bipush 88, 2, 0, 0, 0), (.if_icmp .ge 24, 3, 55, 0, 0)]),
  (34, [(.aload_n 0, 1, 0, 0, 0), (.getfield 13, 3, 11, 3, 1193), (.iload_n 2, 1, 0, 0, 0), (.aload_n 0, 1, 0, 0, 0), (.getfield 13, 3, 11, 3, 1193), (.iload_n 2, 1, 0, 0, 0), (.bipush 6, 2, 0, 0, 0), (.iadd, 1, 0, 0, 0), (.iaload, 1, 0, 0, 0), (.iastore, 1, 0, 0, 0), (.iinc 2 1, 3, 0, 0, 0), (.goto (-24), 3, 28, 0, 0)]),
  (55, [(.aload_n 0, 1, 0, 0, 0), (.getfield 13, 3, 11, 3, 1193), (.iconst 1, 1, 0, 0, 0), (.dup2, 1, 0, 0, 0), (.iaload, 1, 0, 0, 0), (.iconst 1, 1, 0, 0, 0), (.isub, 1, 0, 0, 0), (.iastore, 1, 0, 0, 0), (.aload_n 0, 1, 0, 0, 0), (.aload_n 0, 1, 0, 0, 0), (.getfield 13, 3, 11, 3, 1193), (.iconst 1, 1, 0, 0, 0), (.iaload, 1, 0, 0, 0), (.invokevirtual 135, 3, 162, 2, 1354)]),
  (75, [(.ireturn, 1, 0, 0, 0)])]
set_option maxRecDepth 20000 in
theorem ck_X11_drop : en_ck 180 bs_X11_drop = true := en_ckF_ok (J := (yX11_drop, cX11_drop, 3, some .int, 11, 0)) (q := (1433, 1431, 1540, 12)) rfl rfl rfl (by decide +kernel)
def bs_X11_terms : en_Bs := [
  (0, [(.aload_n 0, 1, 0, 0, 0), (.iconst 0, 1, 0, 0, 0), (.putfield 121, 3, 11, 0, 1190), (.iload_n 1, 1, 0, 0, 0), (.ifCond .ne 15, 3, 21, 0, 0)]),
  (9, [(.iload_n 2, 1, 0, 0, 0), (.i2l, 1, 0, 0, 0), (.lconst 0, 1, 0, 0, 0), (.ldc2_w 144, 3, 0, 99, 1372), (.invokestatic 131, 3, 159, 3, 1351)]),
  (18, [(.goto 25, 3, 43, 0, 0)]),
  (21, [(.iload_n 1, 1, 0, 0, 0), (.iconst 1, 1, 0, 0, 0), (.if_icmp .ne 19, 3, 42, 0, 0)]),
  (26, [(.iload_n 2, 1, 0, 0, 0), (.i2l, 1, 0, 0, 0), (.lconst 1, 1, 0, 0, 0), (.ldc2_w 187, 3, 0, 4, 1438), (.invokestatic 131, 3, 159, 3, 1351)]),
  (35, [(.ifCond .eq 7, 3, 42, 0, 0)]),
  (38, [(.iconst 1, 1, 0, 0, 0), (.goto 4, 3, 43, 0, 0)]),
  (42, [(.iconst 0, 1, 0, 0, 0)]),
  (43, [(.istore_n 3, 1, 0, 0, 0), (.iload_n 3, 1, 0, 0, 0), (.ifCond .eq 14, 3, 59, 0, 0)]),
  (48, [(.aload_n 0, 1, 0, 0, 0), (.iconst 5, 1, 0, 0, 0), (.iload_n 1, 1, 0, 0, 0), (.iadd, 1, 0, 0, 0), (.iload_n 2, 1, 0, 0, 0), (.invokevirtual 154, 3, 164, 3, 1381)]),
  (56, [(.goto 8, 3, 64, 0, 0)]),
  (59, [(.aload_n 0, 1, 0, 0, 0), (.iconst (-1), 1, 0, 0, 0), (.invokevirtual 135, 3, 162, 2, 1354)]),
  (64, [(.ireturn, 1, 0, 0, 0)])]
set_option maxRecDepth 20000 in
theorem ck_X11_terms : en_ck 181 bs_X11_terms = true := en_ckF_ok (J := (yX11_terms, cX11_terms, 4, some .int, 11, 0)) (q := (1437, 1435, 1544, 12)) rfl rfl rfl (by decide +kernel)
def bs_X11_row : en_Bs := [
  (0, [(.aload_n 0, 1, 0, 0, 0), (.iconst 0, 1, 0, 0, 0), (.putfield 121, 3, 11, 0, 1190), (.aload_n 0, 1, 0, 0, 0), (.getfield 189, 3, 11, 8, 1198), (.istore_n 1, 1, 0, 0, 0), (.aload_n 0, 1, 0, 0, 0), (.iconst 0, 1, 0, 0, 0), (.putfield 189, 3, 11, 8, 1198), (.iload_n 1, 1, 0, 0, 0), (.ifCond .ne 10, 3, 26, 0, 0)]),
  (19, [(.aload_n 0, 1, 0, 0, 0), (.bipush (-6), 2, 0, 0, 0), (.invokevirtual 135, 3, 162, 2, 1354)]),
  (25, [(.ireturn, 1, 0, 0, 0)]),
  (26, [(.aload_n 0, 1, 0, 0, 0), (.iconst 0, 1, 0, 0, 0), (.putfield 192, 3, 11, 6, 1196), (.iconst 0, 1, 0, 0, 0), (.istore_n 2, 1, 0, 0, 0), (.iconst 0, 1, 0, 0, 0), (.istore_n 3, 1, 0, 0, 0)]),
  (35, [(.iload_n 3, 1, 0, 0, 0), (.iload_n 1, 1, 0, 0, 0), (.if_icmp .ge 183, 3, 220, 0, 0)]),
  (40, [(.iload_n 3, 1, 0, 0, 0), (.iconst 5, 1, 0, 0, 0), (.iadd, 1, 0, 0, 0), (.iload_n 1, 1, 0, 0, 0), (.if_icmp .ge 18, 3, 62, 0, 0)]),
  (47, [(.aload_n 0, 1, 0, 0, 0), (.getfield 13, 3, 11, 3, 1193), (.iconst 1, 1, 0, 0, 0), (.iaload, 1, 0, 0, 0), (.bipush 8, 2, 0, 0, 0), (.if_icmp .ge 7, 3, 62, 0, 0)]),
  (58, [(.iconst 1, 1, 0, 0, 0), (.goto 4, 3, 63, 0, 0)]),
  (62, [(.iconst 0, 1, 0, 0, 0)]),
  (63, [(.istore 4, 2, 0, 0, 0), (.iload 4, 2, 0, 0, 0), (.ifCond .eq 73, 3, 140, 0, 0)]),
  (70, [(.aload_n 0, 1, 0, 0, 0), (.getfield 23, 3, 11, 7, 1197), (.iload_n 3, 1, 0, 0, 0), (.iaload, 1, 0, 0, 0), (.aload_n 0, 1, 0, 0, 0), (.getfield 23, 3, 11, 7, 1197), (.iload_n 3, 1, 0, 0, 0), (.iconst 3, 1, 0, 0, 0), (.iadd, 1, 0, 0, 0), (.iaload, 1, 0, 0, 0), (.aload_n 0, 1, 0, 0, 0), (.getfield 23, 3, 11, 7, 1197), (.iload_n 3, 1, 0, 0, 0), (.iconst 4, 1, 0, 0, 0), (.iadd, 1, 0, 0, 0), (.iaload, 1, 0, 0, 0), (.aload_n 0, 1, 0, 0, 0), (.getfield 23, 3, 11, 7, 1197), (.iload_n 3, 1, 0, 0, 0), (.iconst 5, 1, 0, 0, 0), (.iadd, 1, 0, 0, 0), (.iaload, 1, 0, 0, 0), (.invokestatic 171, 3, 176, 4, 1409)]),
  (103, [(.ifCond .eq 37, 3, 140, 0, 0)]),
  (106, [(.aload_n 0, 1, 0, 0, 0), (.aload_n 0, 1, 0, 0, 0), (.getfield 23, 3, 11, 7, 1197), (.iload_n 3, 1, 0, 0, 0), (.iconst 1, 1, 0, 0, 0), (.iadd, 1, 0, 0, 0), (.iaload, 1, 0, 0, 0), (.invokevirtual 150, 3, 167, 2, 1377)]),
  (118, [(.ifCond .eq 22, 3, 140, 0, 0)]),
  (121, [(.aload_n 0, 1, 0, 0, 0), (.aload_n 0, 1, 0, 0, 0), (.getfield 23, 3, 11, 7, 1197), (.iload_n 3, 1, 0, 0, 0), (.iconst 2, 1, 0, 0, 0), (.iadd, 1, 0, 0, 0), (.iaload, 1, 0, 0, 0), (.invokevirtual 150, 3, 167, 2, 1377)]),
  (133, [(.ifCond .eq 7, 3, 140, 0, 0)]),
  (136, [(.iconst 1, 1, 0, 0, 0), (.goto 4, 3, 141, 0, 0)]),
  (140, [(.iconst 0, 1, 0, 0, 0)]),
  (141, [(.istore 4, 2, 0, 0, 0), (.iload 4, 2, 0, 0, 0), (.ifCond .eq 59, 3, 204, 0, 0)]),
  (148, [(.aload_n 0, 1, 0, 0, 0), (.aload_n 0, 1, 0, 0, 0), (.getfield 23, 3, 11, 7, 1197), (.iload_n 3, 1, 0, 0, 0), (.iaload, 1, 0, 0, 0), (.aload_n 0, 1, 0, 0, 0), (.getfield 23, 3, 11, 7, 1197), (.iload_n 3, 1, 0, 0, 0), (.iconst 1, 1, 0, 0, 0), (.iadd, 1, 0, 0, 0), (.iaload, 1, 0, 0, 0), (.aload_n 0, 1, 0, 0, 0), (.getfield 23, 3, 11, 7, 1197), (.iload_n 3, 1, 0, 0, 0), (.iconst 2, 1, 0, 0, 0), (.iadd, 1, 0, 0, 0), (.iaload, 1, 0, 0, 0), (.aload_n 0, 1, 0, 0, 0), (.getfield 23, 3, 11, 7, 1197), (.iload_n 3, 1, 0, 0, 0), (.iconst 3, 1, 0, 0, 0), (.iadd, 1, 0, 0, 0), (.iaload, 1, 0, 0, 0), (.aload_n 0, 1, 0, 0, 0), (.getfield 23, 3, 11, 7, 1197), (.iload_n 3, 1, 0, 0, 0), (.iconst 4, 1, 0, 0, 0), (.iadd, 1, 0, 0, 0), (.iaload, 1, 0, 0, 0), (.aload_n 0, 1, 0, 0, 0), (.getfield 23, 3, 11, 7, 1197), (.iload_n 3, 1, 0, 0, 0), (.iconst 5, 1, 0, 0, 0), (.iadd, 1, 0, 0, 0), (.iaload, 1, 0, 0, 0), (.invokevirtual 175, 3, 177, 7, 1413)]),
  (198, [(.iinc 2 1, 3, 0, 0, 0), (.goto 13, 3, 214, 0, 0)]),
  (204, [(.aload_n 0, 1, 0, 0, 0), (.dup, 1, 0, 0, 0), (.getfield 192, 3, 11, 6, 1196), (.iconst 1, 1, 0, 0, 0), (.iadd, 1, 0, 0, 0), (.putfield 192, 3, 11, 6, 1196)]),
  (214, [(.iinc 3 6, 3, 0, 0, 0), (.goto (-182), 3, 35, 0, 0)]),
  (220, [(.aload_n 0, 1, 0, 0, 0), (.iload_n 2, 1, 0, 0, 0), (.invokevirtual 135, 3, 162, 2, 1354)]),
  (225, [(.ireturn, 1, 0, 0, 0)])]
set_option maxRecDepth 20000 in
theorem ck_X11_row : en_ck 182 bs_X11_row = true := en_ckF_ok (J := (yX11_row, cX11_row, 5, some .int, 11, 0)) (q := (1442, 1440, 1549, 12)) rfl rfl rfl (by decide +kernel)
def bs_X11_dropped : en_Bs := [
  (0, [(.aload_n 0, 1, 0, 0, 0), (.iconst 0, 1, 0, 0, 0), (.putfield 121, 3, 11, 0, 1190), (.aload_n 0, 1, 0, 0, 0), (.getfield 192, 3, 11, 6, 1196), (.ireturn, 1, 0, 0, 0)])]
set_option maxRecDepth 20000 in
theorem ck_X11_dropped : en_ck 183 bs_X11_dropped = true := en_ckF_ok (J := (yX11_dropped, cX11_dropped, 1, some .int, 11, 0)) (q := (1446, 1444, 1553, 12)) rfl rfl rfl (by decide +kernel)
def bs_X11_four : en_Bs := [
  (0, [(.bipush 24, 2, 0, 0, 0), (.istore_n 2, 1, 0, 0, 0)]),
  (3, [(.iload_n 2, 1, 0, 0, 0), (.ifCond .lt 35, 3, 39, 0, 0)]),
  (7, [(.aload_n 0, 1, 0, 0, 0), (.getfield 23, 3, 11, 7, 1197), (.aload_n 0, 1, 0, 0, 0), (.getfield 189, 3, 11, 8, 1198), (.iload_n 1, 1, 0, 0, 0), (.iload_n 2, 1, 0, 0, 0), (.ishr, 1, 0, 0, 0), (.sipush 255, 3, 0, 0, 0), (.iand, 1, 0, 0, 0), (.iastore, 1, 0, 0, 0), (.aload_n 0, 1, 0, 0, 0), (.dup, 1, 0, 0, 0), (.getfield 189, 3, 11, 8, 1198), (.iconst 1, 1, 0, 0, 0), (.iadd, 1, 0, 0, 0), (.putfield 189, 3, 11, 8, 1198), (.iinc 2 (-8), 3, 0, 0, 0), (.goto (-33), 3, 3, 0, 0)]),
  (39, [(.return_, 1, 0, 0, 0)])]
set_option maxRecDepth 20000 in
theorem ck_X11_four : en_ck 184 bs_X11_four = true := en_ckF_ok (J := (yX11_four, cX11_four, 3, none, 11, 0)) (q := (1454, 1453, 60, 12)) rfl rfl rfl (by decide +kernel)
