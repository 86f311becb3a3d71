def bs_X1_goOn : en_Bs := [
  (0, [(.aload_n 0, 1, 0, 0, 0), (.getfield 58, 3, 1, 0, 247), (.invokevirtual 119, 3, 9, 1, 850)]),
  (7, [(.iconst 2, 1, 0, 0, 0), (.invokevirtual 162, 3, 58, 2, 854)]),
  (11, [(.istore_n 2, 1, 0, 0, 0), (.iconst 0, 1, 0, 0, 0), (.istore_n 3, 1, 0, 0, 0)]),
  (14, [(.iload_n 3, 1, 0, 0, 0), (.aload_n 0, 1, 0, 0, 0), (.getfield 165, 3, 1, 16, 270), (.if_icmp .ge 234, 3, 253, 0, 0)]),
  (22, [(.aload_n 0, 1, 0, 0, 0), (.getfield 52, 3, 1, 15, 269), (.iload_n 3, 1, 0, 0, 0), (.iaload, 1, 0, 0, 0), (.istore 4, 2, 0, 0, 0), (.aload_n 0, 1, 0, 0, 0), (.getfield 30, 3, 1, 8, 259), (.iload 4, 2, 0, 0, 0), (.iaload, 1, 0, 0, 0), (.istore 5, 2, 0, 0, 0), (.aload_n 0, 1, 0, 0, 0), (.getfield 58, 3, 1, 0, 247), (.iload 5, 2, 0, 0, 0), (.invokevirtual 94, 3, 3, 2, 818)]),
  (48, [(.ifCond .ne 6, 3, 54, 0, 0)]),
  (51, [(.goto 196, 3, 247, 0, 0)]),
  (54, [(.aload_n 0, 1, 0, 0, 0), (.getfield 21, 3, 1, 5, 256), (.iload 5, 2, 0, 0, 0), (.iaload, 1, 0, 0, 0), (.istore 6, 2, 0, 0, 0), (.iload 6, 2, 0, 0, 0), (.aload_n 0, 1, 0, 0, 0), (.getfield 58, 3, 1, 0, 247), (.iload 4, 2, 0, 0, 0), (.iconst 2, 1, 0, 0, 0), (.invokevirtual 87, 3, 11, 3, 813)]),
  (75, [(.if_icmp .ne 7, 3, 82, 0, 0)]),
  (78, [(.iconst 1, 1, 0, 0, 0), (.goto 4, 3, 83, 0, 0)]),
  (82, [(.iconst 0, 1, 0, 0, 0)]),
  (83, [(.istore 7, 2, 0, 0, 0), (.iload 6, 2, 0, 0, 0), (.iconst (-1), 1, 0, 0, 0), (.if_icmp .eq 23, 3, 111, 0, 0)]),
  (91, [(.iload 7, 2, 0, 0, 0), (.ifCond .ne 14, 3, 107, 0, 0)]),
  (96, [(.aload_n 0, 1, 0, 0, 0), (.iload 6, 2, 0, 0, 0), (.iload 4, 2, 0, 0, 0), (.invokevirtual 154, 3, 26, 3, 838)]),
  (104, [(.ifCond .eq 7, 3, 111, 0, 0)]),
  (107, [(.iconst 1, 1, 0, 0, 0), (.goto 4, 3, 112, 0, 0)]),
  (111, [(.iconst 0, 1, 0, 0, 0)]),
  (112, [(.istore 8, 2, 0, 0, 0), (.iload 8, 2, 0, 0, 0), (.ifCond .eq 53, 3, 169, 0, 0)]),
  (119, [(.iload_n 2, 1, 0, 0, 0), (.ifCond .eq 49, 3, 169, 0, 0)]),
  (123, [(.aload_n 0, 1, 0, 0, 0), (.getfield 62, 3, 1, 1, 248), (.iconst 2, 1, 0, 0, 0), (.iload 4, 2, 0, 0, 0), (.iload 5, 2, 0, 0, 0), (.iload_n 1, 1, 0, 0, 0), (.aload_n 0, 1, 0, 0, 0), (.getfield 39, 3, 1, 11, 265), (.iload 4, 2, 0, 0, 0), (.iaload, 1, 0, 0, 0), (.aload_n 0, 1, 0, 0, 0), (.getfield 9, 3, 1, 2, 249), (.iload 5, 2, 0, 0, 0), (.iaload, 1, 0, 0, 0), (.aload_n 0, 1, 0, 0, 0), (.getfield 15, 3, 1, 3, 252), (.iload 5, 2, 0, 0, 0), (.iaload, 1, 0, 0, 0), (.invokevirtual 168, 3, 52, 8, 859)]),
  (157, [(.lconst 0, 1, 0, 0, 0), (.lcmp, 1, 0, 0, 0), (.ifCond .ne 7, 3, 166, 0, 0)]),
  (162, [(.iconst 1, 1, 0, 0, 0), (.goto 4, 3, 167, 0, 0)]),
  (166, [(.iconst 0, 1, 0, 0, 0)]),
  (167, [(.istore 8, 2, 0, 0, 0)]),
  (169, [(.iload 8, 2, 0, 0, 0), (.ifCond .ne 28, 3, 199, 0, 0)]),
  (174, [(.aload_n 0, 1, 0, 0, 0), (.getfield 39, 3, 1, 11, 265), (.iload 4, 2, 0, 0, 0), (.dup2, 1, 0, 0, 0), (.iaload, 1, 0, 0, 0), (.iconst 1, 1, 0, 0, 0), (.iadd, 1, 0, 0, 0), (.iastore, 1, 0, 0, 0), (.aload_n 0, 1, 0, 0, 0), (.getfield 36, 3, 1, 10, 263), (.iload 4, 2, 0, 0, 0), (.dup2, 1, 0, 0, 0), (.iaload, 1, 0, 0, 0), (.iconst 1, 1, 0, 0, 0), (.iadd, 1, 0, 0, 0), (.iastore, 1, 0, 0, 0), (.goto 51, 3, 247, 0, 0)]),
  (199, [(.aload_n 0, 1, 0, 0, 0), (.iconst 1, 1, 0, 0, 0), (.putfield 129, 3, 1, 18, 272), (.aload_n 0, 1, 0, 0, 0), (.iload 5, 2, 0, 0, 0), (.iload 4, 2, 0, 0, 0), (.invokevirtual 174, 3, 28, 3, 886)]),
  (212, [(.aload_n 0, 1, 0, 0, 0), (.getfield 27, 3, 1, 7, 258), (.iload 4, 2, 0, 0, 0), (.dup2, 1, 0, 0, 0), (.iaload, 1, 0, 0, 0), (.iconst 1, 1, 0, 0, 0), (.isub, 1, 0, 0, 0), (.iastore, 1, 0, 0, 0), (.iload 7, 2, 0, 0, 0), (.ifCond .eq 14, 3, 239, 0, 0)]),
  (228, [(.aload_n 0, 1, 0, 0, 0), (.getfield 33, 3, 1, 9, 261), (.iload 4, 2, 0, 0, 0), (.iload_n 1, 1, 0, 0, 0), (.iastore, 1, 0, 0, 0), (.goto 11, 3, 247, 0, 0)]),
  (239, [(.aload_n 0, 1, 0, 0, 0), (.iload 6, 2, 0, 0, 0), (.iload 4, 2, 0, 0, 0), (.invokevirtual 157, 3, 27, 3, 842)]),
  (247, [(.iinc 3 1, 3, 0, 0, 0), (.goto (-236), 3, 14, 0, 0)]),
  (253, [(.return_, 1, 0, 0, 0)])]
set_option maxRecDepth 20000 in
theorem ck_X1_goOn : en_ck 30 bs_X1_goOn = true := en_ckF_ok (J := (yX1_goOn, cX1_goOn, 9, none, 1, 0)) (q := (885, 884, 31, 8)) rfl rfl rfl (by decide +kernel)
def bs_X1_placeBehind : en_Bs := [
  (0, [(.aload_n 0, 1, 0, 0, 0), (.getfield 55, 3, 1, 17, 271), (.iload_n 2, 1, 0, 0, 0), (.bipush 8, 2, 0, 0, 0), (.imul, 1, 0, 0, 0), (.iload_n 1, 1, 0, 0, 0), (.iadd, 1, 0, 0, 0), (.iaload, 1, 0, 0, 0), (.ireturn, 1, 0, 0, 0)])]
set_option maxRecDepth 20000 in
theorem ck_X1_placeBehind : en_ck 31 bs_X1_placeBehind = true := en_ckF_ok (J := (yX1_placeBehind, cX1_placeBehind, 3, some .int, 1, 0)) (q := (898, 896, 1005, 8)) rfl rfl rfl (by decide +kernel)
def bs_X1_comeByNoon : en_Bs := [
  (0, [(.iconst 0, 1, 0, 0, 0), (.istore_n 1, 1, 0, 0, 0), (.iconst 0, 1, 0, 0, 0), (.istore_n 2, 1, 0, 0, 0)]),
  (4, [(.iload_n 2, 1, 0, 0, 0), (.aload_n 0, 1, 0, 0, 0), (.getfield 58, 3, 1, 0, 247), (.getfield 84, 3, 0, 4, 104), (.if_icmp .ge 38, 3, 50, 0, 0)]),
  (15, [(.aload_n 0, 1, 0, 0, 0), (.getfield 33, 3, 1, 9, 261), (.iload_n 2, 1, 0, 0, 0), (.iaload, 1, 0, 0, 0), (.iconst (-1), 1, 0, 0, 0), (.if_icmp .eq 22, 3, 44, 0, 0)]),
  (25, [(.aload_n 0, 1, 0, 0, 0), (.getfield 33, 3, 1, 9, 261), (.iload_n 2, 1, 0, 0, 0), (.iaload, 1, 0, 0, 0), (.aload_n 0, 1, 0, 0, 0), (.getfield 58, 3, 1, 0, 247), (.getfield 177, 3, 0, 10, 118), (.if_icmp .gt 6, 3, 44, 0, 0)]),
  (41, [(.iinc 1 1, 3, 0, 0, 0)]),
  (44, [(.iinc 2 1, 3, 0, 0, 0), (.goto (-43), 3, 4, 0, 0)]),
  (50, [(.iload_n 1, 1, 0, 0, 0), (.ireturn, 1, 0, 0, 0)])]
set_option maxRecDepth 20000 in
theorem ck_X1_comeByNoon : en_ck 32 bs_X1_comeByNoon = true := en_ckF_ok (J := (yX1_comeByNoon, cX1_comeByNoon, 3, some .int, 1, 0)) (q := (1139, 1137, 1246, 8)) rfl rfl rfl (by decide +kernel)
def bs_X1_failures : en_Bs := [
  (0, [(.iconst 0, 1, 0, 0, 0), (.istore_n 1, 1, 0, 0, 0), (.iconst 0, 1, 0, 0, 0), (.istore_n 2, 1, 0, 0, 0)]),
  (4, [(.iload_n 2, 1, 0, 0, 0), (.aload_n 0, 1, 0, 0, 0), (.getfield 58, 3, 1, 0, 247), (.getfield 84, 3, 0, 4, 104), (.if_icmp .ge 22, 3, 34, 0, 0)]),
  (15, [(.aload_n 0, 1, 0, 0, 0), (.getfield 33, 3, 1, 9, 261), (.iload_n 2, 1, 0, 0, 0), (.iaload, 1, 0, 0, 0), (.iconst (-1), 1, 0, 0, 0), (.if_icmp .ne 6, 3, 28, 0, 0)]),
  (25, [(.iinc 1 1, 3, 0, 0, 0)]),
  (28, [(.iinc 2 1, 3, 0, 0, 0), (.goto (-27), 3, 4, 0, 0)]),
  (34, [(.iload_n 1, 1, 0, 0, 0), (.ireturn, 1, 0, 0, 0)])]
set_option maxRecDepth 20000 in
theorem ck_X1_failures : en_ck 33 bs_X1_failures = true := en_ckF_ok (J := (yX1_failures, cX1_failures, 3, some .int, 1, 0)) (q := (1167, 1165, 1274, 8)) rfl rfl rfl (by decide +kernel)
def bs_X1_chokingRound : en_Bs := [
  (0, [(.iconst 0, 1, 0, 0, 0), (.istore_n 1, 1, 0, 0, 0), (.iconst 0, 1, 0, 0, 0), (.istore_n 2, 1, 0, 0, 0)]),
  (4, [(.iload_n 2, 1, 0, 0, 0), (.aload_n 0, 1, 0, 0, 0), (.getfield 58, 3, 1, 0, 247), (.getfield 84, 3, 0, 4, 104), (.if_icmp .ge 28, 3, 40, 0, 0)]),
  (15, [(.aload_n 0, 1, 0, 0, 0), (.iload_n 2, 1, 0, 0, 0), (.invokevirtual 180, 3, 35, 2, 911)]),
  (20, [(.ifCond .eq 14, 3, 34, 0, 0)]),
  (23, [(.iload_n 1, 1, 0, 0, 0), (.iconst 1, 1, 0, 0, 0), (.aload_n 0, 1, 0, 0, 0), (.getfield 30, 3, 1, 8, 259), (.iload_n 2, 1, 0, 0, 0), (.iaload, 1, 0, 0, 0), (.ishl, 1, 0, 0, 0), (.ior, 1, 0, 0, 0), (.istore_n 1, 1, 0, 0, 0)]),
  (34, [(.iinc 2 1, 3, 0, 0, 0), (.goto (-33), 3, 4, 0, 0)]),
  (40, [(.iconst 0, 1, 0, 0, 0), (.istore_n 2, 1, 0, 0, 0)]),
  (42, [(.iload_n 2, 1, 0, 0, 0), (.aload_n 0, 1, 0, 0, 0), (.getfield 58, 3, 1, 0, 247), (.getfield 76, 3, 0, 0, 87), (.if_icmp .ge 22, 3, 72, 0, 0)]),
  (53, [(.aload_n 0, 1, 0, 0, 0), (.iload_n 2, 1, 0, 0, 0), (.iload_n 1, 1, 0, 0, 0), (.invokevirtual 183, 3, 36, 3, 916)]),
  (59, [(.istore_n 3, 1, 0, 0, 0), (.iload_n 3, 1, 0, 0, 0), (.ifCond .eq 5, 3, 66, 0, 0)]),
  (64, [(.iload_n 3, 1, 0, 0, 0), (.ireturn, 1, 0, 0, 0)]),
  (66, [(.iinc 2 1, 3, 0, 0, 0), (.goto (-27), 3, 42, 0, 0)]),
  (72, [(.iconst 0, 1, 0, 0, 0), (.ireturn, 1, 0, 0, 0)])]
set_option maxRecDepth 20000 in
theorem ck_X1_chokingRound : en_ck 34 bs_X1_chokingRound = true := en_ckF_ok (J := (yX1_chokingRound, cX1_chokingRound, 4, some .int, 1, 0)) (q := (910, 908, 1017, 8)) rfl rfl rfl (by decide +kernel)
def bs_X1_isStuck : en_Bs := [
  (0, [(.aload_n 0, 1, 0, 0, 0), (.getfield 30, 3, 1, 8, 259), (.iload_n 1, 1, 0, 0, 0), (.iaload, 1, 0, 0, 0), (.istore_n 2, 1, 0, 0, 0), (.aload_n 0, 1, 0, 0, 0), (.getfield 58, 3, 1, 0, 247), (.iload_n 2, 1, 0, 0, 0), (.invokevirtual 94, 3, 3, 2, 818)]),
  (15, [(.ifCond .ne 5, 3, 20, 0, 0)]),
  (18, [(.iconst 0, 1, 0, 0, 0), (.ireturn, 1, 0, 0, 0)]),
  (20, [(.aload_n 0, 1, 0, 0, 0), (.getfield 21, 3, 1, 5, 256), (.iload_n 2, 1, 0, 0, 0), (.iaload, 1, 0, 0, 0), (.istore_n 3, 1, 0, 0, 0), (.iload_n 3, 1, 0, 0, 0), (.iconst (-1), 1, 0, 0, 0), (.if_icmp .eq 25, 3, 54, 0, 0)]),
  (32, [(.iload_n 3, 1, 0, 0, 0), (.aload_n 0, 1, 0, 0, 0), (.getfield 58, 3, 1, 0, 247), (.iload_n 1, 1, 0, 0, 0), (.iconst 2, 1, 0, 0, 0), (.invokevirtual 87, 3, 11, 3, 813)]),
  (42, [(.if_icmp .eq 12, 3, 54, 0, 0)]),
  (45, [(.aload_n 0, 1, 0, 0, 0), (.iload_n 3, 1, 0, 0, 0), (.iload_n 1, 1, 0, 0, 0), (.invokevirtual 154, 3, 26, 3, 838)]),
  (51, [(.ifCond .eq 5, 3, 56, 0, 0)]),
  (54, [(.iconst 0, 1, 0, 0, 0), (.ireturn, 1, 0, 0, 0)]),
  (56, [(.iconst 0, 1, 0, 0, 0), (.aload_n 0, 1, 0, 0, 0), (.getfield 39, 3, 1, 11, 265), (.iload_n 1, 1, 0, 0, 0), (.iaload, 1, 0, 0, 0), (.iconst 1, 1, 0, 0, 0), (.isub, 1, 0, 0, 0), (.invokestatic 136, 3, 902, 0, 915), (.istore 4, 2, 0, 0, 0), (.aload_n 0, 1, 0, 0, 0), (.getfield 62, 3, 1, 1, 248), (.iconst 2, 1, 0, 0, 0), (.iload_n 1, 1, 0, 0, 0), (.iload_n 2, 1, 0, 0, 0), (.bipush 99, 2, 0, 0, 0), (.iload 4, 2, 0, 0, 0), (.aload_n 0, 1, 0, 0, 0), (.getfield 9, 3, 1, 2, 249), (.iload_n 2, 1, 0, 0, 0), (.iaload, 1, 0, 0, 0), (.aload_n 0, 1, 0, 0, 0), (.getfield 15, 3, 1, 3, 252), (.iload_n 2, 1, 0, 0, 0), (.iaload, 1, 0, 0, 0), (.invokevirtual 168, 3, 52, 8, 859)]),
  (96, [(.lconst 0, 1, 0, 0, 0), (.lcmp, 1, 0, 0, 0), (.ifCond .ne 7, 3, 105, 0, 0)]),
  (101, [(.iconst 1, 1, 0, 0, 0), (.goto 4, 3, 106, 0, 0)]),
  (105, [(.iconst 0, 1, 0, 0, 0)]),
  (106, [(.ireturn, 1, 0, 0, 0)])]
set_option maxRecDepth 20000 in
theorem ck_X1_isStuck : en_ck 35 bs_X1_isStuck = true := en_ckF_ok (J := (yX1_isStuck, cX1_isStuck, 5, some .boolean, 1, 0)) (q := (914, 913, 33, 8)) rfl rfl rfl (by decide +kernel)
def bs_X1_roundOf : en_Bs := [
  (0, [(.iconst 0, 1, 0, 0, 0), (.istore_n 3, 1, 0, 0, 0), (.iload_n 1, 1, 0, 0, 0), (.istore 4, 2, 0, 0, 0), (.iconst 0, 1, 0, 0, 0), (.istore 5, 2, 0, 0, 0)]),
  (8, [(.iload 5, 2, 0, 0, 0), (.bipush 12, 2, 0, 0, 0), (.if_icmp .ge 54, 3, 66, 0, 0)]),
  (15, [(.aload_n 0, 1, 0, 0, 0), (.getfield 58, 3, 1, 0, 247), (.iload 4, 2, 0, 0, 0), (.invokevirtual 94, 3, 3, 2, 818)]),
  (24, [(.ifCond .eq 42, 3, 66, 0, 0)]),
  (27, [(.iload_n 2, 1, 0, 0, 0), (.iload 4, 2, 0, 0, 0), (.invokestatic 133, 3, 155, 2, 5007)]),
  (33, [(.ifCond .eq 33, 3, 66, 0, 0)]),
  (36, [(.iload_n 3, 1, 0, 0, 0), (.iconst 1, 1, 0, 0, 0), (.iload 4, 2, 0, 0, 0), (.ishl, 1, 0, 0, 0), (.ior, 1, 0, 0, 0), (.istore_n 3, 1, 0, 0, 0), (.aload_n 0, 1, 0, 0, 0), (.getfield 21, 3, 1, 5, 256), (.iload 4, 2, 0, 0, 0), (.iaload, 1, 0, 0, 0), (.istore 4, 2, 0, 0, 0), (.iload 4, 2, 0, 0, 0), (.iload_n 1, 1, 0, 0, 0), (.if_icmp .ne 5, 3, 60, 0, 0)]),
  (58, [(.iload_n 3, 1, 0, 0, 0), (.ireturn, 1, 0, 0, 0)]),
  (60, [(.iinc 5 1, 3, 0, 0, 0), (.goto (-55), 3, 8, 0, 0)]),
  (66, [(.iconst 0, 1, 0, 0, 0), (.ireturn, 1, 0, 0, 0)])]
set_option maxRecDepth 20000 in
theorem ck_X1_roundOf : en_ck 36 bs_X1_roundOf = true := en_ckF_ok (J := (yX1_roundOf, cX1_roundOf, 6, some .int, 1, 0)) (q := (919, 918, 34, 8)) rfl rfl rfl (by decide +kernel)
def bs_X2_init : en_Bs := [
  (0, [(.aload_n 0, 1, 0, 0, 0), (.invokespecial 3, 3, 900, 0, 367), (.aload_n 0, 1, 0, 0, 0), (.bipush 12, 2, 0, 0, 0), (.newarray .int, 2, 0, 0, 0), (.putfield 9, 3, 2, 2, 370), (.aload_n 0, 1, 0, 0, 0), (.bipush 8, 2, 0, 0, 0), (.newarray .int, 2, 0, 0, 0), (.putfield 15, 3, 2, 3, 371), (.aload_n 0, 1, 0, 0, 0), (.sipush 9600, 3, 0, 0, 0), (.newarray .int, 2, 0, 0, 0), (.putfield 18, 3, 2, 4, 372), (.aload_n 0, 1, 0, 0, 0), (.bipush 12, 2, 0, 0, 0), (.newarray .int, 2, 0, 0, 0), (.putfield 21, 3, 2, 12, 380), (.aload_n 0, 1, 0, 0, 0), (.aload_n 1, 1, 0, 0, 0), (.putfield 24, 3, 2, 0, 368), (.aload_n 0, 1, 0, 0, 0), (.aload_n 2, 1, 0, 0, 0), (.putfield 28, 3, 2, 1, 369), (.return_, 1, 0, 0, 0)])]
set_option maxRecDepth 20000 in
theorem ck_X2_init : en_ck 37 bs_X2_init = true := en_ckF_ok (J := (yX2_init, cX2_init, 3, none, 2, 0)) (q := (366, 365, 0, 11)) rfl rfl rfl (by decide +kernel)
def bs_X2_forget : en_Bs := [
  (0, [(.aload_n 0, 1, 0, 0, 0), (.iconst 0, 1, 0, 0, 0), (.putfield 32, 3, 2, 5, 373), (.aload_n 0, 1, 0, 0, 0), (.iconst 0, 1, 0, 0, 0), (.putfield 36, 3, 2, 10, 378), (.return_, 1, 0, 0, 0)])]
set_option maxRecDepth 20000 in
theorem ck_X2_forget : en_ck 38 bs_X2_forget = true := en_ckF_ok (J := (yX2_forget, cX2_forget, 1, none, 2, 0)) (q := (495, 493, 602, 11)) rfl rfl rfl (by decide +kernel)
def bs_X2_costOf : en_Bs := [
  (0, [(.aload_n 0, 1, 0, 0, 0), (.invokevirtual 39, 3, 45, 1, 1010)]),
  (4, [(.aload_n 0, 1, 0, 0, 0), (.iload_n 1, 1, 0, 0, 0), (.iconst (-1), 1, 0, 0, 0), (.invokevirtual 42, 3, 48, 3, 1018)]),
  (10, [(.ireturn, 1, 0, 0, 0)])]
set_option maxRecDepth 20000 in
theorem ck_X2_costOf : en_ck 39 bs_X2_costOf = true := en_ckF_ok (J := (yX2_costOf, cX2_costOf, 2, some .int, 2, 0)) (q := (1009, 1007, 1116, 11)) rfl rfl rfl (by decide +kernel)
def bs_X2_incomeOf : en_Bs := [
  (0, [(.aload_n 0, 1, 0, 0, 0), (.invokevirtual 39, 3, 45, 1, 1010)]),
  (4, [(.aload_n 0, 1, 0, 0, 0), (.iload_n 1, 1, 0, 0, 0), (.invokevirtual 46, 3, 46, 2, 1052)]),
  (9, [(.aload_n 0, 1, 0, 0, 0), (.getfield 50, 3, 2, 9, 377), (.ireturn, 1, 0, 0, 0)])]
set_option maxRecDepth 20000 in
theorem ck_X2_incomeOf : en_ck 40 bs_X2_incomeOf = true := en_ckF_ok (J := (yX2_incomeOf, cX2_incomeOf, 2, some .int, 2, 0)) (q := (1051, 1049, 1158, 11)) rfl rfl rfl (by decide +kernel)
def bs_X2_answerOf : en_Bs := [
  (0, [(.aload_n 0, 1, 0, 0, 0), (.invokevirtual 39, 3, 45, 1, 1010)]),
  (4, [(.aload_n 0, 1, 0, 0, 0), (.iload_n 1, 1, 0, 0, 0), (.invokevirtual 46, 3, 46, 2, 1052)]),
  (9, [(.iload_n 2, 1, 0, 0, 0), (.ifCond .ne 10, 3, 20, 0, 0)]),
  (13, [(.aload_n 0, 1, 0, 0, 0), (.getfield 54, 3, 2, 7, 375), (.goto 7, 3, 24, 0, 0)]),
  (20, [(.aload_n 0, 1, 0, 0, 0), (.getfield 57, 3, 2, 8, 376)]),
  (24, [(.ireturn, 1, 0, 0, 0)])]
set_option maxRecDepth 20000 in
theorem ck_X2_answerOf : en_ck 41 bs_X2_answerOf = true := en_ckF_ok (J := (yX2_answerOf, cX2_answerOf, 3, some .int, 2, 0)) (q := (1067, 1065, 1174, 11)) rfl rfl rfl (by decide +kernel)
def bs_X2_firstRestless : en_Bs := [
  (0, [(.aload_n 0, 1, 0, 0, 0), (.invokevirtual 39, 3, 45, 1, 1010)]),
  (4, [(.iconst 0, 1, 0, 0, 0), (.istore_n 1, 1, 0, 0, 0)]),
  (6, [(.iload_n 1, 1, 0, 0, 0), (.aload_n 0, 1, 0, 0, 0), (.getfield 24, 3, 2, 0, 368), (.getfield 60, 3, 0, 0, 91), (.if_icmp .ge 27, 3, 41, 0, 0)]),
  (17, [(.aload_n 0, 1, 0, 0, 0), (.iload_n 1, 1, 0, 0, 0), (.invokevirtual 46, 3, 46, 2, 1052)]),
  (22, [(.aload_n 0, 1, 0, 0, 0), (.getfield 57, 3, 2, 8, 376), (.aload_n 0, 1, 0, 0, 0), (.getfield 50, 3, 2, 9, 377), (.if_icmp .le 5, 3, 35, 0, 0)]),
  (33, [(.iload_n 1, 1, 0, 0, 0), (.ireturn, 1, 0, 0, 0)]),
  (35, [(.iinc 1 1, 3, 0, 0, 0), (.goto (-32), 3, 6, 0, 0)]),
  (41, [(.iconst (-1), 1, 0, 0, 0), (.ireturn, 1, 0, 0, 0)])]
set_option maxRecDepth 20000 in
theorem ck_X2_firstRestless : en_ck 42 bs_X2_firstRestless = true := en_ckF_ok (J := (yX2_firstRestless, cX2_firstRestless, 2, some .int, 2, 0)) (q := (1075, 1073, 1182, 11)) rfl rfl rfl (by decide +kernel)
def bs_X2_settle : en_Bs := [
  (0, [(.aload_n 0, 1, 0, 0, 0), (.getfield 36, 3, 2, 10, 378), (.ifCond .eq 4, 3, 8, 0, 0)]),
  (7, [(.return_, 1, 0, 0, 0)]),
  (8, [(.aload_n 0, 1, 0, 0, 0), (.invokevirtual 39, 3, 45, 1, 1010)]),
  (12, [(.iconst 1, 1, 0, 0, 0), (.istore_n 1, 1, 0, 0, 0), (.aload_n 0, 1, 0, 0, 0), (.iconst 0, 1, 0, 0, 0), (.putfield 65, 3, 2, 11, 379)]),
  (19, [(.iload_n 1, 1, 0, 0, 0), (.ifCond .eq 74, 3, 94, 0, 0)]),
  (23, [(.aload_n 0, 1, 0, 0, 0), (.getfield 65, 3, 2, 11, 379), (.bipush 50, 2, 0, 0, 0), (.if_icmp .ge 65, 3, 94, 0, 0)]),
  (32, [(.aload_n 0, 1, 0, 0, 0), (.dup, 1, 0, 0, 0), (.getfield 65, 3, 2, 11, 379), (.iconst 1, 1, 0, 0, 0), (.iadd, 1, 0, 0, 0), (.putfield 65, 3, 2, 11, 379), (.iconst 0, 1, 0, 0, 0), (.istore_n 1, 1, 0, 0, 0), (.iconst 0, 1, 0, 0, 0), (.istore_n 2, 1, 0, 0, 0)]),
  (46, [(.iload_n 2, 1, 0, 0, 0), (.aload_n 0, 1, 0, 0, 0), (.getfield 24, 3, 2, 0, 368), (.getfield 60, 3, 0, 0, 91), (.if_icmp .ge 37, 3, 91, 0, 0)]),
  (57, [(.aload_n 0, 1, 0, 0, 0), (.iload_n 2, 1, 0, 0, 0), (.invokevirtual 46, 3, 46, 2, 1052)]),
  (62, [(.aload_n 0, 1, 0, 0, 0), (.getfield 57, 3, 2, 8, 376), (.aload_n 0, 1, 0, 0, 0), (.getfield 50, 3, 2, 9, 377), (.if_icmp .le 15, 3, 85, 0, 0)]),
  (73, [(.aload_n 0, 1, 0, 0, 0), (.getfield 9, 3, 2, 2, 370), (.iload_n 2, 1, 0, 0, 0), (.aload_n 0, 1, 0, 0, 0), (.getfield 54, 3, 2, 7, 375), (.iastore, 1, 0, 0, 0), (.iconst 1, 1, 0, 0, 0), (.istore_n 1, 1, 0, 0, 0)]),
  (85, [(.iinc 2 1, 3, 0, 0, 0), (.goto (-42), 3, 46, 0, 0)]),
  (91, [(.goto (-72), 3, 19, 0, 0)]),
  (94, [(.iload_n 1, 1, 0, 0, 0), (.ifCond .eq 13, 3, 108, 0, 0)]),
  (98, [(.aload_n 0, 1, 0, 0, 0), (.dup, 1, 0, 0, 0), (.getfield 65, 3, 2, 11, 379), (.iconst 1, 1, 0, 0, 0), (.iadd, 1, 0, 0, 0), (.putfield 65, 3, 2, 11, 379)]),
  (108, [(.aload_n 0, 1, 0, 0, 0), (.getfield 9, 3, 2, 2, 370), (.iconst 0, 1, 0, 0, 0), (.aload_n 0, 1, 0, 0, 0), (.getfield 21, 3, 2, 12, 380), (.iconst 0, 1, 0, 0, 0), (.bipush 12, 2, 0, 0, 0), (.invokestatic 68, 3, 901, 0, 1014), (.aload_n 0, 1, 0, 0, 0), (.iconst 1, 1, 0, 0, 0), (.putfield 36, 3, 2, 10, 378), (.return_, 1, 0, 0, 0)])]
set_option maxRecDepth 20000 in
theorem ck_X2_settle : en_ck 43 bs_X2_settle = true := en_ckF_ok (J := (yX2_settle, cX2_settle, 3, none, 2, 0)) (q := (1083, 1081, 1190, 11)) rfl rfl rfl (by decide +kernel)
def bs_X2_settled : en_Bs := [
  (0, [(.aload_n 0, 1, 0, 0, 0), (.getfield 24, 3, 2, 0, 368), (.iload_n 1, 1, 0, 0, 0), (.invokevirtual 74, 3, 3, 2, 1024)]),
  (8, [(.ifCond .eq 12, 3, 20, 0, 0)]),
  (11, [(.aload_n 0, 1, 0, 0, 0), (.getfield 21, 3, 2, 12, 380), (.iload_n 1, 1, 0, 0, 0), (.iaload, 1, 0, 0, 0), (.goto 7, 3, 24, 0, 0)]),
  (20, [(.aload_n 0, 1, 0, 0, 0), (.getfield 65, 3, 2, 11, 379)]),
  (24, [(.ireturn, 1, 0, 0, 0)])]
set_option maxRecDepth 20000 in
theorem ck_X2_settled : en_ck 44 bs_X2_settled = true := en_ckF_ok (J := (yX2_settled, cX2_settled, 2, some .int, 2, 0)) (q := (1087, 1085, 1194, 11)) rfl rfl rfl (by decide +kernel)
def bs_X2_begin : en_Bs := [
  (0, [(.aload_n 0, 1, 0, 0, 0), (.getfield 24, 3, 2, 0, 368), (.getfield 78, 3, 0, 3, 102), (.iconst 0, 1, 0, 0, 0), (.aload_n 0, 1, 0, 0, 0), (.getfield 9, 3, 2, 2, 370), (.iconst 0, 1, 0, 0, 0), (.bipush 12, 2, 0, 0, 0), (.invokestatic 68, 3, 901, 0, 1014), (.aload_n 0, 1, 0, 0, 0), (.getfield 32, 3, 2, 5, 373), (.ifCond .ne 38, 3, 60, 0, 0)]),
  (25, [(.aload_n 0, 1, 0, 0, 0), (.iconst 1, 1, 0, 0, 0), (.putfield 32, 3, 2, 5, 373), (.aload_n 0, 1, 0, 0, 0), (.aload_n 0, 1, 0, 0, 0), (.getfield 24, 3, 2, 0, 368), (.invokevirtual 81, 3, 9, 1, 1015)]),
  (38, [(.iconst 1, 1, 0, 0, 0), (.invokevirtual 87, 3, 58, 2, 1016)]),
  (42, [(.putfield 90, 3, 2, 6, 374), (.aload_n 0, 1, 0, 0, 0), (.getfield 90, 3, 2, 6, 374), (.ifCond .eq 11, 3, 60, 0, 0)]),
  (52, [(.aload_n 0, 1, 0, 0, 0), (.getfield 18, 3, 2, 4, 372), (.iconst (-1), 1, 0, 0, 0), (.invokestatic 93, 3, 266, 2, 1017)]),
  (60, [(.return_, 1, 0, 0, 0)])]
set_option maxRecDepth 20000 in
theorem ck_X2_begin : en_ck 45 bs_X2_begin = true := en_ckF_ok (J := (yX2_begin, cX2_begin, 1, none, 2, 0)) (q := (1013, 1012, 44, 11)) rfl rfl rfl (by decide +kernel)
def bs_X2_seekAnswer : en_Bs := [
  (0, [(.iconst 0, 1, 0, 0, 0), (.istore_n 2, 1, 0, 0, 0)]),
  (2, [(.iload_n 2, 1, 0, 0, 0), (.aload_n 0, 1, 0, 0, 0), (.getfield 24, 3, 2, 0, 368), (.getfield 99, 3, 0, 4, 107), (.if_icmp .ge 21, 3, 31, 0, 0)]),
  (13, [(.aload_n 0, 1, 0, 0, 0), (.getfield 15, 3, 2, 3, 371), (.iload_n 2, 1, 0, 0, 0), (.aload_n 0, 1, 0, 0, 0), (.iload_n 2, 1, 0, 0, 0), (.iload_n 1, 1, 0, 0, 0), (.invokevirtual 42, 3, 48, 3, 1018)]),
  (24, [(.iastore, 1, 0, 0, 0), (.iinc 2 1, 3, 0, 0, 0), (.goto (-26), 3, 2, 0, 0)]),
  (31, [(.aload_n 0, 1, 0, 0, 0), (.aload_n 0, 1, 0, 0, 0), (.iload_n 1, 1, 0, 0, 0), (.aload_n 0, 1, 0, 0, 0), (.getfield 9, 3, 2, 2, 370), (.iload_n 1, 1, 0, 0, 0), (.iaload, 1, 0, 0, 0), (.invokevirtual 102, 3, 47, 3, 1056)]),
  (43, [(.putfield 50, 3, 2, 9, 377), (.aload_n 0, 1, 0, 0, 0), (.iconst 0, 1, 0, 0, 0), (.putfield 54, 3, 2, 7, 375), (.aload_n 0, 1, 0, 0, 0), (.iconst (-1), 1, 0, 0, 0), (.putfield 57, 3, 2, 8, 376), (.iconst 0, 1, 0, 0, 0), (.istore_n 2, 1, 0, 0, 0)]),
  (58, [(.iload_n 2, 1, 0, 0, 0), (.bipush 100, 2, 0, 0, 0), (.if_icmp .ge 34, 3, 95, 0, 0)]),
  (64, [(.aload_n 0, 1, 0, 0, 0), (.iload_n 1, 1, 0, 0, 0), (.iload_n 2, 1, 0, 0, 0), (.invokevirtual 102, 3, 47, 3, 1056)]),
  (70, [(.istore_n 3, 1, 0, 0, 0), (.iload_n 3, 1, 0, 0, 0), (.aload_n 0, 1, 0, 0, 0), (.getfield 57, 3, 2, 8, 376), (.if_icmp .le 13, 3, 89, 0, 0)]),
  (79, [(.aload_n 0, 1, 0, 0, 0), (.iload_n 3, 1, 0, 0, 0), (.putfield 57, 3, 2, 8, 376), (.aload_n 0, 1, 0, 0, 0), (.iload_n 2, 1, 0, 0, 0), (.putfield 54, 3, 2, 7, 375)]),
  (89, [(.iinc 2 1, 3, 0, 0, 0), (.goto (-34), 3, 58, 0, 0)]),
  (95, [(.return_, 1, 0, 0, 0)])]
set_option maxRecDepth 20000 in
theorem ck_X2_seekAnswer : en_ck 46 bs_X2_seekAnswer = true := en_ckF_ok (J := (yX2_seekAnswer, cX2_seekAnswer, 4, none, 2, 0)) (q := (1055, 1054, 47, 11)) rfl rfl rfl (by decide +kernel)
def bs_X2_incomeBy : en_Bs := [
  (0, [(.iconst 0, 1, 0, 0, 0), (.istore_n 3, 1, 0, 0, 0), (.iconst 0, 1, 0, 0, 0), (.istore 4, 2, 0, 0, 0)]),
  (5, [(.iload 4, 2, 0, 0, 0), (.aload_n 0, 1, 0, 0, 0), (.getfield 24, 3, 2, 0, 368), (.getfield 99, 3, 0, 4, 107), (.if_icmp .ge 58, 3, 72, 0, 0)]),
  (17, [(.aload_n 0, 1, 0, 0, 0), (.getfield 15, 3, 2, 3, 371), (.iload 4, 2, 0, 0, 0), (.iaload, 1, 0, 0, 0), (.iconst (-1), 1, 0, 0, 0), (.if_icmp .eq 41, 3, 66, 0, 0)]),
  (28, [(.aload_n 0, 1, 0, 0, 0), (.iload 4, 2, 0, 0, 0), (.iload_n 1, 1, 0, 0, 0), (.iload_n 2, 1, 0, 0, 0), (.invokevirtual 105, 3, 49, 4, 1025)]),
  (36, [(.istore 5, 2, 0, 0, 0), (.iload 5, 2, 0, 0, 0), (.aload_n 0, 1, 0, 0, 0), (.getfield 15, 3, 2, 3, 371), (.iload 4, 2, 0, 0, 0), (.iaload, 1, 0, 0, 0), (.iadd, 1, 0, 0, 0), (.aload_n 0, 1, 0, 0, 0), (.getfield 24, 3, 2, 0, 368), (.iload 4, 2, 0, 0, 0), (.iconst 5, 1, 0, 0, 0), (.invokevirtual 109, 3, 11, 3, 1023)]),
  (58, [(.if_icmp .gt 8, 3, 66, 0, 0)]),
  (61, [(.iload_n 3, 1, 0, 0, 0), (.iload 5, 2, 0, 0, 0), (.iadd, 1, 0, 0, 0), (.istore_n 3, 1, 0, 0, 0)]),
  (66, [(.iinc 4 1, 3, 0, 0, 0), (.goto (-64), 3, 5, 0, 0)]),
  (72, [(.iload_n 3, 1, 0, 0, 0), (.ireturn, 1, 0, 0, 0)])]
set_option maxRecDepth 20000 in
theorem ck_X2_incomeBy : en_ck 47 bs_X2_incomeBy = true := en_ckF_ok (J := (yX2_incomeBy, cX2_incomeBy, 6, some .int, 2, 0)) (q := (1059, 1058, 48, 11)) rfl rfl rfl (by decide +kernel)
def bs_X2_costBeside : en_Bs := [
  (0, [(.aload_n 0, 1, 0, 0, 0), (.getfield 24, 3, 2, 0, 368), (.iload_n 1, 1, 0, 0, 0), (.invokevirtual 112, 3, 14, 2, 1022)]),
  (8, [(.istore_n 3, 1, 0, 0, 0), (.iload_n 2, 1, 0, 0, 0), (.iconst (-1), 1, 0, 0, 0), (.if_icmp .ne 12, 3, 23, 0, 0)]),
  (14, [(.iload_n 3, 1, 0, 0, 0), (.iconst (-1), 1, 0, 0, 0), (.if_icmp .eq 7, 3, 23, 0, 0)]),
  (19, [(.iconst 1, 1, 0, 0, 0), (.goto 4, 3, 24, 0, 0)]),
  (23, [(.iconst 0, 1, 0, 0, 0)]),
  (24, [(.istore 4, 2, 0, 0, 0), (.iconst 0, 1, 0, 0, 0), (.istore 5, 2, 0, 0, 0), (.aload_n 0, 1, 0, 0, 0), (.getfield 24, 3, 2, 0, 368), (.iload_n 1, 1, 0, 0, 0), (.iconst 1, 1, 0, 0, 0), (.invokevirtual 109, 3, 11, 3, 1023)]),
  (38, [(.istore 6, 2, 0, 0, 0), (.iconst 0, 1, 0, 0, 0), (.istore 7, 2, 0, 0, 0)]),
  (43, [(.iload 7, 2, 0, 0, 0), (.iload_n 3, 1, 0, 0, 0), (.if_icmp .ge 63, 3, 109, 0, 0)]),
  (49, [(.aload_n 0, 1, 0, 0, 0), (.getfield 24, 3, 2, 0, 368), (.iload 6, 2, 0, 0, 0), (.invokevirtual 74, 3, 3, 2, 1024)]),
  (58, [(.ifCond .eq 51, 3, 109, 0, 0)]),
  (61, [(.iload 6, 2, 0, 0, 0), (.iload_n 2, 1, 0, 0, 0), (.if_icmp .ne 9, 3, 73, 0, 0)]),
  (67, [(.iconst 1, 1, 0, 0, 0), (.istore 4, 2, 0, 0, 0), (.goto 22, 3, 92, 0, 0)]),
  (73, [(.iload 5, 2, 0, 0, 0), (.aload_n 0, 1, 0, 0, 0), (.iload_n 1, 1, 0, 0, 0), (.iload 6, 2, 0, 0, 0), (.aload_n 0, 1, 0, 0, 0), (.getfield 9, 3, 2, 2, 370), (.iload 6, 2, 0, 0, 0), (.iaload, 1, 0, 0, 0), (.invokevirtual 105, 3, 49, 4, 1025)]),
  (89, [(.iadd, 1, 0, 0, 0), (.istore 5, 2, 0, 0, 0)]),
  (92, [(.aload_n 0, 1, 0, 0, 0), (.getfield 24, 3, 2, 0, 368), (.iload 6, 2, 0, 0, 0), (.invokevirtual 116, 3, 12, 2, 1039)]),
  (101, [(.istore 6, 2, 0, 0, 0), (.iinc 7 1, 3, 0, 0, 0), (.goto (-63), 3, 43, 0, 0)]),
  (109, [(.iload 4, 2, 0, 0, 0), (.ifCond .eq 8, 3, 119, 0, 0)]),
  (114, [(.iload 5, 2, 0, 0, 0), (.goto 4, 3, 120, 0, 0)]),
  (119, [(.iconst (-1), 1, 0, 0, 0)]),
  (120, [(.ireturn, 1, 0, 0, 0)])]
set_option maxRecDepth 20000 in
theorem ck_X2_costBeside : en_ck 48 bs_X2_costBeside = true := en_ckF_ok (J := (yX2_costBeside, cX2_costBeside, 8, some .int, 2, 0)) (q := (1021, 1020, 45, 11)) rfl rfl rfl (by decide +kernel)
def bs_X2_gets : en_Bs := [
  (0, [(.aload_n 0, 1, 0, 0, 0), (.getfield 90, 3, 2, 6, 374), (.ifCond .eq 32, 3, 36, 0, 0)]),
  (7, [(.aload_n 0, 1, 0, 0, 0), (.getfield 24, 3, 2, 0, 368), (.iload_n 1, 1, 0, 0, 0), (.invokevirtual 119, 3, 4, 2, 1029)]),
  (15, [(.ifCond .eq 21, 3, 36, 0, 0)]),
  (18, [(.aload_n 0, 1, 0, 0, 0), (.getfield 24, 3, 2, 0, 368), (.iload_n 2, 1, 0, 0, 0), (.invokevirtual 74, 3, 3, 2, 1024)]),
  (26, [(.ifCond .eq 10, 3, 36, 0, 0)]),
  (29, [(.iload_n 3, 1, 0, 0, 0), (.invokestatic 122, 3, 153, 1, 5009)]),
  (33, [(.ifCond .ne 5, 3, 38, 0, 0)]),
  (36, [(.iload_n 3, 1, 0, 0, 0), (.ireturn, 1, 0, 0, 0)]),
  (38, [(.iload_n 1, 1, 0, 0, 0), (.bipush 12, 2, 0, 0, 0), (.imul, 1, 0, 0, 0), (.iload_n 2, 1, 0, 0, 0), (.iadd, 1, 0, 0, 0), (.bipush 100, 2, 0, 0, 0), (.imul, 1, 0, 0, 0), (.iload_n 3, 1, 0, 0, 0), (.iadd, 1, 0, 0, 0), (.istore 4, 2, 0, 0, 0), (.aload_n 0, 1, 0, 0, 0), (.getfield 18, 3, 2, 4, 372), (.iload 4, 2, 0, 0, 0), (.iaload, 1, 0, 0, 0), (.iconst (-1), 1, 0, 0, 0), (.if_icmp .ne 47, 3, 106, 0, 0)]),
  (62, [(.aload_n 0, 1, 0, 0, 0), (.getfield 28, 3, 2, 1, 369), (.iconst 1, 1, 0, 0, 0), (.iload_n 1, 1, 0, 0, 0), (.iload_n 2, 1, 0, 0, 0), (.iconst 0, 1, 0, 0, 0), (.iconst 0, 1, 0, 0, 0), (.aload_n 0, 1, 0, 0, 0), (.getfield 24, 3, 2, 0, 368), (.getfield 125, 3, 0, 2, 98), (.iload_n 2, 1, 0, 0, 0), (.iaload, 1, 0, 0, 0), (.iload_n 3, 1, 0, 0, 0), (.invokevirtual 128, 3, 52, 8, 1031)]),
  (84, [(.lstore 5, 2, 0, 0, 0), (.aload_n 0, 1, 0, 0, 0), (.getfield 18, 3, 2, 4, 372), (.iload 4, 2, 0, 0, 0), (.lconst 0, 1, 0, 0, 0), (.ldc2_w 134, 3, 0, 999, 1032), (.lload 5, 2, 0, 0, 0), (.invokestatic 136, 3, 905, 0, 1033), (.invokestatic 142, 3, 904, 0, 1036), (.l2i, 1, 0, 0, 0), (.iastore, 1, 0, 0, 0)]),
  (106, [(.aload_n 0, 1, 0, 0, 0), (.getfield 18, 3, 2, 4, 372), (.iload 4, 2, 0, 0, 0), (.iaload, 1, 0, 0, 0), (.ireturn, 1, 0, 0, 0)])]
set_option maxRecDepth 20000 in
theorem ck_X2_gets : en_ck 49 bs_X2_gets = true := en_ckF_ok (J := (yX2_gets, cX2_gets, 7, some .int, 2, 0)) (q := (1028, 1027, 46, 11)) rfl rfl rfl (by decide +kernel)
def bs_X3_init : en_Bs := [
  (0, [(.aload_n 0, 1, 0, 0, 0), (.invokespecial 3, 3, 900, 0, 226), (.aload_n 0, 1, 0, 0, 0), (.bipush 9, 2, 0, 0, 0), (.newarray .long, 2, 0, 0, 0), (.putfield 11, 3, 3, 1, 228), (.aload_n 0, 1, 0, 0, 0), (.bipush 64, 2, 0, 0, 0), (.newarray .long, 2, 0, 0, 0), (.putfield 15, 3, 3, 2, 229), (.aload_n 0, 1, 0, 0, 0), (.aload_n 1, 1, 0, 0, 0), (.putfield 18, 3, 3, 0, 227), (.return_, 1, 0, 0, 0)])]
set_option maxRecDepth 20000 in
theorem ck_X3_init : en_ck 50 bs_X3_init = true := en_ckF_ok (J := (yX3_init, cX3_init, 2, none, 3, 0)) (q := (225, 224, 0, 7)) rfl rfl rfl (by decide +kernel)
def bs_X3_nameOf : en_Bs := [
  (0, [(.iload_n 0, 1, 0, 0, 0), (.tableswitch 78 0 8 #[51, 54, 57, 60, 63, 66, 69, 72, 75], 51, 0, 0, 0)]),
  (52, [(.ldc 22, 2, 2, 4, 0), (.areturn, 1, 0, 0, 0)]),
  (55, [(.ldc 24, 2, 2, 5, 0), (.areturn, 1, 0, 0, 0)]),
  (58, [(.ldc 26, 2, 2, 6, 0), (.areturn, 1, 0, 0, 0)]),
  (61, [(.ldc 28, 2, 2, 7, 0), (.areturn, 1, 0, 0, 0)]),
  (64, [(.ldc 30, 2, 2, 8, 0), (.areturn, 1, 0, 0, 0)]),
  (67, [(.ldc 32, 2, 2, 9, 0), (.areturn, 1, 0, 0, 0)]),
  (70, [(.ldc 34, 2, 2, 10, 0), (.areturn, 1, 0, 0, 0)]),
  (73, [(.ldc 36, 2, 2, 11, 0), (.areturn, 1, 0, 0, 0)]),
  (76, [(.ldc 38, 2, 2, 12, 0), (.areturn, 1, 0, 0, 0)]),
  (79, [(.ldc 40, 2, 2, 13, 0), (.areturn, 1, 0, 0, 0)])]
set_option maxRecDepth 20000 in
theorem ck_X3_nameOf : en_ck 51 bs_X3_nameOf = true := en_ckF_ok (J := (yX3_nameOf, cX3_nameOf, 1, some (.object "java/lang/String"), 3, 1)) (q := (715, 714, 0, 7)) rfl rfl rfl (by decide +kernel)
def bs_X3_tells : en_Bs := [
  (0, [(.aload_n 0, 1, 0, 0, 0), (.getfield 11, 3, 3, 1, 228), (.iconst 0, 1, 0, 0, 0), (.iload_n 2, 1, 0, 0, 0), (.i2l, 1, 0, 0, 0), (.lastore, 1, 0, 0, 0), (.aload_n 0, 1, 0, 0, 0), (.getfield 11, 3, 3, 1, 228), (.iconst 1, 1, 0, 0, 0), (.aload_n 0, 1, 0, 0, 0), (.getfield 18, 3, 3, 0, 227), (.iload_n 2, 1, 0, 0, 0), (.iconst 0, 1, 0, 0, 0), (.invokevirtual 42, 3, 11, 3, 863)]),
  (22, [(.i2l, 1, 0, 0, 0), (.lastore, 1, 0, 0, 0), (.aload_n 0, 1, 0, 0, 0), (.getfield 11, 3, 3, 1, 228), (.iconst 2, 1, 0, 0, 0), (.aload_n 0, 1, 0, 0, 0), (.getfield 18, 3, 3, 0, 227), (.iload_n 2, 1, 0, 0, 0), (.iconst 4, 1, 0, 0, 0), (.invokevirtual 42, 3, 11, 3, 863)]),
  (38, [(.i2l, 1, 0, 0, 0), (.lastore, 1, 0, 0, 0), (.aload_n 0, 1, 0, 0, 0), (.getfield 11, 3, 3, 1, 228), (.iconst 3, 1, 0, 0, 0), (.iload_n 3, 1, 0, 0, 0), (.i2l, 1, 0, 0, 0), (.lastore, 1, 0, 0, 0), (.aload_n 0, 1, 0, 0, 0), (.getfield 11, 3, 3, 1, 228), (.iconst 4, 1, 0, 0, 0), (.aload_n 0, 1, 0, 0, 0), (.getfield 18, 3, 3, 0, 227), (.iload_n 3, 1, 0, 0, 0), (.invokevirtual 48, 3, 12, 2, 864)]),
  (61, [(.i2l, 1, 0, 0, 0), (.lastore, 1, 0, 0, 0), (.aload_n 0, 1, 0, 0, 0), (.getfield 11, 3, 3, 1, 228), (.iconst 5, 1, 0, 0, 0), (.iload 4, 2, 0, 0, 0), (.i2l, 1, 0, 0, 0), (.lastore, 1, 0, 0, 0), (.aload_n 0, 1, 0, 0, 0), (.getfield 11, 3, 3, 1, 228), (.bipush 6, 2, 0, 0, 0), (.iload 5, 2, 0, 0, 0), (.i2l, 1, 0, 0, 0), (.lastore, 1, 0, 0, 0), (.aload_n 0, 1, 0, 0, 0), (.getfield 11, 3, 3, 1, 228), (.bipush 7, 2, 0, 0, 0), (.iload 6, 2, 0, 0, 0), (.i2l, 1, 0, 0, 0), (.lastore, 1, 0, 0, 0), (.aload_n 0, 1, 0, 0, 0), (.getfield 11, 3, 3, 1, 228), (.bipush 8, 2, 0, 0, 0), (.iload 7, 2, 0, 0, 0), (.i2l, 1, 0, 0, 0), (.lastore, 1, 0, 0, 0), (.aload_n 0, 1, 0, 0, 0), (.getfield 18, 3, 3, 0, 227), (.invokevirtual 52, 3, 9, 1, 865)]),
  (109, [(.astore 8, 2, 0, 0, 0), (.aload 8, 2, 0, 0, 0), (.getfield 56, 3, 4, 3, 50), (.bipush 12, 2, 0, 0, 0), (.invokestatic 62, 3, 903, 0, 866), (.iconst 1, 1, 0, 0, 0), (.isub, 1, 0, 0, 0), (.istore 9, 2, 0, 0, 0)]),
  (125, [(.iload 9, 2, 0, 0, 0), (.ifCond .lt 137, 3, 264, 0, 0)]),
  (130, [(.aload 8, 2, 0, 0, 0), (.getfield 67, 3, 4, 5, 55), (.iload 9, 2, 0, 0, 0), (.iaload, 1, 0, 0, 0), (.iload_n 1, 1, 0, 0, 0), (.if_icmp .eq 6, 3, 145, 0, 0)]),
  (142, [(.goto 116, 3, 258, 0, 0)]),
  (145, [(.aload_n 0, 1, 0, 0, 0), (.iconst 0, 1, 0, 0, 0), (.putfield 71, 3, 3, 3, 230), (.aload 8, 2, 0, 0, 0), (.getfield 75, 3, 4, 7, 61), (.iload 9, 2, 0, 0, 0), (.iaload, 1, 0, 0, 0), (.aload 8, 2, 0, 0, 0), (.getfield 78, 3, 4, 8, 63), (.iload 9, 2, 0, 0, 0), (.iaload, 1, 0, 0, 0), (.if_icmp .eq 30, 3, 196, 0, 0)]),
  (169, [(.aload_n 0, 1, 0, 0, 0), (.aload 8, 2, 0, 0, 0), (.aload 8, 2, 0, 0, 0), (.getfield 75, 3, 4, 7, 61), (.iload 9, 2, 0, 0, 0), (.iaload, 1, 0, 0, 0), (.aload 8, 2, 0, 0, 0), (.getfield 78, 3, 4, 8, 63), (.iload 9, 2, 0, 0, 0), (.iaload, 1, 0, 0, 0), (.invokevirtual 81, 3, 53, 4, 869)]),
  (191, [(.lconst 0, 1, 0, 0, 0), (.lcmp, 1, 0, 0, 0), (.ifCond .eq 7, 3, 200, 0, 0)]),
  (196, [(.iconst 1, 1, 0, 0, 0), (.goto 4, 3, 201, 0, 0)]),
  (200, [(.iconst 0, 1, 0, 0, 0)]),
  (201, [(.istore 10, 2, 0, 0, 0), (.iload 10, 2, 0, 0, 0), (.ifCond .eq 53, 3, 258, 0, 0)]),
  (208, [(.aload_n 0, 1, 0, 0, 0), (.getfield 71, 3, 3, 3, 230), (.ifCond .ne 46, 3, 258, 0, 0)]),
  (215, [(.iload_n 1, 1, 0, 0, 0), (.iconst 2, 1, 0, 0, 0), (.if_icmp .ne 7, 3, 224, 0, 0)]),
  (220, [(.lconst 1, 1, 0, 0, 0), (.goto 25, 3, 246, 0, 0)]),
  (224, [(.aload_n 0, 1, 0, 0, 0), (.aload 8, 2, 0, 0, 0), (.aload 8, 2, 0, 0, 0), (.getfield 85, 3, 4, 6, 58), (.iload 9, 2, 0, 0, 0), (.iaload, 1, 0, 0, 0), (.aload 8, 2, 0, 0, 0), (.getfield 75, 3, 4, 7, 61), (.iload 9, 2, 0, 0, 0), (.iaload, 1, 0, 0, 0), (.invokevirtual 81, 3, 53, 4, 869)]),
  (246, [(.lstore 11, 2, 0, 0, 0), (.aload_n 0, 1, 0, 0, 0), (.getfield 71, 3, 3, 3, 230), (.ifCond .ne 6, 3, 258, 0, 0)]),
  (255, [(.lload 11, 2, 0, 0, 0), (.lreturn, 1, 0, 0, 0)]),
  (258, [(.iinc 9 (-1), 3, 0, 0, 0), (.goto (-136), 3, 125, 0, 0)]),
  (264, [(.iload_n 1, 1, 0, 0, 0), (.iconst 1, 1, 0, 0, 0), (.if_icmp .ne 9, 3, 275, 0, 0)]),
  (269, [(.iload 7, 2, 0, 0, 0), (.i2l, 1, 0, 0, 0), (.goto 4, 3, 276, 0, 0)]),
  (275, [(.lconst 0, 1, 0, 0, 0)]),
  (276, [(.lreturn, 1, 0, 0, 0)])]
set_option maxRecDepth 20000 in
theorem ck_X3_tells : en_ck 52 bs_X3_tells = true := en_ckF_ok (J := (yX3_tells, cX3_tells, 13, some .long, 3, 0)) (q := (862, 860, 969, 7)) rfl rfl rfl (by decide +kernel)
def bs_X3_worth : en_Bs := [
  (0, [(.aload_n 0, 1, 0, 0, 0), (.iconst 0, 1, 0, 0, 0), (.putfield 71, 3, 3, 3, 230), (.iload_n 3, 1, 0, 0, 0), (.sipush 400, 3, 0, 0, 0), (.invokestatic 62, 3, 903, 0, 866), (.istore 4, 2, 0, 0, 0), (.iconst 0, 1, 0, 0, 0), (.iload_n 2, 1, 0, 0, 0), (.invokestatic 88, 3, 902, 0, 873), (.istore 5, 2, 0, 0, 0), (.iconst 0, 1, 0, 0, 0), (.istore 6, 2, 0, 0, 0), (.iconst 0, 1, 0, 0, 0), (.istore 7, 2, 0, 0, 0)]),
  (27, [(.iload 7, 2, 0, 0, 0), (.sipush 400, 3, 0, 0, 0), (.if_icmp .ge 262, 3, 294, 0, 0)]),
  (35, [(.iload 5, 2, 0, 0, 0), (.iload 4, 2, 0, 0, 0), (.if_icmp .ge 255, 3, 294, 0, 0)]),
  (42, [(.aload_n 0, 1, 0, 0, 0), (.getfield 71, 3, 3, 3, 230), (.ifCond .ne 248, 3, 294, 0, 0)]),
  (49, [(.aload_n 1, 1, 0, 0, 0), (.getfield 91, 3, 4, 1, 45), (.iload 5, 2, 0, 0, 0), (.iaload, 1, 0, 0, 0), (.istore 8, 2, 0, 0, 0), (.aload_n 1, 1, 0, 0, 0), (.getfield 94, 3, 4, 2, 47), (.iload 5, 2, 0, 0, 0), (.iaload, 1, 0, 0, 0), (.istore 9, 2, 0, 0, 0), (.iinc 5 1, 3, 0, 0, 0), (.iload 8, 2, 0, 0, 0), (.ifCond .eq 9, 3, 81, 0, 0)]),
  (75, [(.iload 8, 2, 0, 0, 0), (.iconst 1, 1, 0, 0, 0), (.if_icmp .ne 57, 3, 135, 0, 0)]),
  (81, [(.iload 6, 2, 0, 0, 0), (.bipush 64, 2, 0, 0, 0), (.if_icmp .ge 203, 3, 288, 0, 0)]),
  (88, [(.aload_n 0, 1, 0, 0, 0), (.getfield 15, 3, 3, 2, 229), (.iload 6, 2, 0, 0, 0), (.iload 8, 2, 0, 0, 0), (.ifCond .ne 9, 3, 105, 0, 0)]),
  (99, [(.iload 9, 2, 0, 0, 0), (.i2l, 1, 0, 0, 0), (.goto 26, 3, 128, 0, 0)]),
  (105, [(.iload 9, 2, 0, 0, 0), (.ifCond .lt 20, 3, 127, 0, 0)]),
  (110, [(.iload 9, 2, 0, 0, 0), (.bipush 9, 2, 0, 0, 0), (.if_icmp .ge 13, 3, 127, 0, 0)]),
  (117, [(.aload_n 0, 1, 0, 0, 0), (.getfield 11, 3, 3, 1, 228), (.iload 9, 2, 0, 0, 0), (.laload, 1, 0, 0, 0), (.goto 4, 3, 128, 0, 0)]),
  (127, [(.lconst 0, 1, 0, 0, 0)]),
  (128, [(.lastore, 1, 0, 0, 0), (.iinc 6 1, 3, 0, 0, 0), (.goto 156, 3, 288, 0, 0)]),
  (135, [(.iload 8, 2, 0, 0, 0), (.bipush 9, 2, 0, 0, 0), (.if_icmp .ne 31, 3, 170, 0, 0)]),
  (142, [(.iload 6, 2, 0, 0, 0), (.ifCond .le 144, 3, 288, 0, 0)]),
  (147, [(.aload_n 0, 1, 0, 0, 0), (.getfield 15, 3, 3, 2, 229), (.iload 6, 2, 0, 0, 0), (.iconst 1, 1, 0, 0, 0), (.isub, 1, 0, 0, 0), (.lconst 1, 1, 0, 0, 0), (.aload_n 0, 1, 0, 0, 0), (.getfield 15, 3, 3, 2, 229), (.iload 6, 2, 0, 0, 0), (.iconst 1, 1, 0, 0, 0), (.isub, 1, 0, 0, 0), (.laload, 1, 0, 0, 0), (.lsub, 1, 0, 0, 0), (.lastore, 1, 0, 0, 0), (.goto 121, 3, 288, 0, 0)]),
  (170, [(.iload 8, 2, 0, 0, 0), (.bipush 10, 2, 0, 0, 0), (.if_icmp .eq 10, 3, 184, 0, 0)]),
  (177, [(.iload 8, 2, 0, 0, 0), (.bipush 11, 2, 0, 0, 0), (.if_icmp .ne 67, 3, 248, 0, 0)]),
  (184, [(.iload 6, 2, 0, 0, 0), (.ifCond .le 49, 3, 235, 0, 0)]),
  (189, [(.aload_n 0, 1, 0, 0, 0), (.getfield 15, 3, 3, 2, 229), (.iload 6, 2, 0, 0, 0), (.iconst 1, 1, 0, 0, 0), (.isub, 1, 0, 0, 0), (.laload, 1, 0, 0, 0), (.lconst 0, 1, 0, 0, 0), (.lcmp, 1, 0, 0, 0), (.ifCond .eq 7, 3, 207, 0, 0)]),
  (203, [(.iconst 1, 1, 0, 0, 0), (.goto 4, 3, 208, 0, 0)]),
  (207, [(.iconst 0, 1, 0, 0, 0)]),
  (208, [(.iload 8, 2, 0, 0, 0), (.bipush 11, 2, 0, 0, 0), (.if_icmp .ne 7, 3, 219, 0, 0)]),
  (215, [(.iconst 1, 1, 0, 0, 0), (.goto 4, 3, 220, 0, 0)]),
  (219, [(.iconst 0, 1, 0, 0, 0)]),
  (220, [(.if_icmp .ne 15, 3, 235, 0, 0)]),
  (223, [(.iload 5, 2, 0, 0, 0), (.iload 9, 2, 0, 0, 0), (.invokestatic 88, 3, 902, 0, 873), (.istore 5, 2, 0, 0, 0), (.goto 56, 3, 288, 0, 0)]),
  (235, [(.iconst 0, 1, 0, 0, 0), (.iload 6, 2, 0, 0, 0), (.iconst 1, 1, 0, 0, 0), (.isub, 1, 0, 0, 0), (.invokestatic 88, 3, 902, 0, 873), (.istore 6, 2, 0, 0, 0), (.goto 43, 3, 288, 0, 0)]),
  (248, [(.iload 6, 2, 0, 0, 0), (.iconst 1, 1, 0, 0, 0), (.if_icmp .le 37, 3, 288, 0, 0)]),
  (254, [(.iinc 6 (-1), 3, 0, 0, 0), (.aload_n 0, 1, 0, 0, 0), (.getfield 15, 3, 3, 2, 229), (.iload 6, 2, 0, 0, 0), (.iconst 1, 1, 0, 0, 0), (.isub, 1, 0, 0, 0), (.aload_n 0, 1, 0, 0, 0), (.iload 8, 2, 0, 0, 0), (.aload_n 0, 1, 0, 0, 0), (.getfield 15, 3, 3, 2, 229), (.iload 6, 2, 0, 0, 0), (.iconst 1, 1, 0, 0, 0), (.isub, 1, 0, 0, 0), (.laload, 1, 0, 0, 0), (.aload_n 0, 1, 0, 0, 0), (.getfield 15, 3, 3, 2, 229), (.iload 6, 2, 0, 0, 0), (.laload, 1, 0, 0, 0), (.invokevirtual 97, 3, 54, 4, 876)]),
  (287, [(.lastore, 1, 0, 0, 0)]),
  (288, [(.iinc 7 1, 3, 0, 0, 0), (.goto (-264), 3, 27, 0, 0)]),
  (294, [(.aload_n 0, 1, 0, 0, 0), (.getfield 15, 3, 3, 2, 229), (.iconst 0, 1, 0, 0, 0), (.laload, 1, 0, 0, 0), (.lreturn, 1, 0, 0, 0)])]
set_option maxRecDepth 20000 in
theorem ck_X3_worth : en_ck 53 bs_X3_worth = true := en_ckF_ok (J := (yX3_worth, cX3_worth, 10, some .long, 3, 0)) (q := (872, 871, 29, 7)) rfl rfl rfl (by decide +kernel)
def bs_X3_joined : en_Bs := [
  (0, [(.lconst 0, 1, 0, 0, 0), (.lstore 6, 2, 0, 0, 0), (.iload_n 1, 1, 0, 0, 0), (.tableswitch 117 2 7 #[40, 49, 58, 67, 91, 104], 40, 0, 0, 0)]),
  (44, [(.lload_n 2, 1, 0, 0, 0), (.lload 4, 2, 0, 0, 0), (.ladd, 1, 0, 0, 0), (.lstore 6, 2, 0, 0, 0), (.goto 84, 3, 134, 0, 0)]),
  (53, [(.lload_n 2, 1, 0, 0, 0), (.lload 4, 2, 0, 0, 0), (.lsub, 1, 0, 0, 0), (.lstore 6, 2, 0, 0, 0), (.goto 75, 3, 134, 0, 0)]),
  (62, [(.lload_n 2, 1, 0, 0, 0), (.lload 4, 2, 0, 0, 0), (.lmul, 1, 0, 0, 0), (.lstore 6, 2, 0, 0, 0), (.goto 66, 3, 134, 0, 0)]),
  (71, [(.lload 4, 2, 0, 0, 0), (.lconst 0, 1, 0, 0, 0), (.lcmp, 1, 0, 0, 0), (.ifCond .ne 11, 3, 86, 0, 0)]),
  (78, [(.aload_n 0, 1, 0, 0, 0), (.iconst 1, 1, 0, 0, 0), (.putfield 71, 3, 3, 3, 230), (.goto 51, 3, 134, 0, 0)]),
  (86, [(.lload_n 2, 1, 0, 0, 0), (.lload 4, 2, 0, 0, 0), (.ldiv, 1, 0, 0, 0), (.lstore 6, 2, 0, 0, 0), (.goto 42, 3, 134, 0, 0)]),
  (95, [(.lload_n 2, 1, 0, 0, 0), (.lload 4, 2, 0, 0, 0), (.lcmp, 1, 0, 0, 0), (.ifCond .ge 7, 3, 106, 0, 0)]),
  (102, [(.lconst 1, 1, 0, 0, 0), (.goto 4, 3, 107, 0, 0)]),
  (106, [(.lconst 0, 1, 0, 0, 0)]),
  (107, [(.lreturn, 1, 0, 0, 0)]),
  (108, [(.lload_n 2, 1, 0, 0, 0), (.lload 4, 2, 0, 0, 0), (.lcmp, 1, 0, 0, 0), (.ifCond .le 7, 3, 119, 0, 0)]),
  (115, [(.lconst 1, 1, 0, 0, 0), (.goto 4, 3, 120, 0, 0)]),
  (119, [(.lconst 0, 1, 0, 0, 0)]),
  (120, [(.lreturn, 1, 0, 0, 0)]),
  (121, [(.lload_n 2, 1, 0, 0, 0), (.lload 4, 2, 0, 0, 0), (.lcmp, 1, 0, 0, 0), (.ifCond .ne 7, 3, 132, 0, 0)]),
  (128, [(.lconst 1, 1, 0, 0, 0), (.goto 4, 3, 133, 0, 0)]),
  (132, [(.lconst 0, 1, 0, 0, 0)]),
  (133, [(.lreturn, 1, 0, 0, 0)]),
  (134, [(.aload_n 0, 1, 0, 0, 0), (.aload_n 0, 1, 0, 0, 0), (.getfield 71, 3, 3, 3, 230), (.ifCond .ne 21, 3, 160, 0, 0)]),
  (142, [(.lload 6, 2, 0, 0, 0), (.ldc2_w 101, 3, 0, 1000000000, 880), (.lcmp, 1, 0, 0, 0), (.ifCond .gt 12, 3, 160, 0, 0)]),
  (151, [(.lload 6, 2, 0, 0, 0), (.ldc2_w 103, 3, 0, 18446744072709551616, 881), (.lcmp, 1, 0, 0, 0), (.ifCond .ge 7, 3, 164, 0, 0)]),
  (160, [(.iconst 1, 1, 0, 0, 0), (.goto 4, 3, 165, 0, 0)]),
  (164, [(.iconst 0, 1, 0, 0, 0)]),
  (165, [(.putfield 71, 3, 3, 3, 230), (.lload 6, 2, 0, 0, 0), (.lreturn, 1, 0, 0, 0)])]
set_option maxRecDepth 20000 in
theorem ck_X3_joined : en_ck 54 bs_X3_joined = true := en_ckF_ok (J := (yX3_joined, cX3_joined, 8, some .long, 3, 0)) (q := (879, 878, 30, 7)) rfl rfl rfl (by decide +kernel)
def bs_X4_init : en_Bs := [
  (0, [(.aload_n 0, 1, 0, 0, 0), (.invokespecial 3, 3, 900, 0, 41), (.aload_n 0, 1, 0, 0, 0), (.sipush 400, 3, 0, 0, 0), (.newarray .int, 2, 0, 0, 0), (.putfield 9, 3, 4, 1, 44), (.aload_n 0, 1, 0, 0, 0), (.sipush 400, 3, 0, 0, 0), (.newarray .int, 2, 0, 0, 0), (.putfield 15, 3, 4, 2, 46), (.aload_n 0, 1, 0, 0, 0), (.bipush 12, 2, 0, 0, 0), (.newarray .int, 2, 0, 0, 0), (.putfield 18, 3, 4, 5, 53), (.aload_n 0, 1, 0, 0, 0), (.bipush 12, 2, 0, 0, 0), (.newarray .int, 2, 0, 0, 0), (.putfield 21, 3, 4, 6, 56), (.aload_n 0, 1, 0, 0, 0), (.bipush 12, 2, 0, 0, 0), (.newarray .int, 2, 0, 0, 0), (.putfield 24, 3, 4, 7, 59), (.aload_n 0, 1, 0, 0, 0), (.bipush 12, 2, 0, 0, 0), (.newarray .int, 2, 0, 0, 0), (.putfield 27, 3, 4, 8, 62), (.return_, 1, 0, 0, 0)])]
set_option maxRecDepth 20000 in
theorem ck_X4_init : en_ck 55 bs_X4_init = true := en_ckF_ok (J := (yX4_init, cX4_init, 1, none, 4, 0)) (q := (40, 39, 0, 3)) rfl rfl rfl (by decide +kernel)
def bs_X4_become : en_Bs := [
  (0, [(.aload_n 0, 1, 0, 0, 0), (.aload_n 1, 1, 0, 0, 0), (.getfield 30, 3, 4, 0, 42), (.putfield 30, 3, 4, 0, 42), (.aload_n 1, 1, 0, 0, 0), (.getfield 9, 3, 4, 1, 44), (.iconst 0, 1, 0, 0, 0), (.aload_n 0, 1, 0, 0, 0), (.getfield 9, 3, 4, 1, 44), (.iconst 0, 1, 0, 0, 0), (.sipush 400, 3, 0, 0, 0), (.invokestatic 34, 3, 901, 0, 749), (.aload_n 1, 1, 0, 0, 0), (.getfield 15, 3, 4, 2, 46), (.iconst 0, 1, 0, 0, 0), (.aload_n 0, 1, 0, 0, 0), (.getfield 15, 3, 4, 2, 46), (.iconst 0, 1, 0, 0, 0), (.sipush 400, 3, 0, 0, 0), (.invokestatic 34, 3, 901, 0, 749), (.aload_n 0, 1, 0, 0, 0), (.aload_n 1, 1, 0, 0, 0), (.getfield 40, 3, 4, 3, 48), (.putfield 40, 3, 4, 3, 48), (.aload_n 0, 1, 0, 0, 0), (.aload_n 1, 1, 0, 0, 0), (.getfield 43, 3, 4, 4, 51), (.putfield 43, 3, 4, 4, 51), (.aload_n 1, 1, 0, 0, 0), (.getfield 18, 3, 4, 5, 53), (.iconst 0, 1, 0, 0, 0), (.aload_n 0, 1, 0, 0, 0), (.getfield 18, 3, 4, 5, 53), (.iconst 0, 1, 0, 0, 0), (.bipush 12, 2, 0, 0, 0), (.invokestatic 34, 3, 901, 0, 749), (.aload_n 1, 1, 0, 0, 0), (.getfield 21, 3, 4, 6, 56), (.iconst 0, 1, 0, 0, 0), (.aload_n 0, 1, 0, 0, 0), (.getfield 21, 3, 4, 6, 56), (.iconst 0, 1, 0, 0, 0), (.bipush 12, 2, 0, 0, 0), (.invokestatic 34, 3, 901, 0, 749), (.aload_n 1, 1, 0, 0, 0), (.getfield 24, 3, 4, 7, 59), (.iconst 0, 1, 0, 0, 0), (.aload_n 0, 1, 0, 0, 0), (.getfield 24, 3, 4, 7, 59), (.iconst 0, 1, 0, 0, 0), (.bipush 12, 2, 0, 0, 0), (.invokestatic 34, 3, 901, 0, 749), (.aload_n 1, 1, 0, 0, 0), (.getfield 27, 3, 4, 8, 62), (.iconst 0, 1, 0, 0, 0), (.aload_n 0, 1, 0, 0, 0), (.getfield 27, 3, 4, 8, 62), (.iconst 0, 1, 0, 0, 0), (.bipush 12, 2, 0, 0, 0), (.invokestatic 34, 3, 901, 0, 749), (.return_, 1, 0, 0, 0)])]
set_option maxRecDepth 20000 in
theorem ck_X4_become : en_ck 56 bs_X4_become = true := en_ckF_ok (J := (yX4_become, cX4_become, 2, none, 4, 0)) (q := (748, 746, 855, 3)) rfl rfl rfl (by decide +kernel)
def bs_X4_wipe : en_Bs := [
  (0, [(.aload_n 0, 1, 0, 0, 0), (.iconst 0, 1, 0, 0, 0), (.putfield 30, 3, 4, 0, 42), (.aload_n 0, 1, 0, 0, 0), (.iconst 0, 1, 0, 0, 0), (.putfield 40, 3, 4, 3, 48), (.aload_n 0, 1, 0, 0, 0), (.iconst 0, 1, 0, 0, 0), (.putfield 43, 3, 4, 4, 51), (.return_, 1, 0, 0, 0)])]
set_option maxRecDepth 20000 in
theorem ck_X4_wipe : en_ck 57 bs_X4_wipe = true := en_ckF_ok (J := (yX4_wipe, cX4_wipe, 1, none, 4, 0)) (q := (600, 598, 707, 3)) rfl rfl rfl (by decide +kernel)
def bs_X4_speaksOf : en_Bs := [
  (0, [(.aload_n 0, 1, 0, 0, 0), (.getfield 43, 3, 4, 4, 51), (.iload_n 1, 1, 0, 0, 0), (.invokestatic 46, 3, 155, 2, 5006)]),
  (8, [(.ireturn, 1, 0, 0, 0)])]
set_option maxRecDepth 20000 in
theorem ck_X4_speaksOf : en_ck 58 bs_X4_speaksOf = true := en_ckF_ok (J := (yX4_speaksOf, cX4_speaksOf, 2, some .boolean, 4, 0)) (q := (857, 855, 964, 3)) rfl rfl rfl (by decide +kernel)
