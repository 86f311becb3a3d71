def bs_X4_asksOfTime : en_Bs := [
  (0, [(.iconst 0, 1, 0, 0, 0), (.istore_n 1, 1, 0, 0, 0)]),
  (2, [(.iload_n 1, 1, 0, 0, 0), (.aload_n 0, 1, 0, 0, 0), (.getfield 30, 3, 4, 0, 42), (.if_icmp .ge 49, 3, 56, 0, 0)]),
  (10, [(.iload_n 1, 1, 0, 0, 0), (.sipush 400, 3, 0, 0, 0), (.if_icmp .ge 42, 3, 56, 0, 0)]),
  (17, [(.aload_n 0, 1, 0, 0, 0), (.getfield 9, 3, 4, 1, 44), (.iload_n 1, 1, 0, 0, 0), (.iaload, 1, 0, 0, 0), (.iconst 1, 1, 0, 0, 0), (.if_icmp .ne 26, 3, 50, 0, 0)]),
  (27, [(.aload_n 0, 1, 0, 0, 0), (.getfield 15, 3, 4, 2, 46), (.iload_n 1, 1, 0, 0, 0), (.iaload, 1, 0, 0, 0), (.iconst 5, 1, 0, 0, 0), (.if_icmp .eq 14, 3, 48, 0, 0)]),
  (37, [(.aload_n 0, 1, 0, 0, 0), (.getfield 15, 3, 4, 2, 46), (.iload_n 1, 1, 0, 0, 0), (.iaload, 1, 0, 0, 0), (.bipush 6, 2, 0, 0, 0), (.if_icmp .ne 5, 3, 50, 0, 0)]),
  (48, [(.iconst 1, 1, 0, 0, 0), (.ireturn, 1, 0, 0, 0)]),
  (50, [(.iinc 1 1, 3, 0, 0, 0), (.goto (-51), 3, 2, 0, 0)]),
  (56, [(.iconst 0, 1, 0, 0, 0), (.ireturn, 1, 0, 0, 0)])]
set_option maxRecDepth 20000 in
theorem ck_X4_asksOfTime : en_ck 59 bs_X4_asksOfTime = true := en_ckF_ok (J := (yX4_asksOfTime, cX4_asksOfTime, 2, some .boolean, 4, 0)) (q := (953, 951, 1060, 3)) rfl rfl rfl (by decide +kernel)
def bs_X4_add : en_Bs := [
  (0, [(.aload_n 0, 1, 0, 0, 0), (.getfield 30, 3, 4, 0, 42), (.sipush 400, 3, 0, 0, 0), (.if_icmp .lt 5, 3, 12, 0, 0)]),
  (10, [(.iconst (-1), 1, 0, 0, 0), (.ireturn, 1, 0, 0, 0)]),
  (12, [(.aload_n 0, 1, 0, 0, 0), (.getfield 9, 3, 4, 1, 44), (.aload_n 0, 1, 0, 0, 0), (.getfield 30, 3, 4, 0, 42), (.iload_n 1, 1, 0, 0, 0), (.iastore, 1, 0, 0, 0), (.aload_n 0, 1, 0, 0, 0), (.getfield 15, 3, 4, 2, 46), (.aload_n 0, 1, 0, 0, 0), (.getfield 30, 3, 4, 0, 42), (.iload_n 2, 1, 0, 0, 0), (.iastore, 1, 0, 0, 0), (.aload_n 0, 1, 0, 0, 0), (.dup, 1, 0, 0, 0), (.getfield 30, 3, 4, 0, 42), (.iconst 1, 1, 0, 0, 0), (.iadd, 1, 0, 0, 0), (.putfield 30, 3, 4, 0, 42), (.aload_n 0, 1, 0, 0, 0), (.getfield 30, 3, 4, 0, 42), (.iconst 1, 1, 0, 0, 0), (.isub, 1, 0, 0, 0), (.ireturn, 1, 0, 0, 0)])]
set_option maxRecDepth 20000 in
theorem ck_X4_add : en_ck 60 bs_X4_add = true := en_ckF_ok (J := (yX4_add, cX4_add, 3, some .int, 4, 0)) (q := (700, 698, 807, 3)) rfl rfl rfl (by decide +kernel)
def bs_X4_aimAtEnd : en_Bs := [
  (0, [(.iload_n 1, 1, 0, 0, 0), (.ifCond .lt 21, 3, 22, 0, 0)]),
  (4, [(.iload_n 1, 1, 0, 0, 0), (.aload_n 0, 1, 0, 0, 0), (.getfield 30, 3, 4, 0, 42), (.if_icmp .ge 13, 3, 22, 0, 0)]),
  (12, [(.aload_n 0, 1, 0, 0, 0), (.getfield 15, 3, 4, 2, 46), (.iload_n 1, 1, 0, 0, 0), (.aload_n 0, 1, 0, 0, 0), (.getfield 30, 3, 4, 0, 42), (.iastore, 1, 0, 0, 0)]),
  (22, [(.return_, 1, 0, 0, 0)])]
set_option maxRecDepth 20000 in
theorem ck_X4_aimAtEnd : en_ck 61 bs_X4_aimAtEnd = true := en_ckF_ok (J := (yX4_aimAtEnd, cX4_aimAtEnd, 2, none, 4, 0)) (q := (729, 727, 836, 3)) rfl rfl rfl (by decide +kernel)
def bs_X5_init : en_Bs := [
  (0, [(.aload_n 0, 1, 0, 0, 0), (.invokespecial 3, 3, 900, 0, 184), (.aload_n 0, 1, 0, 0, 0), (.new 9, 3, 4, 0, 185), (.dup, 1, 0, 0, 0), (.invokespecial 11, 3, 55, 1, 5002)]),
  (12, [(.putfield 12, 3, 5, 1, 188), (.aload_n 0, 1, 0, 0, 0), (.iconst (-1), 1, 0, 0, 0), (.putfield 18, 3, 5, 2, 190), (.aload_n 0, 1, 0, 0, 0), (.aload_n 1, 1, 0, 0, 0), (.putfield 22, 3, 5, 0, 187), (.return_, 1, 0, 0, 0)])]
set_option maxRecDepth 20000 in
theorem ck_X5_init : en_ck 62 bs_X5_init = true := en_ckF_ok (J := (yX5_init, cX5_init, 2, none, 5, 0)) (q := (183, 182, 0, 5)) rfl rfl rfl (by decide +kernel)
def bs_X5_read : en_Bs := [
  (0, [(.aload_n 0, 1, 0, 0, 0), (.iconst (-1), 1, 0, 0, 0), (.putfield 18, 3, 5, 2, 190), (.aload_n 0, 1, 0, 0, 0), (.iconst 0, 1, 0, 0, 0), (.putfield 26, 3, 5, 5, 194), (.aload_n 0, 1, 0, 0, 0), (.iconst 0, 1, 0, 0, 0), (.putfield 29, 3, 5, 6, 195), (.aload_n 0, 1, 0, 0, 0), (.getfield 12, 3, 5, 1, 188), (.invokevirtual 32, 3, 57, 1, 597)]),
  (22, [(.aload_n 0, 1, 0, 0, 0), (.invokevirtual 35, 3, 73, 1, 601)]),
  (26, [(.aload_n 0, 1, 0, 0, 0), (.invokevirtual 38, 3, 64, 1, 609)]),
  (30, [(.iconst 0, 1, 0, 0, 0), (.istore_n 1, 1, 0, 0, 0)]),
  (32, [(.iload_n 1, 1, 0, 0, 0), (.sipush 400, 3, 0, 0, 0), (.if_icmp .ge 34, 3, 70, 0, 0)]),
  (39, [(.aload_n 0, 1, 0, 0, 0), (.getfield 18, 3, 5, 2, 190), (.iconst (-1), 1, 0, 0, 0), (.if_icmp .ne 26, 3, 70, 0, 0)]),
  (47, [(.aload_n 0, 1, 0, 0, 0), (.bipush 59, 2, 0, 0, 0), (.invokevirtual 41, 3, 75, 2, 681)]),
  (53, [(.ifCond .eq 17, 3, 70, 0, 0)]),
  (56, [(.aload_n 0, 1, 0, 0, 0), (.invokevirtual 35, 3, 73, 1, 601)]),
  (60, [(.aload_n 0, 1, 0, 0, 0), (.invokevirtual 38, 3, 64, 1, 609)]),
  (64, [(.iinc 1 1, 3, 0, 0, 0), (.goto (-35), 3, 32, 0, 0)]),
  (70, [(.aload_n 0, 1, 0, 0, 0), (.getfield 45, 3, 5, 3, 192), (.iconst 3, 1, 0, 0, 0), (.if_icmp .eq 7, 3, 82, 0, 0)]),
  (78, [(.aload_n 0, 1, 0, 0, 0), (.invokevirtual 48, 3, 72, 1, 668)]),
  (82, [(.aload_n 0, 1, 0, 0, 0), (.getfield 18, 3, 5, 2, 190), (.iconst (-1), 1, 0, 0, 0), (.if_icmp .ne 7, 3, 94, 0, 0)]),
  (90, [(.iconst 1, 1, 0, 0, 0), (.goto 4, 3, 95, 0, 0)]),
  (94, [(.iconst 0, 1, 0, 0, 0)]),
  (95, [(.ireturn, 1, 0, 0, 0)])]
set_option maxRecDepth 20000 in
theorem ck_X5_read : en_ck 63 bs_X5_read = true := en_ckF_ok (J := (yX5_read, cX5_read, 2, some .boolean, 5, 0)) (q := (596, 594, 703, 5)) rfl rfl rfl (by decide +kernel)
def bs_X5_readClause : en_Bs := [
  (0, [(.aload_n 0, 1, 0, 0, 0), (.ldc 51, 2, 2, 0, 0), (.invokevirtual 53, 3, 76, 2, 614)]),
  (6, [(.ifCond .eq 7, 3, 13, 0, 0)]),
  (9, [(.iconst 0, 1, 0, 0, 0), (.goto 30, 3, 40, 0, 0)]),
  (13, [(.aload_n 0, 1, 0, 0, 0), (.ldc 57, 2, 2, 1, 0), (.invokevirtual 53, 3, 76, 2, 614)]),
  (19, [(.ifCond .eq 7, 3, 26, 0, 0)]),
  (22, [(.iconst 1, 1, 0, 0, 0), (.goto 17, 3, 40, 0, 0)]),
  (26, [(.aload_n 0, 1, 0, 0, 0), (.ldc 59, 2, 2, 2, 0), (.invokevirtual 53, 3, 76, 2, 614)]),
  (32, [(.ifCond .eq 7, 3, 39, 0, 0)]),
  (35, [(.iconst 2, 1, 0, 0, 0), (.goto 4, 3, 40, 0, 0)]),
  (39, [(.iconst (-1), 1, 0, 0, 0)]),
  (40, [(.istore_n 1, 1, 0, 0, 0), (.aload_n 0, 1, 0, 0, 0), (.getfield 12, 3, 5, 1, 188), (.getfield 61, 3, 4, 3, 49), (.istore_n 2, 1, 0, 0, 0), (.iload_n 1, 1, 0, 0, 0), (.iconst (-1), 1, 0, 0, 0), (.if_icmp .eq 9, 3, 60, 0, 0)]),
  (54, [(.iload_n 2, 1, 0, 0, 0), (.bipush 12, 2, 0, 0, 0), (.if_icmp .lt 8, 3, 65, 0, 0)]),
  (60, [(.aload_n 0, 1, 0, 0, 0), (.invokevirtual 48, 3, 72, 1, 668)]),
  (64, [(.return_, 1, 0, 0, 0)]),
  (65, [(.aload_n 0, 1, 0, 0, 0), (.invokevirtual 35, 3, 73, 1, 601)]),
  (69, [(.aload_n 0, 1, 0, 0, 0), (.getfield 12, 3, 5, 1, 188), (.iload_n 2, 1, 0, 0, 0), (.iconst 1, 1, 0, 0, 0), (.iadd, 1, 0, 0, 0), (.putfield 61, 3, 4, 3, 49), (.aload_n 0, 1, 0, 0, 0), (.getfield 12, 3, 5, 1, 188), (.getfield 64, 3, 4, 5, 54), (.iload_n 2, 1, 0, 0, 0), (.iload_n 1, 1, 0, 0, 0), (.iastore, 1, 0, 0, 0), (.aload_n 0, 1, 0, 0, 0), (.getfield 12, 3, 5, 1, 188), (.dup, 1, 0, 0, 0), (.getfield 68, 3, 4, 4, 52), (.iconst 1, 1, 0, 0, 0), (.iload_n 1, 1, 0, 0, 0), (.ishl, 1, 0, 0, 0), (.ior, 1, 0, 0, 0), (.putfield 68, 3, 4, 4, 52), (.aload_n 0, 1, 0, 0, 0), (.getfield 12, 3, 5, 1, 188), (.getfield 71, 3, 4, 6, 57), (.iload_n 2, 1, 0, 0, 0), (.aload_n 0, 1, 0, 0, 0), (.getfield 12, 3, 5, 1, 188), (.getfield 74, 3, 4, 0, 43), (.iastore, 1, 0, 0, 0), (.iload_n 1, 1, 0, 0, 0), (.iconst 2, 1, 0, 0, 0), (.if_icmp .eq 9, 3, 131, 0, 0)]),
  (125, [(.aload_n 0, 1, 0, 0, 0), (.iconst 2, 1, 0, 0, 0), (.iconst 0, 1, 0, 0, 0), (.invokevirtual 77, 3, 65, 3, 672)]),
  (131, [(.aload_n 0, 1, 0, 0, 0), (.getfield 12, 3, 5, 1, 188), (.getfield 81, 3, 4, 7, 60), (.iload_n 2, 1, 0, 0, 0), (.aload_n 0, 1, 0, 0, 0), (.getfield 12, 3, 5, 1, 188), (.getfield 74, 3, 4, 0, 43), (.iastore, 1, 0, 0, 0), (.aload_n 0, 1, 0, 0, 0), (.getfield 18, 3, 5, 2, 190), (.iconst (-1), 1, 0, 0, 0), (.if_icmp .ne 22, 3, 174, 0, 0)]),
  (155, [(.aload_n 0, 1, 0, 0, 0), (.ldc 84, 2, 2, 16, 0), (.invokevirtual 53, 3, 76, 2, 614)]),
  (161, [(.ifCond .eq 13, 3, 174, 0, 0)]),
  (164, [(.aload_n 0, 1, 0, 0, 0), (.invokevirtual 35, 3, 73, 1, 601)]),
  (168, [(.aload_n 0, 1, 0, 0, 0), (.iconst 0, 1, 0, 0, 0), (.iconst 0, 1, 0, 0, 0), (.invokevirtual 77, 3, 65, 3, 672)]),
  (174, [(.aload_n 0, 1, 0, 0, 0), (.getfield 12, 3, 5, 1, 188), (.getfield 86, 3, 4, 8, 64), (.iload_n 2, 1, 0, 0, 0), (.aload_n 0, 1, 0, 0, 0), (.getfield 12, 3, 5, 1, 188), (.getfield 74, 3, 4, 0, 43), (.iastore, 1, 0, 0, 0), (.return_, 1, 0, 0, 0)])]
set_option maxRecDepth 20000 in
theorem ck_X5_readClause : en_ck 64 bs_X5_readClause = true := en_ckF_ok (J := (yX5_readClause, cX5_readClause, 3, none, 5, 0)) (q := (612, 611, 6, 5)) rfl rfl rfl (by decide +kernel)
def bs_X5_readJoined : en_Bs := [
  (0, [(.iconst (-1), 1, 0, 0, 0), (.istore_n 3, 1, 0, 0, 0), (.iconst (-1), 1, 0, 0, 0), (.istore 4, 2, 0, 0, 0), (.iconst 0, 1, 0, 0, 0), (.istore 5, 2, 0, 0, 0)]),
  (8, [(.iload 5, 2, 0, 0, 0), (.sipush 400, 3, 0, 0, 0), (.if_icmp .ge 128, 3, 141, 0, 0)]),
  (16, [(.iload_n 1, 1, 0, 0, 0), (.iconst 1, 1, 0, 0, 0), (.if_icmp .ne 11, 3, 29, 0, 0)]),
  (21, [(.aload_n 0, 1, 0, 0, 0), (.iload_n 2, 1, 0, 0, 0), (.invokevirtual 89, 3, 67, 2, 676)]),
  (26, [(.goto 24, 3, 50, 0, 0)]),
  (29, [(.iload_n 1, 1, 0, 0, 0), (.iconst 3, 1, 0, 0, 0), (.if_icmp .ne 11, 3, 42, 0, 0)]),
  (34, [(.aload_n 0, 1, 0, 0, 0), (.iload_n 2, 1, 0, 0, 0), (.invokevirtual 93, 3, 69, 2, 701)]),
  (39, [(.goto 11, 3, 50, 0, 0)]),
  (42, [(.aload_n 0, 1, 0, 0, 0), (.iload_n 1, 1, 0, 0, 0), (.iconst 1, 1, 0, 0, 0), (.iadd, 1, 0, 0, 0), (.iload_n 2, 1, 0, 0, 0), (.invokevirtual 77, 3, 65, 3, 672)]),
  (50, [(.iload 4, 2, 0, 0, 0), (.iconst (-1), 1, 0, 0, 0), (.if_icmp .eq 15, 3, 68, 0, 0)]),
  (56, [(.aload_n 0, 1, 0, 0, 0), (.getfield 12, 3, 5, 1, 188), (.iload 4, 2, 0, 0, 0), (.invokevirtual 96, 3, 61, 2, 726)]),
  (65, [(.goto 18, 3, 83, 0, 0)]),
  (68, [(.iload_n 3, 1, 0, 0, 0), (.iconst (-1), 1, 0, 0, 0), (.if_icmp .eq 13, 3, 83, 0, 0)]),
  (73, [(.aload_n 0, 1, 0, 0, 0), (.getfield 12, 3, 5, 1, 188), (.iload_n 3, 1, 0, 0, 0), (.iconst 0, 1, 0, 0, 0), (.invokevirtual 99, 3, 60, 3, 697)]),
  (82, [(.pop, 1, 0, 0, 0)]),
  (83, [(.aload_n 0, 1, 0, 0, 0), (.getfield 18, 3, 5, 2, 190), (.iconst (-1), 1, 0, 0, 0), (.if_icmp .ne 11, 3, 99, 0, 0)]),
  (91, [(.aload_n 0, 1, 0, 0, 0), (.iload_n 1, 1, 0, 0, 0), (.invokevirtual 103, 3, 66, 2, 730)]),
  (96, [(.goto 4, 3, 100, 0, 0)]),
  (99, [(.iconst (-1), 1, 0, 0, 0)]),
  (100, [(.istore_n 3, 1, 0, 0, 0), (.iload_n 3, 1, 0, 0, 0), (.iconst (-1), 1, 0, 0, 0), (.if_icmp .ne 4, 3, 107, 0, 0)]),
  (106, [(.return_, 1, 0, 0, 0)]),
  (107, [(.aload_n 0, 1, 0, 0, 0), (.invokevirtual 35, 3, 73, 1, 601)]),
  (111, [(.iload_n 1, 1, 0, 0, 0), (.ifCond .eq 8, 3, 120, 0, 0)]),
  (115, [(.iload_n 1, 1, 0, 0, 0), (.iconst 1, 1, 0, 0, 0), (.if_icmp .ne 15, 3, 132, 0, 0)]),
  (120, [(.aload_n 0, 1, 0, 0, 0), (.getfield 12, 3, 5, 1, 188), (.iload_n 3, 1, 0, 0, 0), (.iconst 0, 1, 0, 0, 0), (.invokevirtual 99, 3, 60, 3, 697)]),
  (129, [(.goto 4, 3, 133, 0, 0)]),
  (132, [(.iconst (-1), 1, 0, 0, 0)]),
  (133, [(.istore 4, 2, 0, 0, 0), (.iinc 5 1, 3, 0, 0, 0), (.goto (-130), 3, 8, 0, 0)]),
  (141, [(.return_, 1, 0, 0, 0)])]
set_option maxRecDepth 20000 in
theorem ck_X5_readJoined : en_ck 65 bs_X5_readJoined = true := en_ckF_ok (J := (yX5_readJoined, cX5_readJoined, 6, none, 5, 0)) (q := (675, 674, 9, 5)) rfl rfl rfl (by decide +kernel)
def bs_X5_joinHere : en_Bs := [
  (0, [(.iload_n 1, 1, 0, 0, 0), (.tableswitch 87 0 2 #[27, 43, 59], 27, 0, 0, 0)]),
  (28, [(.aload_n 0, 1, 0, 0, 0), (.ldc 107, 2, 2, 14, 0), (.invokevirtual 53, 3, 76, 2, 614)]),
  (34, [(.ifCond .eq 8, 3, 42, 0, 0)]),
  (37, [(.bipush 11, 2, 0, 0, 0), (.goto 4, 3, 43, 0, 0)]),
  (42, [(.iconst (-1), 1, 0, 0, 0)]),
  (43, [(.ireturn, 1, 0, 0, 0)]),
  (44, [(.aload_n 0, 1, 0, 0, 0), (.ldc 109, 2, 2, 15, 0), (.invokevirtual 53, 3, 76, 2, 614)]),
  (50, [(.ifCond .eq 8, 3, 58, 0, 0)]),
  (53, [(.bipush 10, 2, 0, 0, 0), (.goto 4, 3, 59, 0, 0)]),
  (58, [(.iconst (-1), 1, 0, 0, 0)]),
  (59, [(.ireturn, 1, 0, 0, 0)]),
  (60, [(.aload_n 0, 1, 0, 0, 0), (.bipush 43, 2, 0, 0, 0), (.invokevirtual 41, 3, 75, 2, 681)]),
  (66, [(.ifCond .eq 7, 3, 73, 0, 0)]),
  (69, [(.iconst 2, 1, 0, 0, 0), (.goto 17, 3, 87, 0, 0)]),
  (73, [(.aload_n 0, 1, 0, 0, 0), (.bipush 45, 2, 0, 0, 0), (.invokevirtual 41, 3, 75, 2, 681)]),
  (79, [(.ifCond .eq 7, 3, 86, 0, 0)]),
  (82, [(.iconst 3, 1, 0, 0, 0), (.goto 4, 3, 87, 0, 0)]),
  (86, [(.iconst (-1), 1, 0, 0, 0)]),
  (87, [(.ireturn, 1, 0, 0, 0)]),
  (88, [(.aload_n 0, 1, 0, 0, 0), (.bipush 42, 2, 0, 0, 0), (.invokevirtual 41, 3, 75, 2, 681)]),
  (94, [(.ifCond .eq 7, 3, 101, 0, 0)]),
  (97, [(.iconst 4, 1, 0, 0, 0), (.goto 17, 3, 115, 0, 0)]),
  (101, [(.aload_n 0, 1, 0, 0, 0), (.bipush 47, 2, 0, 0, 0), (.invokevirtual 41, 3, 75, 2, 681)]),
  (107, [(.ifCond .eq 7, 3, 114, 0, 0)]),
  (110, [(.iconst 5, 1, 0, 0, 0), (.goto 4, 3, 115, 0, 0)]),
  (114, [(.iconst (-1), 1, 0, 0, 0)]),
  (115, [(.ireturn, 1, 0, 0, 0)])]
set_option maxRecDepth 20000 in
theorem ck_X5_joinHere : en_ck 66 bs_X5_joinHere = true := en_ckF_ok (J := (yX5_joinHere, cX5_joinHere, 2, some .int, 5, 0)) (q := (733, 732, 18, 5)) rfl rfl rfl (by decide +kernel)
def bs_X5_readPlain : en_Bs := [
  (0, [(.iconst 0, 1, 0, 0, 0), (.istore_n 2, 1, 0, 0, 0), (.iconst 0, 1, 0, 0, 0), (.istore_n 3, 1, 0, 0, 0)]),
  (4, [(.iload_n 3, 1, 0, 0, 0), (.sipush 400, 3, 0, 0, 0), (.if_icmp .ge 32, 3, 40, 0, 0)]),
  (11, [(.aload_n 0, 1, 0, 0, 0), (.ldc 111, 2, 2, 3, 0), (.invokevirtual 53, 3, 76, 2, 614)]),
  (17, [(.ifCond .eq 23, 3, 40, 0, 0)]),
  (20, [(.aload_n 0, 1, 0, 0, 0), (.invokevirtual 35, 3, 73, 1, 601)]),
  (24, [(.iload_n 2, 1, 0, 0, 0), (.ifCond .ne 7, 3, 32, 0, 0)]),
  (28, [(.iconst 1, 1, 0, 0, 0), (.goto 4, 3, 33, 0, 0)]),
  (32, [(.iconst 0, 1, 0, 0, 0)]),
  (33, [(.istore_n 2, 1, 0, 0, 0), (.iinc 3 1, 3, 0, 0, 0), (.goto (-33), 3, 4, 0, 0)]),
  (40, [(.aload_n 0, 1, 0, 0, 0), (.bipush 40, 2, 0, 0, 0), (.invokevirtual 41, 3, 75, 2, 681)]),
  (46, [(.ifCond .eq 33, 3, 79, 0, 0)]),
  (49, [(.aload_n 0, 1, 0, 0, 0), (.iload_n 1, 1, 0, 0, 0), (.invokevirtual 113, 3, 70, 2, 685)]),
  (54, [(.aload_n 0, 1, 0, 0, 0), (.getfield 18, 3, 5, 2, 190), (.iconst (-1), 1, 0, 0, 0), (.if_icmp .ne 61, 3, 120, 0, 0)]),
  (62, [(.aload_n 0, 1, 0, 0, 0), (.iconst 0, 1, 0, 0, 0), (.iload_n 1, 1, 0, 0, 0), (.iconst 1, 1, 0, 0, 0), (.iadd, 1, 0, 0, 0), (.invokevirtual 77, 3, 65, 3, 672)]),
  (70, [(.aload_n 0, 1, 0, 0, 0), (.bipush 41, 2, 0, 0, 0), (.invokevirtual 116, 3, 71, 2, 689)]),
  (76, [(.goto 44, 3, 120, 0, 0)]),
  (79, [(.aload_n 0, 1, 0, 0, 0), (.iconst 2, 1, 0, 0, 0), (.iload_n 1, 1, 0, 0, 0), (.invokevirtual 77, 3, 65, 3, 672)]),
  (85, [(.aload_n 0, 1, 0, 0, 0), (.invokevirtual 120, 3, 68, 1, 693)]),
  (89, [(.istore_n 3, 1, 0, 0, 0), (.iload_n 3, 1, 0, 0, 0), (.iconst (-1), 1, 0, 0, 0), (.if_icmp .ne 8, 3, 100, 0, 0)]),
  (95, [(.aload_n 0, 1, 0, 0, 0), (.invokevirtual 48, 3, 72, 1, 668)]),
  (99, [(.return_, 1, 0, 0, 0)]),
  (100, [(.aload_n 0, 1, 0, 0, 0), (.invokevirtual 35, 3, 73, 1, 601)]),
  (104, [(.aload_n 0, 1, 0, 0, 0), (.iconst 2, 1, 0, 0, 0), (.iload_n 1, 1, 0, 0, 0), (.invokevirtual 77, 3, 65, 3, 672)]),
  (110, [(.aload_n 0, 1, 0, 0, 0), (.getfield 12, 3, 5, 1, 188), (.iload_n 3, 1, 0, 0, 0), (.iconst 0, 1, 0, 0, 0), (.invokevirtual 99, 3, 60, 3, 697)]),
  (119, [(.pop, 1, 0, 0, 0)]),
  (120, [(.iload_n 2, 1, 0, 0, 0), (.ifCond .eq 14, 3, 135, 0, 0)]),
  (124, [(.aload_n 0, 1, 0, 0, 0), (.getfield 12, 3, 5, 1, 188), (.bipush 9, 2, 0, 0, 0), (.iconst 0, 1, 0, 0, 0), (.invokevirtual 99, 3, 60, 3, 697)]),
  (134, [(.pop, 1, 0, 0, 0)]),
  (135, [(.return_, 1, 0, 0, 0)])]
set_option maxRecDepth 20000 in
theorem ck_X5_readPlain : en_ck 67 bs_X5_readPlain = true := en_ckF_ok (J := (yX5_readPlain, cX5_readPlain, 4, none, 5, 0)) (q := (679, 678, 10, 5)) rfl rfl rfl (by decide +kernel)
def bs_X5_comparisonHere : en_Bs := [
  (0, [(.aload_n 0, 1, 0, 0, 0), (.bipush 60, 2, 0, 0, 0), (.invokevirtual 41, 3, 75, 2, 681)]),
  (6, [(.ifCond .eq 8, 3, 14, 0, 0)]),
  (9, [(.bipush 6, 2, 0, 0, 0), (.goto 32, 3, 43, 0, 0)]),
  (14, [(.aload_n 0, 1, 0, 0, 0), (.bipush 62, 2, 0, 0, 0), (.invokevirtual 41, 3, 75, 2, 681)]),
  (20, [(.ifCond .eq 8, 3, 28, 0, 0)]),
  (23, [(.bipush 7, 2, 0, 0, 0), (.goto 18, 3, 43, 0, 0)]),
  (28, [(.aload_n 0, 1, 0, 0, 0), (.bipush 61, 2, 0, 0, 0), (.invokevirtual 41, 3, 75, 2, 681)]),
  (34, [(.ifCond .eq 8, 3, 42, 0, 0)]),
  (37, [(.bipush 8, 2, 0, 0, 0), (.goto 4, 3, 43, 0, 0)]),
  (42, [(.iconst (-1), 1, 0, 0, 0)]),
  (43, [(.ireturn, 1, 0, 0, 0)])]
set_option maxRecDepth 20000 in
theorem ck_X5_comparisonHere : en_ck 68 bs_X5_comparisonHere = true := en_ckF_ok (J := (yX5_comparisonHere, cX5_comparisonHere, 1, some .int, 5, 0)) (q := (696, 695, 14, 5)) rfl rfl rfl (by decide +kernel)
def bs_X5_readPart : en_Bs := [
  (0, [(.aload_n 0, 1, 0, 0, 0), (.bipush 91, 2, 0, 0, 0), (.invokevirtual 41, 3, 75, 2, 681)]),
  (6, [(.ifCond .eq 31, 3, 37, 0, 0)]),
  (9, [(.aload_n 0, 1, 0, 0, 0), (.iload_n 1, 1, 0, 0, 0), (.invokevirtual 113, 3, 70, 2, 685)]),
  (14, [(.aload_n 0, 1, 0, 0, 0), (.getfield 18, 3, 5, 2, 190), (.iconst (-1), 1, 0, 0, 0), (.if_icmp .ne 17, 3, 36, 0, 0)]),
  (22, [(.aload_n 0, 1, 0, 0, 0), (.iconst 2, 1, 0, 0, 0), (.iload_n 1, 1, 0, 0, 0), (.iconst 1, 1, 0, 0, 0), (.iadd, 1, 0, 0, 0), (.invokevirtual 77, 3, 65, 3, 672)]),
  (30, [(.aload_n 0, 1, 0, 0, 0), (.bipush 93, 2, 0, 0, 0), (.invokevirtual 116, 3, 71, 2, 689)]),
  (36, [(.return_, 1, 0, 0, 0)]),
  (37, [(.aload_n 0, 1, 0, 0, 0), (.getfield 45, 3, 5, 3, 192), (.iconst 1, 1, 0, 0, 0), (.if_icmp .ne 7, 3, 49, 0, 0)]),
  (45, [(.iconst 0, 1, 0, 0, 0), (.goto 4, 3, 50, 0, 0)]),
  (49, [(.iconst 1, 1, 0, 0, 0)]),
  (50, [(.istore_n 2, 1, 0, 0, 0), (.aload_n 0, 1, 0, 0, 0), (.getfield 45, 3, 5, 3, 192), (.iconst 1, 1, 0, 0, 0), (.if_icmp .ne 10, 3, 66, 0, 0)]),
  (59, [(.aload_n 0, 1, 0, 0, 0), (.invokevirtual 124, 3, 77, 1, 705)]),
  (63, [(.goto 7, 3, 70, 0, 0)]),
  (66, [(.aload_n 0, 1, 0, 0, 0), (.invokevirtual 127, 3, 78, 1, 709)]),
  (70, [(.istore_n 3, 1, 0, 0, 0), (.iload_n 3, 1, 0, 0, 0), (.iconst (-1), 1, 0, 0, 0), (.if_icmp .eq 19, 3, 92, 0, 0)]),
  (76, [(.iload_n 3, 1, 0, 0, 0), (.sipush 1000, 3, 0, 0, 0), (.if_icmp .gt 12, 3, 92, 0, 0)]),
  (83, [(.aload_n 0, 1, 0, 0, 0), (.getfield 29, 3, 5, 6, 195), (.bipush 50, 2, 0, 0, 0), (.if_icmp .lt 8, 3, 97, 0, 0)]),
  (92, [(.aload_n 0, 1, 0, 0, 0), (.invokevirtual 48, 3, 72, 1, 668)]),
  (96, [(.return_, 1, 0, 0, 0)]),
  (97, [(.aload_n 0, 1, 0, 0, 0), (.dup, 1, 0, 0, 0), (.getfield 29, 3, 5, 6, 195), (.iconst 1, 1, 0, 0, 0), (.iadd, 1, 0, 0, 0), (.putfield 29, 3, 5, 6, 195), (.aload_n 0, 1, 0, 0, 0), (.getfield 12, 3, 5, 1, 188), (.iload_n 2, 1, 0, 0, 0), (.iload_n 3, 1, 0, 0, 0), (.invokevirtual 99, 3, 60, 3, 697)]),
  (116, [(.pop, 1, 0, 0, 0), (.aload_n 0, 1, 0, 0, 0), (.invokevirtual 35, 3, 73, 1, 601)]),
  (121, [(.return_, 1, 0, 0, 0)])]
set_option maxRecDepth 20000 in
theorem ck_X5_readPart : en_ck 69 bs_X5_readPart = true := en_ckF_ok (J := (yX5_readPart, cX5_readPart, 4, none, 5, 0)) (q := (704, 703, 15, 5)) rfl rfl rfl (by decide +kernel)
def bs_X5_open : en_Bs := [
  (0, [(.iload_n 1, 1, 0, 0, 0), (.bipush 8, 2, 0, 0, 0), (.if_icmp .lt 10, 3, 13, 0, 0)]),
  (6, [(.aload_n 0, 1, 0, 0, 0), (.invokevirtual 48, 3, 72, 1, 668)]),
  (10, [(.goto 7, 3, 17, 0, 0)]),
  (13, [(.aload_n 0, 1, 0, 0, 0), (.invokevirtual 35, 3, 73, 1, 601)]),
  (17, [(.return_, 1, 0, 0, 0)])]
set_option maxRecDepth 20000 in
theorem ck_X5_open : en_ck 70 bs_X5_open = true := en_ckF_ok (J := (yX5_open, cX5_open, 2, none, 5, 0)) (q := (688, 687, 12, 5)) rfl rfl rfl (by decide +kernel)
def bs_X5_expect : en_Bs := [
  (0, [(.aload_n 0, 1, 0, 0, 0), (.iload_n 1, 1, 0, 0, 0), (.invokevirtual 41, 3, 75, 2, 681)]),
  (5, [(.ifCond .eq 10, 3, 15, 0, 0)]),
  (8, [(.aload_n 0, 1, 0, 0, 0), (.invokevirtual 35, 3, 73, 1, 601)]),
  (12, [(.goto 7, 3, 19, 0, 0)]),
  (15, [(.aload_n 0, 1, 0, 0, 0), (.invokevirtual 48, 3, 72, 1, 668)]),
  (19, [(.return_, 1, 0, 0, 0)])]
set_option maxRecDepth 20000 in
theorem ck_X5_expect : en_ck 71 bs_X5_expect = true := en_ckF_ok (J := (yX5_expect, cX5_expect, 2, none, 5, 0)) (q := (692, 691, 13, 5)) rfl rfl rfl (by decide +kernel)
def bs_X5_fail : en_Bs := [
  (0, [(.aload_n 0, 1, 0, 0, 0), (.getfield 18, 3, 5, 2, 190), (.iconst (-1), 1, 0, 0, 0), (.if_icmp .ne 11, 3, 16, 0, 0)]),
  (8, [(.aload_n 0, 1, 0, 0, 0), (.aload_n 0, 1, 0, 0, 0), (.getfield 130, 3, 5, 4, 193), (.putfield 18, 3, 5, 2, 190)]),
  (16, [(.return_, 1, 0, 0, 0)])]
set_option maxRecDepth 20000 in
theorem ck_X5_fail : en_ck 72 bs_X5_fail = true := en_ckF_ok (J := (yX5_fail, cX5_fail, 1, none, 5, 0)) (q := (671, 670, 8, 5)) rfl rfl rfl (by decide +kernel)
def bs_X5_step : en_Bs := [
  (0, [(.aload_n 0, 1, 0, 0, 0), (.getfield 26, 3, 5, 5, 194), (.istore_n 1, 1, 0, 0, 0)]),
  (5, [(.iload_n 1, 1, 0, 0, 0), (.aload_n 0, 1, 0, 0, 0), (.getfield 22, 3, 5, 0, 187), (.getfield 133, 3, 8, 1, 172), (.if_icmp .ge 22, 3, 35, 0, 0)]),
  (16, [(.aload_n 0, 1, 0, 0, 0), (.getfield 22, 3, 5, 0, 187), (.iload_n 1, 1, 0, 0, 0), (.invokevirtual 136, 3, 94, 2, 605)]),
  (24, [(.bipush 32, 2, 0, 0, 0), (.if_icmp .ne 9, 3, 35, 0, 0)]),
  (29, [(.iinc 1 1, 3, 0, 0, 0), (.goto (-27), 3, 5, 0, 0)]),
  (35, [(.aload_n 0, 1, 0, 0, 0), (.iload_n 1, 1, 0, 0, 0), (.putfield 130, 3, 5, 4, 193), (.aload_n 0, 1, 0, 0, 0), (.aload_n 0, 1, 0, 0, 0), (.getfield 22, 3, 5, 0, 187), (.iload_n 1, 1, 0, 0, 0), (.invokevirtual 136, 3, 94, 2, 605)]),
  (49, [(.invokestatic 139, 3, 74, 1, 606)]),
  (52, [(.putfield 45, 3, 5, 3, 192), (.aload_n 0, 1, 0, 0, 0), (.getfield 45, 3, 5, 3, 192), (.iconst 3, 1, 0, 0, 0), (.if_icmp .eq 6, 3, 66, 0, 0)]),
  (63, [(.iinc 1 1, 3, 0, 0, 0)]),
  (66, [(.iload_n 1, 1, 0, 0, 0), (.aload_n 0, 1, 0, 0, 0), (.getfield 22, 3, 5, 0, 187), (.getfield 133, 3, 8, 1, 172), (.if_icmp .ge 35, 3, 109, 0, 0)]),
  (77, [(.aload_n 0, 1, 0, 0, 0), (.getfield 45, 3, 5, 3, 192), (.iconst 2, 1, 0, 0, 0), (.if_icmp .eq 27, 3, 109, 0, 0)]),
  (85, [(.aload_n 0, 1, 0, 0, 0), (.getfield 22, 3, 5, 0, 187), (.iload_n 1, 1, 0, 0, 0), (.invokevirtual 136, 3, 94, 2, 605)]),
  (93, [(.invokestatic 139, 3, 74, 1, 606)]),
  (96, [(.aload_n 0, 1, 0, 0, 0), (.getfield 45, 3, 5, 3, 192), (.if_icmp .ne 9, 3, 109, 0, 0)]),
  (103, [(.iinc 1 1, 3, 0, 0, 0), (.goto (-40), 3, 66, 0, 0)]),
  (109, [(.aload_n 0, 1, 0, 0, 0), (.iload_n 1, 1, 0, 0, 0), (.putfield 26, 3, 5, 5, 194), (.return_, 1, 0, 0, 0)])]
set_option maxRecDepth 20000 in
theorem ck_X5_step : en_ck 73 bs_X5_step = true := en_ckF_ok (J := (yX5_step, cX5_step, 2, none, 5, 0)) (q := (604, 603, 5, 5)) rfl rfl rfl (by decide +kernel)
def bs_X5_kindOf : en_Bs := [
  (0, [(.iload_n 0, 1, 0, 0, 0), (.iconst (-1), 1, 0, 0, 0), (.if_icmp .ne 5, 3, 7, 0, 0)]),
  (5, [(.iconst 3, 1, 0, 0, 0), (.ireturn, 1, 0, 0, 0)]),
  (7, [(.iload_n 0, 1, 0, 0, 0), (.bipush 97, 2, 0, 0, 0), (.if_icmp .lt 13, 3, 23, 0, 0)]),
  (13, [(.iload_n 0, 1, 0, 0, 0), (.bipush 122, 2, 0, 0, 0), (.if_icmp .gt 7, 3, 23, 0, 0)]),
  (19, [(.iconst 0, 1, 0, 0, 0), (.goto 20, 3, 40, 0, 0)]),
  (23, [(.iload_n 0, 1, 0, 0, 0), (.bipush 48, 2, 0, 0, 0), (.if_icmp .lt 13, 3, 39, 0, 0)]),
  (29, [(.iload_n 0, 1, 0, 0, 0), (.bipush 57, 2, 0, 0, 0), (.if_icmp .gt 7, 3, 39, 0, 0)]),
  (35, [(.iconst 1, 1, 0, 0, 0), (.goto 4, 3, 40, 0, 0)]),
  (39, [(.iconst 2, 1, 0, 0, 0)]),
  (40, [(.ireturn, 1, 0, 0, 0)])]
set_option maxRecDepth 20000 in
theorem ck_X5_kindOf : en_ck 74 bs_X5_kindOf = true := en_ckF_ok (J := (yX5_kindOf, cX5_kindOf, 1, some .int, 5, 1)) (q := (608, 607, 0, 5)) rfl rfl rfl (by decide +kernel)
def bs_X5_isSingle : en_Bs := [
  (0, [(.aload_n 0, 1, 0, 0, 0), (.getfield 45, 3, 5, 3, 192), (.iconst 2, 1, 0, 0, 0), (.if_icmp .ne 22, 3, 27, 0, 0)]),
  (8, [(.aload_n 0, 1, 0, 0, 0), (.getfield 22, 3, 5, 0, 187), (.aload_n 0, 1, 0, 0, 0), (.getfield 130, 3, 5, 4, 193), (.invokevirtual 136, 3, 94, 2, 605)]),
  (19, [(.iload_n 1, 1, 0, 0, 0), (.if_icmp .ne 7, 3, 27, 0, 0)]),
  (23, [(.iconst 1, 1, 0, 0, 0), (.goto 4, 3, 28, 0, 0)]),
  (27, [(.iconst 0, 1, 0, 0, 0)]),
  (28, [(.ireturn, 1, 0, 0, 0)])]
set_option maxRecDepth 20000 in
theorem ck_X5_isSingle : en_ck 75 bs_X5_isSingle = true := en_ckF_ok (J := (yX5_isSingle, cX5_isSingle, 2, some .boolean, 5, 0)) (q := (684, 683, 11, 5)) rfl rfl rfl (by decide +kernel)
def bs_X5_isWord : en_Bs := [
  (0, [(.aload_n 0, 1, 0, 0, 0), (.getfield 45, 3, 5, 3, 192), (.ifCond .ne 19, 3, 23, 0, 0)]),
  (7, [(.aload_n 0, 1, 0, 0, 0), (.getfield 26, 3, 5, 5, 194), (.aload_n 0, 1, 0, 0, 0), (.getfield 130, 3, 5, 4, 193), (.isub, 1, 0, 0, 0), (.aload_n 1, 1, 0, 0, 0), (.invokevirtual 142, 3, 906, 0, 618), (.if_icmp .eq 5, 3, 25, 0, 0)]),
  (23, [(.iconst 0, 1, 0, 0, 0), (.ireturn, 1, 0, 0, 0)]),
  (25, [(.iconst 0, 1, 0, 0, 0), (.istore_n 2, 1, 0, 0, 0)]),
  (27, [(.iload_n 2, 1, 0, 0, 0), (.aload_n 1, 1, 0, 0, 0), (.invokevirtual 142, 3, 906, 0, 618), (.if_icmp .ge 32, 3, 64, 0, 0)]),
  (35, [(.aload_n 0, 1, 0, 0, 0), (.getfield 22, 3, 5, 0, 187), (.aload_n 0, 1, 0, 0, 0), (.getfield 130, 3, 5, 4, 193), (.iload_n 2, 1, 0, 0, 0), (.iadd, 1, 0, 0, 0), (.invokevirtual 136, 3, 94, 2, 605)]),
  (48, [(.aload_n 1, 1, 0, 0, 0), (.iload_n 2, 1, 0, 0, 0), (.invokevirtual 146, 3, 907, 0, 628), (.if_icmp .eq 5, 3, 58, 0, 0)]),
  (56, [(.iconst 0, 1, 0, 0, 0), (.ireturn, 1, 0, 0, 0)]),
  (58, [(.iinc 2 1, 3, 0, 0, 0), (.goto (-34), 3, 27, 0, 0)]),
  (64, [(.iconst 1, 1, 0, 0, 0), (.ireturn, 1, 0, 0, 0)])]
set_option maxRecDepth 20000 in
theorem ck_X5_isWord : en_ck 76 bs_X5_isWord = true := en_ckF_ok (J := (yX5_isWord, cX5_isWord, 3, some .boolean, 5, 0)) (q := (617, 616, 7, 5)) rfl rfl rfl (by decide +kernel)
def bs_X5_numberHere : en_Bs := [
  (0, [(.iconst 0, 1, 0, 0, 0), (.istore_n 1, 1, 0, 0, 0), (.aload_n 0, 1, 0, 0, 0), (.getfield 130, 3, 5, 4, 193), (.istore_n 2, 1, 0, 0, 0)]),
  (7, [(.iload_n 2, 1, 0, 0, 0), (.aload_n 0, 1, 0, 0, 0), (.getfield 26, 3, 5, 5, 194), (.if_icmp .ge 33, 3, 45, 0, 0)]),
  (15, [(.iload_n 1, 1, 0, 0, 0), (.sipush 1000, 3, 0, 0, 0), (.if_icmp .gt 26, 3, 45, 0, 0)]),
  (22, [(.iload_n 1, 1, 0, 0, 0), (.bipush 10, 2, 0, 0, 0), (.imul, 1, 0, 0, 0), (.aload_n 0, 1, 0, 0, 0), (.getfield 22, 3, 5, 0, 187), (.iload_n 2, 1, 0, 0, 0), (.invokevirtual 136, 3, 94, 2, 605)]),
  (34, [(.iadd, 1, 0, 0, 0), (.bipush 48, 2, 0, 0, 0), (.isub, 1, 0, 0, 0), (.istore_n 1, 1, 0, 0, 0), (.iinc 2 1, 3, 0, 0, 0), (.goto (-35), 3, 7, 0, 0)]),
  (45, [(.iload_n 1, 1, 0, 0, 0), (.ireturn, 1, 0, 0, 0)])]
set_option maxRecDepth 20000 in
theorem ck_X5_numberHere : en_ck 77 bs_X5_numberHere = true := en_ckF_ok (J := (yX5_numberHere, cX5_numberHere, 3, some .int, 5, 0)) (q := (708, 707, 16, 5)) rfl rfl rfl (by decide +kernel)
def bs_X5_wordHere : en_Bs := [
  (0, [(.iconst 0, 1, 0, 0, 0), (.istore_n 1, 1, 0, 0, 0)]),
  (2, [(.iload_n 1, 1, 0, 0, 0), (.bipush 9, 2, 0, 0, 0), (.if_icmp .ge 22, 3, 27, 0, 0)]),
  (8, [(.aload_n 0, 1, 0, 0, 0), (.iload_n 1, 1, 0, 0, 0), (.invokestatic 152, 3, 51, 1, 713)]),
  (13, [(.invokevirtual 53, 3, 76, 2, 614)]),
  (16, [(.ifCond .eq 5, 3, 21, 0, 0)]),
  (19, [(.iload_n 1, 1, 0, 0, 0), (.ireturn, 1, 0, 0, 0)]),
  (21, [(.iinc 1 1, 3, 0, 0, 0), (.goto (-22), 3, 2, 0, 0)]),
  (27, [(.iconst (-1), 1, 0, 0, 0), (.ireturn, 1, 0, 0, 0)])]
set_option maxRecDepth 20000 in
theorem ck_X5_wordHere : en_ck 78 bs_X5_wordHere = true := en_ckF_ok (J := (yX5_wordHere, cX5_wordHere, 2, some .int, 5, 0)) (q := (712, 711, 17, 5)) rfl rfl rfl (by decide +kernel)
def bs_X6_init : en_Bs := [
  (0, [(.aload_n 0, 1, 0, 0, 0), (.invokespecial 3, 3, 900, 0, 342), (.aload_n 0, 1, 0, 0, 0), (.aload_n 1, 1, 0, 0, 0), (.putfield 9, 3, 6, 0, 343), (.aload_n 0, 1, 0, 0, 0), (.aload_n 2, 1, 0, 0, 0), (.putfield 15, 3, 6, 1, 344), (.return_, 1, 0, 0, 0)])]
set_option maxRecDepth 20000 in
theorem ck_X6_init : en_ck 79 bs_X6_init = true := en_ckF_ok (J := (yX6_init, cX6_init, 3, none, 6, 0)) (q := (341, 340, 0, 10)) rfl rfl rfl (by decide +kernel)
def bs_X6_forget : en_Bs := [
  (0, [(.aload_n 0, 1, 0, 0, 0), (.iconst 0, 1, 0, 0, 0), (.putfield 19, 3, 6, 2, 345), (.return_, 1, 0, 0, 0)])]
set_option maxRecDepth 20000 in
theorem ck_X6_forget : en_ck 80 bs_X6_forget = true := en_ckF_ok (J := (yX6_forget, cX6_forget, 1, none, 6, 0)) (q := (491, 489, 598, 10)) rfl rfl rfl (by decide +kernel)
def bs_X6_told : en_Bs := [
  (0, [(.aload_n 0, 1, 0, 0, 0), (.getfield 19, 3, 6, 2, 345), (.ifCond .ne 12, 3, 16, 0, 0)]),
  (7, [(.aload_n 0, 1, 0, 0, 0), (.iconst 1, 1, 0, 0, 0), (.putfield 19, 3, 6, 2, 345), (.aload_n 0, 1, 0, 0, 0), (.invokevirtual 23, 3, 82, 1, 989)]),
  (16, [(.iload_n 1, 1, 0, 0, 0), (.ifCond .ne 10, 3, 27, 0, 0)]),
  (20, [(.aload_n 0, 1, 0, 0, 0), (.getfield 26, 3, 6, 3, 346), (.goto 19, 3, 43, 0, 0)]),
  (27, [(.iload_n 1, 1, 0, 0, 0), (.iconst 1, 1, 0, 0, 0), (.if_icmp .ne 10, 3, 39, 0, 0)]),
  (32, [(.aload_n 0, 1, 0, 0, 0), (.getfield 30, 3, 6, 4, 347), (.goto 7, 3, 43, 0, 0)]),
  (39, [(.aload_n 0, 1, 0, 0, 0), (.getfield 33, 3, 6, 5, 348)]),
  (43, [(.ireturn, 1, 0, 0, 0)])]
set_option maxRecDepth 20000 in
theorem ck_X6_told : en_ck 81 bs_X6_told = true := en_ckF_ok (J := (yX6_told, cX6_told, 2, some .int, 6, 0)) (q := (988, 986, 1095, 10)) rfl rfl rfl (by decide +kernel)
def bs_X6_search : en_Bs := [
  (0, [(.aload_n 0, 1, 0, 0, 0), (.iconst 0, 1, 0, 0, 0), (.putfield 33, 3, 6, 5, 348), (.aload_n 0, 1, 0, 0, 0), (.iconst (-1), 1, 0, 0, 0), (.putfield 30, 3, 6, 4, 347), (.aload_n 0, 1, 0, 0, 0), (.iconst (-1), 1, 0, 0, 0), (.putfield 26, 3, 6, 3, 346), (.iconst 0, 1, 0, 0, 0), (.istore_n 1, 1, 0, 0, 0), (.iconst 0, 1, 0, 0, 0), (.istore_n 2, 1, 0, 0, 0)]),
  (19, [(.iload_n 2, 1, 0, 0, 0), (.aload_n 0, 1, 0, 0, 0), (.getfield 9, 3, 6, 0, 343), (.getfield 36, 3, 0, 4, 105), (.if_icmp .ge 35, 3, 62, 0, 0)]),
  (30, [(.iload_n 1, 1, 0, 0, 0), (.iconst 1, 1, 0, 0, 0), (.aload_n 0, 1, 0, 0, 0), (.getfield 9, 3, 6, 0, 343), (.iload_n 2, 1, 0, 0, 0), (.iconst 1, 1, 0, 0, 0), (.invokevirtual 41, 3, 11, 3, 993)]),
  (41, [(.ishl, 1, 0, 0, 0), (.iconst 1, 1, 0, 0, 0), (.aload_n 0, 1, 0, 0, 0), (.getfield 9, 3, 6, 0, 343), (.iload_n 2, 1, 0, 0, 0), (.iconst 2, 1, 0, 0, 0), (.invokevirtual 41, 3, 11, 3, 993)]),
  (52, [(.ishl, 1, 0, 0, 0), (.ior, 1, 0, 0, 0), (.ior, 1, 0, 0, 0), (.istore_n 1, 1, 0, 0, 0), (.iinc 2 1, 3, 0, 0, 0), (.goto (-40), 3, 19, 0, 0)]),
  (62, [(.iconst 1, 1, 0, 0, 0), (.aload_n 0, 1, 0, 0, 0), (.getfield 9, 3, 6, 0, 343), (.getfield 36, 3, 0, 4, 105), (.ishl, 1, 0, 0, 0), (.iconst 1, 1, 0, 0, 0), (.isub, 1, 0, 0, 0), (.istore_n 2, 1, 0, 0, 0), (.iconst 0, 1, 0, 0, 0), (.istore_n 3, 1, 0, 0, 0)]),
  (76, [(.iload_n 3, 1, 0, 0, 0), (.iconst 3, 1, 0, 0, 0), (.if_icmp .gt 115, 3, 193, 0, 0)]),
  (81, [(.aload_n 0, 1, 0, 0, 0), (.getfield 33, 3, 6, 5, 348), (.ifCond .ne 108, 3, 193, 0, 0)]),
  (88, [(.iconst 0, 1, 0, 0, 0), (.istore 4, 2, 0, 0, 0)]),
  (91, [(.iload 4, 2, 0, 0, 0), (.iconst 1, 1, 0, 0, 0), (.aload_n 0, 1, 0, 0, 0), (.getfield 9, 3, 6, 0, 343), (.getfield 45, 3, 0, 0, 89), (.ishl, 1, 0, 0, 0), (.if_icmp .ge 85, 3, 187, 0, 0)]),
  (105, [(.iload 4, 2, 0, 0, 0), (.invokestatic 48, 3, 265, 1, 994)]),
  (110, [(.iload_n 3, 1, 0, 0, 0), (.if_icmp .ne 70, 3, 181, 0, 0)]),
  (114, [(.iload 4, 2, 0, 0, 0), (.iload_n 1, 1, 0, 0, 0), (.iand, 1, 0, 0, 0), (.ifCond .eq 6, 3, 124, 0, 0)]),
  (121, [(.goto 60, 3, 181, 0, 0)]),
  (124, [(.aload_n 0, 1, 0, 0, 0), (.getfield 15, 3, 6, 1, 344), (.iload 4, 2, 0, 0, 0), (.invokevirtual 54, 3, 16, 2, 1000)]),
  (133, [(.aload_n 0, 1, 0, 0, 0), (.getfield 15, 3, 6, 1, 344), (.iload_n 2, 1, 0, 0, 0), (.bipush 99, 2, 0, 0, 0), (.invokevirtual 60, 3, 19, 3, 1001)]),
  (143, [(.ifCond .eq 38, 3, 181, 0, 0)]),
  (146, [(.aload_n 0, 1, 0, 0, 0), (.aload_n 0, 1, 0, 0, 0), (.getfield 33, 3, 6, 5, 348), (.ifCond .ne 8, 3, 159, 0, 0)]),
  (154, [(.iload 4, 2, 0, 0, 0), (.goto 7, 3, 163, 0, 0)]),
  (159, [(.aload_n 0, 1, 0, 0, 0), (.getfield 30, 3, 6, 4, 347)]),
  (163, [(.putfield 30, 3, 6, 4, 347), (.aload_n 0, 1, 0, 0, 0), (.iload_n 3, 1, 0, 0, 0), (.putfield 26, 3, 6, 3, 346), (.aload_n 0, 1, 0, 0, 0), (.dup, 1, 0, 0, 0), (.getfield 33, 3, 6, 5, 348), (.iconst 1, 1, 0, 0, 0), (.iadd, 1, 0, 0, 0), (.putfield 33, 3, 6, 5, 348)]),
  (181, [(.iinc 4 1, 3, 0, 0, 0), (.goto (-93), 3, 91, 0, 0)]),
  (187, [(.iinc 3 1, 3, 0, 0, 0), (.goto (-114), 3, 76, 0, 0)]),
  (193, [(.return_, 1, 0, 0, 0)])]
set_option maxRecDepth 20000 in
theorem ck_X6_search : en_ck 82 bs_X6_search = true := en_ckF_ok (J := (yX6_search, cX6_search, 5, none, 6, 0)) (q := (992, 991, 43, 10)) rfl rfl rfl (by decide +kernel)
def bs_X7_init : en_Bs := [
  (0, [(.aload_n 0, 1, 0, 0, 0), (.invokespecial 3, 3, 900, 0, 317), (.aload_n 0, 1, 0, 0, 0), (.iconst (-1), 1, 0, 0, 0), (.putfield 11, 3, 7, 2, 320), (.aload_n 0, 1, 0, 0, 0), (.iconst 4, 1, 0, 0, 0), (.newarray .int, 2, 0, 0, 0), (.putfield 15, 3, 7, 5, 323), (.aload_n 0, 1, 0, 0, 0), (.aload_n 1, 1, 0, 0, 0), (.putfield 19, 3, 7, 0, 318), (.aload_n 0, 1, 0, 0, 0), (.aload_n 2, 1, 0, 0, 0), (.putfield 23, 3, 7, 1, 319), (.return_, 1, 0, 0, 0)])]
set_option maxRecDepth 20000 in
theorem ck_X7_init : en_ck 83 bs_X7_init = true := en_ckF_ok (J := (yX7_init, cX7_init, 3, none, 7, 0)) (q := (316, 315, 0, 9)) rfl rfl rfl (by decide +kernel)
def bs_X7_forget : en_Bs := [
  (0, [(.aload_n 0, 1, 0, 0, 0), (.iconst (-1), 1, 0, 0, 0), (.putfield 11, 3, 7, 2, 320), (.return_, 1, 0, 0, 0)])]
set_option maxRecDepth 20000 in
theorem ck_X7_forget : en_ck 84 bs_X7_forget = true := en_ckF_ok (J := (yX7_forget, cX7_forget, 1, none, 7, 0)) (q := (487, 485, 594, 9)) rfl rfl rfl (by decide +kernel)
def bs_X7_told : en_Bs := [
  (0, [(.aload_n 0, 1, 0, 0, 0), (.getfield 11, 3, 7, 2, 320), (.iload_n 1, 1, 0, 0, 0), (.if_icmp .eq 74, 3, 79, 0, 0)]),
  (8, [(.aload_n 0, 1, 0, 0, 0), (.iload_n 1, 1, 0, 0, 0), (.putfield 11, 3, 7, 2, 320), (.aload_n 0, 1, 0, 0, 0), (.iconst 0, 1, 0, 0, 0), (.putfield 27, 3, 7, 4, 322), (.aload_n 0, 1, 0, 0, 0), (.getfield 23, 3, 7, 1, 319), (.iconst 0, 1, 0, 0, 0), (.invokevirtual 30, 3, 16, 2, 929)]),
  (26, [(.aload_n 0, 1, 0, 0, 0), (.iconst 0, 1, 0, 0, 0), (.putfield 36, 3, 7, 3, 321), (.aload_n 0, 1, 0, 0, 0), (.invokevirtual 39, 3, 86, 1, 930)]),
  (35, [(.aload_n 0, 1, 0, 0, 0), (.getfield 27, 3, 7, 4, 322), (.ifCond .ne 12, 3, 51, 0, 0)]),
  (42, [(.aload_n 0, 1, 0, 0, 0), (.iconst 1, 1, 0, 0, 0), (.putfield 36, 3, 7, 3, 321), (.aload_n 0, 1, 0, 0, 0), (.invokevirtual 42, 3, 87, 1, 958)]),
  (51, [(.aload_n 0, 1, 0, 0, 0), (.getfield 27, 3, 7, 4, 322), (.ifCond .ne 12, 3, 67, 0, 0)]),
  (58, [(.aload_n 0, 1, 0, 0, 0), (.iconst 2, 1, 0, 0, 0), (.putfield 36, 3, 7, 3, 321), (.aload_n 0, 1, 0, 0, 0), (.invokevirtual 45, 3, 88, 1, 969)]),
  (67, [(.aload_n 0, 1, 0, 0, 0), (.getfield 27, 3, 7, 4, 322), (.ifCond .ne 8, 3, 79, 0, 0)]),
  (74, [(.aload_n 0, 1, 0, 0, 0), (.iconst (-1), 1, 0, 0, 0), (.putfield 36, 3, 7, 3, 321)]),
  (79, [(.iload_n 2, 1, 0, 0, 0), (.ifCond .ne 8, 3, 88, 0, 0)]),
  (83, [(.aload_n 0, 1, 0, 0, 0), (.getfield 36, 3, 7, 3, 321), (.ireturn, 1, 0, 0, 0)]),
  (88, [(.iload_n 2, 1, 0, 0, 0), (.iconst 5, 1, 0, 0, 0), (.if_icmp .ne 8, 3, 98, 0, 0)]),
  (93, [(.aload_n 0, 1, 0, 0, 0), (.getfield 27, 3, 7, 4, 322), (.ireturn, 1, 0, 0, 0)]),
  (98, [(.iload_n 2, 1, 0, 0, 0), (.iconst 1, 1, 0, 0, 0), (.if_icmp .lt 29, 3, 129, 0, 0)]),
  (103, [(.iload_n 2, 1, 0, 0, 0), (.iconst 4, 1, 0, 0, 0), (.if_icmp .gt 24, 3, 129, 0, 0)]),
  (108, [(.iload_n 2, 1, 0, 0, 0), (.iconst 2, 1, 0, 0, 0), (.aload_n 0, 1, 0, 0, 0), (.getfield 36, 3, 7, 3, 321), (.imul, 1, 0, 0, 0), (.if_icmp .gt 14, 3, 129, 0, 0)]),
  (118, [(.aload_n 0, 1, 0, 0, 0), (.getfield 15, 3, 7, 5, 323), (.iload_n 2, 1, 0, 0, 0), (.iconst 1, 1, 0, 0, 0), (.isub, 1, 0, 0, 0), (.iaload, 1, 0, 0, 0), (.goto 4, 3, 130, 0, 0)]),
  (129, [(.iconst (-1), 1, 0, 0, 0)]),
  (130, [(.ireturn, 1, 0, 0, 0)])]
set_option maxRecDepth 20000 in
theorem ck_X7_told : en_ck 85 bs_X7_told = true := en_ckF_ok (J := (yX7_told, cX7_told, 3, some .int, 7, 0)) (q := (928, 926, 1035, 9)) rfl rfl rfl (by decide +kernel)
def bs_X7_tryNone : en_Bs := [
  (0, [(.aload_n 0, 1, 0, 0, 0), (.getfield 23, 3, 7, 1, 319), (.aload_n 0, 1, 0, 0, 0), (.getfield 11, 3, 7, 2, 320), (.aload_n 0, 1, 0, 0, 0), (.getfield 19, 3, 7, 0, 318), (.getfield 48, 3, 0, 10, 116), (.invokevirtual 53, 3, 19, 3, 934)]),
  (18, [(.ifCond .eq 12, 3, 30, 0, 0)]),
  (21, [(.aload_n 0, 1, 0, 0, 0), (.iconst (-1), 1, 0, 0, 0), (.iconst (-1), 1, 0, 0, 0), (.iconst (-1), 1, 0, 0, 0), (.iconst (-1), 1, 0, 0, 0), (.iconst 1, 1, 0, 0, 0), (.invokevirtual 57, 3, 91, 6, 954)]),
  (30, [(.return_, 1, 0, 0, 0)])]
set_option maxRecDepth 20000 in
theorem ck_X7_tryNone : en_ck 86 bs_X7_tryNone = true := en_ckF_ok (J := (yX7_tryNone, cX7_tryNone, 1, none, 7, 0)) (q := (933, 932, 35, 9)) rfl rfl rfl (by decide +kernel)
def bs_X7_tryOne : en_Bs := [
  (0, [(.iconst 0, 1, 0, 0, 0), (.istore_n 1, 1, 0, 0, 0)]),
  (2, [(.iload_n 1, 1, 0, 0, 0), (.aload_n 0, 1, 0, 0, 0), (.getfield 19, 3, 7, 0, 318), (.getfield 61, 3, 0, 0, 90), (.if_icmp .ge 72, 3, 82, 0, 0)]),
  (13, [(.iload_n 1, 1, 0, 0, 0), (.iconst 1, 1, 0, 0, 0), (.iadd, 1, 0, 0, 0), (.istore_n 2, 1, 0, 0, 0)]),
  (17, [(.iload_n 2, 1, 0, 0, 0), (.aload_n 0, 1, 0, 0, 0), (.getfield 19, 3, 7, 0, 318), (.getfield 61, 3, 0, 0, 90), (.if_icmp .ge 51, 3, 76, 0, 0)]),
  (28, [(.aload_n 0, 1, 0, 0, 0), (.iload_n 1, 1, 0, 0, 0), (.iload_n 2, 1, 0, 0, 0), (.invokevirtual 64, 3, 90, 3, 962)]),
  (34, [(.aload_n 0, 1, 0, 0, 0), (.getfield 23, 3, 7, 1, 319), (.aload_n 0, 1, 0, 0, 0), (.getfield 11, 3, 7, 2, 320), (.aload_n 0, 1, 0, 0, 0), (.getfield 19, 3, 7, 0, 318), (.getfield 48, 3, 0, 10, 116), (.invokevirtual 53, 3, 19, 3, 934)]),
  (52, [(.ifCond .eq 12, 3, 64, 0, 0)]),
  (55, [(.aload_n 0, 1, 0, 0, 0), (.iload_n 1, 1, 0, 0, 0), (.iload_n 2, 1, 0, 0, 0), (.iconst (-1), 1, 0, 0, 0), (.iconst (-1), 1, 0, 0, 0), (.iconst 1, 1, 0, 0, 0), (.invokevirtual 57, 3, 91, 6, 954)]),
  (64, [(.aload_n 0, 1, 0, 0, 0), (.iload_n 1, 1, 0, 0, 0), (.iload_n 2, 1, 0, 0, 0), (.invokevirtual 64, 3, 90, 3, 962)]),
  (70, [(.iinc 2 1, 3, 0, 0, 0), (.goto (-56), 3, 17, 0, 0)]),
  (76, [(.iinc 1 1, 3, 0, 0, 0), (.goto (-77), 3, 2, 0, 0)]),
  (82, [(.return_, 1, 0, 0, 0)])]
set_option maxRecDepth 20000 in
theorem ck_X7_tryOne : en_ck 87 bs_X7_tryOne = true := en_ckF_ok (J := (yX7_tryOne, cX7_tryOne, 3, none, 7, 0)) (q := (961, 960, 40, 9)) rfl rfl rfl (by decide +kernel)
def bs_X7_tryTwo : en_Bs := [
  (0, [(.iconst 0, 1, 0, 0, 0), (.istore_n 1, 1, 0, 0, 0)]),
  (2, [(.iload_n 1, 1, 0, 0, 0), (.aload_n 0, 1, 0, 0, 0), (.getfield 19, 3, 7, 0, 318), (.getfield 61, 3, 0, 0, 90), (.if_icmp .ge 145, 3, 155, 0, 0)]),
  (13, [(.iload_n 1, 1, 0, 0, 0), (.iconst 1, 1, 0, 0, 0), (.iadd, 1, 0, 0, 0), (.istore_n 2, 1, 0, 0, 0)]),
  (17, [(.iload_n 2, 1, 0, 0, 0), (.aload_n 0, 1, 0, 0, 0), (.getfield 19, 3, 7, 0, 318), (.getfield 61, 3, 0, 0, 90), (.if_icmp .ge 124, 3, 149, 0, 0)]),
  (28, [(.aload_n 0, 1, 0, 0, 0), (.iload_n 1, 1, 0, 0, 0), (.iload_n 2, 1, 0, 0, 0), (.invokevirtual 64, 3, 90, 3, 962)]),
  (34, [(.iload_n 1, 1, 0, 0, 0), (.istore_n 3, 1, 0, 0, 0)]),
  (36, [(.iload_n 3, 1, 0, 0, 0), (.aload_n 0, 1, 0, 0, 0), (.getfield 19, 3, 7, 0, 318), (.getfield 61, 3, 0, 0, 90), (.if_icmp .ge 93, 3, 137, 0, 0)]),
  (47, [(.iload_n 3, 1, 0, 0, 0), (.iconst 1, 1, 0, 0, 0), (.iadd, 1, 0, 0, 0), (.istore 4, 2, 0, 0, 0)]),
  (52, [(.iload 4, 2, 0, 0, 0), (.aload_n 0, 1, 0, 0, 0), (.getfield 19, 3, 7, 0, 318), (.getfield 61, 3, 0, 0, 90), (.if_icmp .ge 70, 3, 131, 0, 0)]),
  (64, [(.iload_n 1, 1, 0, 0, 0), (.iload_n 2, 1, 0, 0, 0), (.iload_n 3, 1, 0, 0, 0), (.iload 4, 2, 0, 0, 0), (.invokestatic 68, 3, 89, 4, 973)]),
  (72, [(.istore 5, 2, 0, 0, 0), (.aload_n 0, 1, 0, 0, 0), (.iload_n 3, 1, 0, 0, 0), (.iload 4, 2, 0, 0, 0), (.invokevirtual 64, 3, 90, 3, 962)]),
  (81, [(.iload 5, 2, 0, 0, 0), (.ifCond .le 35, 3, 118, 0, 0)]),
  (86, [(.aload_n 0, 1, 0, 0, 0), (.getfield 23, 3, 7, 1, 319), (.aload_n 0, 1, 0, 0, 0), (.getfield 11, 3, 7, 2, 320), (.aload_n 0, 1, 0, 0, 0), (.getfield 19, 3, 7, 0, 318), (.getfield 48, 3, 0, 10, 116), (.invokevirtual 53, 3, 19, 3, 934)]),
  (104, [(.ifCond .eq 14, 3, 118, 0, 0)]),
  (107, [(.aload_n 0, 1, 0, 0, 0), (.iload_n 1, 1, 0, 0, 0), (.iload_n 2, 1, 0, 0, 0), (.iload_n 3, 1, 0, 0, 0), (.iload 4, 2, 0, 0, 0), (.iload 5, 2, 0, 0, 0), (.invokevirtual 57, 3, 91, 6, 954)]),
  (118, [(.aload_n 0, 1, 0, 0, 0), (.iload_n 3, 1, 0, 0, 0), (.iload 4, 2, 0, 0, 0), (.invokevirtual 64, 3, 90, 3, 962)]),
  (125, [(.iinc 4 1, 3, 0, 0, 0), (.goto (-76), 3, 52, 0, 0)]),
  (131, [(.iinc 3 1, 3, 0, 0, 0), (.goto (-98), 3, 36, 0, 0)]),
  (137, [(.aload_n 0, 1, 0, 0, 0), (.iload_n 1, 1, 0, 0, 0), (.iload_n 2, 1, 0, 0, 0), (.invokevirtual 64, 3, 90, 3, 962)]),
  (143, [(.iinc 2 1, 3, 0, 0, 0), (.goto (-129), 3, 17, 0, 0)]),
  (149, [(.iinc 1 1, 3, 0, 0, 0), (.goto (-150), 3, 2, 0, 0)]),
  (155, [(.return_, 1, 0, 0, 0)])]
set_option maxRecDepth 20000 in
theorem ck_X7_tryTwo : en_ck 88 bs_X7_tryTwo = true := en_ckF_ok (J := (yX7_tryTwo, cX7_tryTwo, 6, none, 7, 0)) (q := (972, 971, 42, 9)) rfl rfl rfl (by decide +kernel)
def bs_X7_rowsLike : en_Bs := [
  (0, [(.iload_n 2, 1, 0, 0, 0), (.iload_n 0, 1, 0, 0, 0), (.if_icmp .ne 14, 3, 16, 0, 0)]),
  (5, [(.iload_n 3, 1, 0, 0, 0), (.iload_n 1, 1, 0, 0, 0), (.if_icmp .le 7, 3, 14, 0, 0)]),
  (10, [(.iconst 3, 1, 0, 0, 0), (.goto 4, 3, 15, 0, 0)]),
  (14, [(.iconst 0, 1, 0, 0, 0)]),
  (15, [(.ireturn, 1, 0, 0, 0)]),
  (16, [(.iload_n 2, 1, 0, 0, 0), (.iload_n 1, 1, 0, 0, 0), (.if_icmp .ne 5, 3, 23, 0, 0)]),
  (21, [(.iconst 3, 1, 0, 0, 0), (.ireturn, 1, 0, 0, 0)]),
  (23, [(.iload_n 3, 1, 0, 0, 0), (.iload_n 1, 1, 0, 0, 0), (.if_icmp .ne 7, 3, 32, 0, 0)]),
  (28, [(.iconst 0, 1, 0, 0, 0), (.goto 13, 3, 42, 0, 0)]),
  (32, [(.iload_n 2, 1, 0, 0, 0), (.iload_n 0, 1, 0, 0, 0), (.if_icmp .le 7, 3, 41, 0, 0)]),
  (37, [(.iconst 2, 1, 0, 0, 0), (.goto 4, 3, 42, 0, 0)]),
  (41, [(.iconst 0, 1, 0, 0, 0)]),
  (42, [(.ireturn, 1, 0, 0, 0)])]
set_option maxRecDepth 20000 in
theorem ck_X7_rowsLike : en_ck 89 bs_X7_rowsLike = true := en_ckF_ok (J := (yX7_rowsLike, cX7_rowsLike, 4, some .int, 7, 1)) (q := (975, 974, 0, 9)) rfl rfl rfl (by decide +kernel)
def bs_X7_change : en_Bs := [
  (0, [(.aload_n 0, 1, 0, 0, 0), (.getfield 23, 3, 7, 1, 319), (.getfield 72, 3, 1, 2, 250), (.iload_n 1, 1, 0, 0, 0), (.iload_n 2, 1, 0, 0, 0), (.invokestatic 75, 3, 157, 3, 5008)]),
  (12, [(.aload_n 0, 1, 0, 0, 0), (.getfield 23, 3, 7, 1, 319), (.getfield 79, 3, 1, 3, 253), (.iload_n 1, 1, 0, 0, 0), (.iload_n 2, 1, 0, 0, 0), (.invokestatic 75, 3, 157, 3, 5008)]),
  (24, [(.return_, 1, 0, 0, 0)])]
set_option maxRecDepth 20000 in
theorem ck_X7_change : en_ck 90 bs_X7_change = true := en_ckF_ok (J := (yX7_change, cX7_change, 3, none, 7, 0)) (q := (965, 964, 41, 9)) rfl rfl rfl (by decide +kernel)
def bs_X7_found : en_Bs := [
  (0, [(.aload_n 0, 1, 0, 0, 0), (.getfield 27, 3, 7, 4, 322), (.ifCond .ne 32, 3, 36, 0, 0)]),
  (7, [(.aload_n 0, 1, 0, 0, 0), (.getfield 15, 3, 7, 5, 323), (.iconst 0, 1, 0, 0, 0), (.iload_n 1, 1, 0, 0, 0), (.iastore, 1, 0, 0, 0), (.aload_n 0, 1, 0, 0, 0), (.getfield 15, 3, 7, 5, 323), (.iconst 1, 1, 0, 0, 0), (.iload_n 2, 1, 0, 0, 0), (.iastore, 1, 0, 0, 0), (.aload_n 0, 1, 0, 0, 0), (.getfield 15, 3, 7, 5, 323), (.iconst 2, 1, 0, 0, 0), (.iload_n 3, 1, 0, 0, 0), (.iastore, 1, 0, 0, 0), (.aload_n 0, 1, 0, 0, 0), (.getfield 15, 3, 7, 5, 323), (.iconst 3, 1, 0, 0, 0), (.iload 4, 2, 0, 0, 0), (.iastore, 1, 0, 0, 0)]),
  (36, [(.aload_n 0, 1, 0, 0, 0), (.dup, 1, 0, 0, 0), (.getfield 27, 3, 7, 4, 322), (.iload 5, 2, 0, 0, 0), (.iadd, 1, 0, 0, 0), (.putfield 27, 3, 7, 4, 322), (.return_, 1, 0, 0, 0)])]
set_option maxRecDepth 20000 in
theorem ck_X7_found : en_ck 91 bs_X7_found = true := en_ckF_ok (J := (yX7_found, cX7_found, 6, none, 7, 0)) (q := (957, 956, 39, 9)) rfl rfl rfl (by decide +kernel)
def bs_X8_init : en_Bs := [
  (0, [(.aload_n 0, 1, 0, 0, 0), (.invokespecial 3, 3, 900, 0, 168), (.aload_n 0, 1, 0, 0, 0), (.sipush 400, 3, 0, 0, 0), (.newarray .int, 2, 0, 0, 0), (.putfield 9, 3, 8, 0, 169), (.return_, 1, 0, 0, 0)])]
set_option maxRecDepth 20000 in
theorem ck_X8_init : en_ck 92 bs_X8_init = true := en_ckF_ok (J := (yX8_init, cX8_init, 1, none, 8, 0)) (q := (167, 166, 0, 4)) rfl rfl rfl (by decide +kernel)
def bs_X8_append : en_Bs := [
  (0, [(.bipush 24, 2, 0, 0, 0), (.istore_n 2, 1, 0, 0, 0)]),
  (3, [(.iload_n 2, 1, 0, 0, 0), (.ifCond .lt 45, 3, 49, 0, 0)]),
  (7, [(.aload_n 0, 1, 0, 0, 0), (.getfield 15, 3, 8, 1, 170), (.sipush 400, 3, 0, 0, 0), (.if_icmp .ge 35, 3, 49, 0, 0)]),
  (17, [(.aload_n 0, 1, 0, 0, 0), (.getfield 9, 3, 8, 0, 169), (.aload_n 0, 1, 0, 0, 0), (.getfield 15, 3, 8, 1, 170), (.iload_n 1, 1, 0, 0, 0), (.iload_n 2, 1, 0, 0, 0), (.iushr, 1, 0, 0, 0), (.sipush 255, 3, 0, 0, 0), (.iand, 1, 0, 0, 0), (.iastore, 1, 0, 0, 0), (.aload_n 0, 1, 0, 0, 0), (.dup, 1, 0, 0, 0), (.getfield 15, 3, 8, 1, 170), (.iconst 1, 1, 0, 0, 0), (.iadd, 1, 0, 0, 0), (.putfield 15, 3, 8, 1, 170), (.iinc 2 (-8), 3, 0, 0, 0), (.goto (-43), 3, 3, 0, 0)]),
  (49, [(.return_, 1, 0, 0, 0)])]
set_option maxRecDepth 20000 in
theorem ck_X8_append : en_ck 93 bs_X8_append = true := en_ckF_ok (J := (yX8_append, cX8_append, 3, none, 8, 0)) (q := (568, 566, 675, 4)) rfl rfl rfl (by decide +kernel)
def bs_X8_at : en_Bs := [
  (0, [(.iload_n 1, 1, 0, 0, 0), (.ifCond .lt 27, 3, 28, 0, 0)]),
  (4, [(.iload_n 1, 1, 0, 0, 0), (.aload_n 0, 1, 0, 0, 0), (.getfield 15, 3, 8, 1, 170), (.if_icmp .ge 19, 3, 28, 0, 0)]),
  (12, [(.iload_n 1, 1, 0, 0, 0), (.sipush 400, 3, 0, 0, 0), (.if_icmp .ge 12, 3, 28, 0, 0)]),
  (19, [(.aload_n 0, 1, 0, 0, 0), (.getfield 9, 3, 8, 0, 169), (.iload_n 1, 1, 0, 0, 0), (.iaload, 1, 0, 0, 0), (.goto 4, 3, 29, 0, 0)]),
  (28, [(.iconst (-1), 1, 0, 0, 0)]),
  (29, [(.ireturn, 1, 0, 0, 0)])]
set_option maxRecDepth 20000 in
theorem ck_X8_at : en_ck 94 bs_X8_at = true := en_ckF_ok (J := (yX8_at, cX8_at, 2, some .int, 8, 0)) (q := (584, 582, 691, 4)) rfl rfl rfl (by decide +kernel)
def bs_X9_init : en_Bs := [
  (0, [(.aload_n 0, 1, 0, 0, 0), (.invokespecial 3, 3, 900, 0, 216), (.aload_n 0, 1, 0, 0, 0), (.aload_n 1, 1, 0, 0, 0), (.putfield 9, 3, 9, 0, 217), (.return_, 1, 0, 0, 0)])]
set_option maxRecDepth 20000 in
theorem ck_X9_init : en_ck 95 bs_X9_init = true := en_ckF_ok (J := (yX9_init, cX9_init, 2, none, 9, 0)) (q := (215, 214, 0, 6)) rfl rfl rfl (by decide +kernel)
def bs_X9_standOf : en_Bs := [
  (0, [(.iload_n 2, 1, 0, 0, 0), (.iconst 0, 1, 0, 0, 0), (.aload_n 0, 1, 0, 0, 0), (.getfield 9, 3, 9, 0, 217), (.iload_n 1, 1, 0, 0, 0), (.invokevirtual 15, 3, 14, 2, 773)]),
  (10, [(.invokestatic 21, 3, 154, 3, 5003)]),
  (13, [(.ifCond .eq 20, 3, 33, 0, 0)]),
  (16, [(.aload_n 0, 1, 0, 0, 0), (.aload_n 0, 1, 0, 0, 0), (.getfield 9, 3, 9, 0, 217), (.iload_n 1, 1, 0, 0, 0), (.iconst 1, 1, 0, 0, 0), (.invokevirtual 25, 3, 11, 3, 775)]),
  (26, [(.iload_n 2, 1, 0, 0, 0), (.invokevirtual 29, 3, 102, 3, 776)]),
  (30, [(.goto 4, 3, 34, 0, 0)]),
  (33, [(.iconst (-1), 1, 0, 0, 0)]),
  (34, [(.ireturn, 1, 0, 0, 0)])]
set_option maxRecDepth 20000 in
theorem ck_X9_standOf : en_ck 96 bs_X9_standOf = true := en_ckF_ok (J := (yX9_standOf, cX9_standOf, 3, some .int, 9, 0)) (q := (772, 770, 879, 6)) rfl rfl rfl (by decide +kernel)
def bs_X9_comersTo : en_Bs := [
  (0, [(.iconst 0, 1, 0, 0, 0), (.istore_n 3, 1, 0, 0, 0), (.iconst 0, 1, 0, 0, 0), (.istore 4, 2, 0, 0, 0)]),
  (5, [(.iload 4, 2, 0, 0, 0), (.aload_n 0, 1, 0, 0, 0), (.getfield 9, 3, 9, 0, 217), (.getfield 32, 3, 0, 0, 88), (.if_icmp .ge 82, 3, 96, 0, 0)]),
  (17, [(.iload 4, 2, 0, 0, 0), (.istore 5, 2, 0, 0, 0), (.iconst 0, 1, 0, 0, 0), (.istore 6, 2, 0, 0, 0)]),
  (24, [(.iload 6, 2, 0, 0, 0), (.bipush 12, 2, 0, 0, 0), (.if_icmp .ge 41, 3, 69, 0, 0)]),
  (31, [(.iload 5, 2, 0, 0, 0), (.iconst (-1), 1, 0, 0, 0), (.if_icmp .eq 35, 3, 69, 0, 0)]),
  (37, [(.iload 5, 2, 0, 0, 0), (.iload_n 1, 1, 0, 0, 0), (.if_icmp .eq 29, 3, 69, 0, 0)]),
  (43, [(.iload_n 2, 1, 0, 0, 0), (.iload 5, 2, 0, 0, 0), (.invokestatic 36, 3, 155, 2, 5004)]),
  (49, [(.ifCond .ne 20, 3, 69, 0, 0)]),
  (52, [(.aload_n 0, 1, 0, 0, 0), (.getfield 9, 3, 9, 0, 217), (.iload 5, 2, 0, 0, 0), (.invokevirtual 40, 3, 12, 2, 780)]),
  (61, [(.istore 5, 2, 0, 0, 0), (.iinc 6 1, 3, 0, 0, 0), (.goto (-42), 3, 24, 0, 0)]),
  (69, [(.iload 5, 2, 0, 0, 0), (.iload_n 1, 1, 0, 0, 0), (.if_icmp .ne 18, 3, 90, 0, 0)]),
  (75, [(.iload_n 2, 1, 0, 0, 0), (.iload_n 1, 1, 0, 0, 0), (.invokestatic 36, 3, 155, 2, 5004)]),
  (80, [(.ifCond .ne 10, 3, 90, 0, 0)]),
  (83, [(.iload_n 3, 1, 0, 0, 0), (.iconst 1, 1, 0, 0, 0), (.iload 4, 2, 0, 0, 0), (.ishl, 1, 0, 0, 0), (.ior, 1, 0, 0, 0), (.istore_n 3, 1, 0, 0, 0)]),
  (90, [(.iinc 4 1, 3, 0, 0, 0), (.goto (-88), 3, 5, 0, 0)]),
  (96, [(.iload_n 3, 1, 0, 0, 0), (.ireturn, 1, 0, 0, 0)])]
set_option maxRecDepth 20000 in
theorem ck_X9_comersTo : en_ck 97 bs_X9_comersTo = true := en_ckF_ok (J := (yX9_comersTo, cX9_comersTo, 7, some .int, 9, 0)) (q := (791, 789, 898, 6)) rfl rfl rfl (by decide +kernel)
