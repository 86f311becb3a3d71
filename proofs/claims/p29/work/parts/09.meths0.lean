def bs_X0_init : en_Bs := [
  (0, [(.aload_n 0, 1, 0, 0, 0), (.invokespecial 3, 3, 900, 0, 34), (.aload_n 0, 1, 0, 0, 0), (.bipush 12, 2, 0, 0, 0), (.newarray .int, 2, 0, 0, 0), (.putfield 9, 3, 0, 1, 92), (.aload_n 0, 1, 0, 0, 0), (.bipush 12, 2, 0, 0, 0), (.newarray .int, 2, 0, 0, 0), (.putfield 15, 3, 0, 2, 94), (.aload_n 0, 1, 0, 0, 0), (.bipush 12, 2, 0, 0, 0), (.newarray .int, 2, 0, 0, 0), (.putfield 18, 3, 0, 3, 99), (.aload_n 0, 1, 0, 0, 0), (.bipush 48, 2, 0, 0, 0), (.newarray .int, 2, 0, 0, 0), (.putfield 21, 3, 0, 5, 108), (.aload_n 0, 1, 0, 0, 0), (.bipush 6, 2, 0, 0, 0), (.anewarray 24, 3, 3, 0, 35), (.putfield 26, 3, 0, 7, 111), (.aload_n 0, 1, 0, 0, 0), (.new 24, 3, 4, 0, 35), (.dup, 1, 0, 0, 0), (.invokespecial 30, 3, 55, 1, 5000)]),
  (53, [(.putfield 31, 3, 0, 8, 112), (.aload_n 0, 1, 0, 0, 0), (.iconst (-1), 1, 0, 0, 0), (.putfield 35, 3, 0, 9, 113), (.aload_n 0, 1, 0, 0, 0), (.bipush 60, 2, 0, 0, 0), (.putfield 39, 3, 0, 10, 115), (.aload_n 0, 1, 0, 0, 0), (.iconst 2, 1, 0, 0, 0), (.putfield 42, 3, 0, 11, 119), (.aload_n 0, 1, 0, 0, 0), (.bipush 8, 2, 0, 0, 0), (.newarray .int, 2, 0, 0, 0), (.putfield 45, 3, 0, 13, 125), (.aload_n 0, 1, 0, 0, 0), (.bipush 8, 2, 0, 0, 0), (.newarray .int, 2, 0, 0, 0), (.putfield 48, 3, 0, 14, 128), (.iconst 0, 1, 0, 0, 0), (.istore_n 1, 1, 0, 0, 0)]),
  (90, [(.iload_n 1, 1, 0, 0, 0), (.bipush 6, 2, 0, 0, 0), (.if_icmp .ge 22, 3, 115, 0, 0)]),
  (96, [(.aload_n 0, 1, 0, 0, 0), (.getfield 26, 3, 0, 7, 111), (.iload_n 1, 1, 0, 0, 0), (.new 24, 3, 4, 0, 35), (.dup, 1, 0, 0, 0), (.invokespecial 30, 3, 55, 1, 5000)]),
  (108, [(.aastore, 1, 0, 0, 0), (.iinc 1 1, 3, 0, 0, 0), (.goto (-22), 3, 90, 0, 0)]),
  (115, [(.return_, 1, 0, 0, 0)])]
set_option maxRecDepth 20000 in
theorem ck_X0_init : en_ck 1 bs_X0_init = true := en_ckF_ok (J := (yX0_init, cX0_init, 2, none, 0, 0)) (q := (33, 32, 0, 2)) rfl rfl rfl (by decide +kernel)
def bs_X0_become : en_Bs := [
  (0, [(.aload_n 0, 1, 0, 0, 0), (.aload_n 1, 1, 0, 0, 0), (.getfield 51, 3, 0, 0, 85), (.putfield 51, 3, 0, 0, 85), (.aload_n 1, 1, 0, 0, 0), (.getfield 9, 3, 0, 1, 92), (.iconst 0, 1, 0, 0, 0), (.aload_n 0, 1, 0, 0, 0), (.getfield 9, 3, 0, 1, 92), (.iconst 0, 1, 0, 0, 0), (.bipush 12, 2, 0, 0, 0), (.invokestatic 54, 3, 901, 0, 554), (.aload_n 1, 1, 0, 0, 0), (.getfield 15, 3, 0, 2, 94), (.iconst 0, 1, 0, 0, 0), (.aload_n 0, 1, 0, 0, 0), (.getfield 15, 3, 0, 2, 94), (.iconst 0, 1, 0, 0, 0), (.bipush 12, 2, 0, 0, 0), (.invokestatic 54, 3, 901, 0, 554), (.aload_n 1, 1, 0, 0, 0), (.getfield 18, 3, 0, 3, 99), (.iconst 0, 1, 0, 0, 0), (.aload_n 0, 1, 0, 0, 0), (.getfield 18, 3, 0, 3, 99), (.iconst 0, 1, 0, 0, 0), (.bipush 12, 2, 0, 0, 0), (.invokestatic 54, 3, 901, 0, 554), (.aload_n 0, 1, 0, 0, 0), (.aload_n 1, 1, 0, 0, 0), (.getfield 60, 3, 0, 4, 103), (.putfield 60, 3, 0, 4, 103), (.aload_n 1, 1, 0, 0, 0), (.getfield 21, 3, 0, 5, 108), (.iconst 0, 1, 0, 0, 0), (.aload_n 0, 1, 0, 0, 0), (.getfield 21, 3, 0, 5, 108), (.iconst 0, 1, 0, 0, 0), (.bipush 48, 2, 0, 0, 0), (.invokestatic 54, 3, 901, 0, 554), (.aload_n 0, 1, 0, 0, 0), (.aload_n 1, 1, 0, 0, 0), (.getfield 63, 3, 0, 6, 109), (.putfield 63, 3, 0, 6, 109), (.iconst 0, 1, 0, 0, 0), (.istore_n 2, 1, 0, 0, 0)]),
  (86, [(.iload_n 2, 1, 0, 0, 0), (.bipush 6, 2, 0, 0, 0), (.if_icmp .ge 22, 3, 111, 0, 0)]),
  (92, [(.aload_n 0, 1, 0, 0, 0), (.iload_n 2, 1, 0, 0, 0), (.invokevirtual 66, 3, 10, 2, 741)]),
  (97, [(.aload_n 1, 1, 0, 0, 0), (.iload_n 2, 1, 0, 0, 0), (.invokevirtual 66, 3, 10, 2, 741)]),
  (102, [(.invokevirtual 70, 3, 56, 2, 745)]),
  (105, [(.iinc 2 1, 3, 0, 0, 0), (.goto (-22), 3, 86, 0, 0)]),
  (111, [(.aload_n 0, 1, 0, 0, 0), (.aload_n 1, 1, 0, 0, 0), (.getfield 35, 3, 0, 9, 113), (.putfield 35, 3, 0, 9, 113), (.aload_n 0, 1, 0, 0, 0), (.aload_n 1, 1, 0, 0, 0), (.getfield 39, 3, 0, 10, 115), (.putfield 39, 3, 0, 10, 115), (.aload_n 0, 1, 0, 0, 0), (.aload_n 1, 1, 0, 0, 0), (.getfield 42, 3, 0, 11, 119), (.putfield 42, 3, 0, 11, 119), (.aload_n 0, 1, 0, 0, 0), (.aload_n 1, 1, 0, 0, 0), (.getfield 74, 3, 0, 12, 122), (.putfield 74, 3, 0, 12, 122), (.aload_n 1, 1, 0, 0, 0), (.getfield 45, 3, 0, 13, 125), (.iconst 0, 1, 0, 0, 0), (.aload_n 0, 1, 0, 0, 0), (.getfield 45, 3, 0, 13, 125), (.iconst 0, 1, 0, 0, 0), (.bipush 8, 2, 0, 0, 0), (.invokestatic 54, 3, 901, 0, 554), (.aload_n 1, 1, 0, 0, 0), (.getfield 48, 3, 0, 14, 128), (.iconst 0, 1, 0, 0, 0), (.aload_n 0, 1, 0, 0, 0), (.getfield 48, 3, 0, 14, 128), (.iconst 0, 1, 0, 0, 0), (.bipush 8, 2, 0, 0, 0), (.invokestatic 54, 3, 901, 0, 554), (.return_, 1, 0, 0, 0)])]
set_option maxRecDepth 20000 in
theorem ck_X0_become : en_ck 2 bs_X0_become = true := en_ckF_ok (J := (yX0_become, cX0_become, 3, none, 0, 0)) (q := (1155, 1153, 1262, 2)) rfl rfl rfl (by decide +kernel)
def bs_X0_hasStand : en_Bs := [
  (0, [(.iload_n 1, 1, 0, 0, 0), (.ifCond .lt 15, 3, 16, 0, 0)]),
  (4, [(.iload_n 1, 1, 0, 0, 0), (.aload_n 0, 1, 0, 0, 0), (.getfield 51, 3, 0, 0, 85), (.if_icmp .ge 7, 3, 16, 0, 0)]),
  (12, [(.iconst 1, 1, 0, 0, 0), (.goto 4, 3, 17, 0, 0)]),
  (16, [(.iconst 0, 1, 0, 0, 0)]),
  (17, [(.ireturn, 1, 0, 0, 0)])]
set_option maxRecDepth 20000 in
theorem ck_X0_hasStand : en_ck 3 bs_X0_hasStand = true := en_ckF_ok (J := (yX0_hasStand, cX0_hasStand, 2, some .boolean, 0, 0)) (q := (511, 509, 618, 2)) rfl rfl rfl (by decide +kernel)
def bs_X0_hasLoad : en_Bs := [
  (0, [(.iload_n 1, 1, 0, 0, 0), (.ifCond .lt 15, 3, 16, 0, 0)]),
  (4, [(.iload_n 1, 1, 0, 0, 0), (.aload_n 0, 1, 0, 0, 0), (.getfield 60, 3, 0, 4, 103), (.if_icmp .ge 7, 3, 16, 0, 0)]),
  (12, [(.iconst 1, 1, 0, 0, 0), (.goto 4, 3, 17, 0, 0)]),
  (16, [(.iconst 0, 1, 0, 0, 0)]),
  (17, [(.ireturn, 1, 0, 0, 0)])]
set_option maxRecDepth 20000 in
theorem ck_X0_hasLoad : en_ck 4 bs_X0_hasLoad = true := en_ckF_ok (J := (yX0_hasLoad, cX0_hasLoad, 2, some .boolean, 0, 0)) (q := (540, 538, 647, 2)) rfl rfl rfl (by decide +kernel)
def bs_X0_addStand : en_Bs := [
  (0, [(.aload_n 0, 1, 0, 0, 0), (.getfield 51, 3, 0, 0, 85), (.bipush 12, 2, 0, 0, 0), (.if_icmp .lt 5, 3, 11, 0, 0)]),
  (9, [(.iconst (-1), 1, 0, 0, 0), (.ireturn, 1, 0, 0, 0)]),
  (11, [(.aload_n 0, 1, 0, 0, 0), (.getfield 9, 3, 0, 1, 92), (.aload_n 0, 1, 0, 0, 0), (.getfield 51, 3, 0, 0, 85), (.iload_n 1, 1, 0, 0, 0), (.iastore, 1, 0, 0, 0), (.aload_n 0, 1, 0, 0, 0), (.getfield 15, 3, 0, 2, 94), (.aload_n 0, 1, 0, 0, 0), (.getfield 51, 3, 0, 0, 85), (.iload_n 2, 1, 0, 0, 0), (.iastore, 1, 0, 0, 0), (.aload_n 0, 1, 0, 0, 0), (.getfield 18, 3, 0, 3, 99), (.aload_n 0, 1, 0, 0, 0), (.getfield 51, 3, 0, 0, 85), (.iload_n 3, 1, 0, 0, 0), (.iastore, 1, 0, 0, 0), (.aload_n 0, 1, 0, 0, 0), (.dup, 1, 0, 0, 0), (.getfield 51, 3, 0, 0, 85), (.iconst 1, 1, 0, 0, 0), (.iadd, 1, 0, 0, 0), (.putfield 51, 3, 0, 0, 85), (.aload_n 0, 1, 0, 0, 0), (.getfield 51, 3, 0, 0, 85), (.iconst 1, 1, 0, 0, 0), (.isub, 1, 0, 0, 0), (.ireturn, 1, 0, 0, 0)])]
set_option maxRecDepth 20000 in
theorem ck_X0_addStand : en_ck 5 bs_X0_addStand = true := en_ckF_ok (J := (yX0_addStand, cX0_addStand, 4, some .int, 0, 0)) (q := (499, 497, 606, 2)) rfl rfl rfl (by decide +kernel)
def bs_X0_addLoad : en_Bs := [
  (0, [(.aload_n 0, 1, 0, 0, 0), (.getfield 60, 3, 0, 4, 103), (.bipush 8, 2, 0, 0, 0), (.if_icmp .lt 5, 3, 11, 0, 0)]),
  (9, [(.iconst (-1), 1, 0, 0, 0), (.ireturn, 1, 0, 0, 0)]),
  (11, [(.aload_n 0, 1, 0, 0, 0), (.getfield 60, 3, 0, 4, 103), (.bipush 6, 2, 0, 0, 0), (.imul, 1, 0, 0, 0), (.istore 7, 2, 0, 0, 0), (.aload_n 0, 1, 0, 0, 0), (.getfield 21, 3, 0, 5, 108), (.iload 7, 2, 0, 0, 0), (.iconst 0, 1, 0, 0, 0), (.iadd, 1, 0, 0, 0), (.iload_n 1, 1, 0, 0, 0), (.iastore, 1, 0, 0, 0), (.aload_n 0, 1, 0, 0, 0), (.getfield 21, 3, 0, 5, 108), (.iload 7, 2, 0, 0, 0), (.iconst 1, 1, 0, 0, 0), (.iadd, 1, 0, 0, 0), (.iload_n 2, 1, 0, 0, 0), (.iastore, 1, 0, 0, 0), (.aload_n 0, 1, 0, 0, 0), (.getfield 21, 3, 0, 5, 108), (.iload 7, 2, 0, 0, 0), (.iconst 2, 1, 0, 0, 0), (.iadd, 1, 0, 0, 0), (.iload_n 3, 1, 0, 0, 0), (.iastore, 1, 0, 0, 0), (.aload_n 0, 1, 0, 0, 0), (.getfield 21, 3, 0, 5, 108), (.iload 7, 2, 0, 0, 0), (.iconst 3, 1, 0, 0, 0), (.iadd, 1, 0, 0, 0), (.iload 4, 2, 0, 0, 0), (.iastore, 1, 0, 0, 0), (.aload_n 0, 1, 0, 0, 0), (.getfield 21, 3, 0, 5, 108), (.iload 7, 2, 0, 0, 0), (.iconst 4, 1, 0, 0, 0), (.iadd, 1, 0, 0, 0), (.iload 5, 2, 0, 0, 0), (.iastore, 1, 0, 0, 0), (.aload_n 0, 1, 0, 0, 0), (.getfield 21, 3, 0, 5, 108), (.iload 7, 2, 0, 0, 0), (.iconst 5, 1, 0, 0, 0), (.iadd, 1, 0, 0, 0), (.iload 6, 2, 0, 0, 0), (.iastore, 1, 0, 0, 0), (.aload_n 0, 1, 0, 0, 0), (.dup, 1, 0, 0, 0), (.getfield 60, 3, 0, 4, 103), (.iconst 1, 1, 0, 0, 0), (.iadd, 1, 0, 0, 0), (.putfield 60, 3, 0, 4, 103), (.aload_n 0, 1, 0, 0, 0), (.getfield 60, 3, 0, 4, 103), (.iconst 1, 1, 0, 0, 0), (.isub, 1, 0, 0, 0), (.ireturn, 1, 0, 0, 0)])]
set_option maxRecDepth 20000 in
theorem ck_X0_addLoad : en_ck 6 bs_X0_addLoad = true := en_ckF_ok (J := (yX0_addLoad, cX0_addLoad, 8, some .int, 0, 0)) (q := (532, 530, 639, 2)) rfl rfl rfl (by decide +kernel)
def bs_X0_removeLoad : en_Bs := [
  (0, [(.aload_n 0, 1, 0, 0, 0), (.iload_n 1, 1, 0, 0, 0), (.invokevirtual 77, 3, 4, 2, 553)]),
  (5, [(.ifCond .eq 45, 3, 50, 0, 0)]),
  (8, [(.iload_n 1, 1, 0, 0, 0), (.iconst 1, 1, 0, 0, 0), (.iadd, 1, 0, 0, 0), (.bipush 6, 2, 0, 0, 0), (.imul, 1, 0, 0, 0), (.istore_n 2, 1, 0, 0, 0), (.aload_n 0, 1, 0, 0, 0), (.getfield 21, 3, 0, 5, 108), (.iload_n 2, 1, 0, 0, 0), (.aload_n 0, 1, 0, 0, 0), (.getfield 21, 3, 0, 5, 108), (.iload_n 1, 1, 0, 0, 0), (.bipush 6, 2, 0, 0, 0), (.imul, 1, 0, 0, 0), (.aload_n 0, 1, 0, 0, 0), (.getfield 60, 3, 0, 4, 103), (.bipush 6, 2, 0, 0, 0), (.imul, 1, 0, 0, 0), (.iload_n 2, 1, 0, 0, 0), (.isub, 1, 0, 0, 0), (.invokestatic 54, 3, 901, 0, 554), (.aload_n 0, 1, 0, 0, 0), (.dup, 1, 0, 0, 0), (.getfield 60, 3, 0, 4, 103), (.iconst 1, 1, 0, 0, 0), (.isub, 1, 0, 0, 0), (.putfield 60, 3, 0, 4, 103)]),
  (50, [(.return_, 1, 0, 0, 0)])]
set_option maxRecDepth 20000 in
theorem ck_X0_removeLoad : en_ck 7 bs_X0_removeLoad = true := en_ckF_ok (J := (yX0_removeLoad, cX0_removeLoad, 3, none, 0, 0)) (q := (552, 550, 659, 2)) rfl rfl rfl (by decide +kernel)
def bs_X0_addLaw : en_Bs := [
  (0, [(.aload_n 0, 1, 0, 0, 0), (.getfield 63, 3, 0, 6, 109), (.bipush 6, 2, 0, 0, 0), (.if_icmp .lt 5, 3, 11, 0, 0)]),
  (9, [(.iconst (-1), 1, 0, 0, 0), (.ireturn, 1, 0, 0, 0)]),
  (11, [(.aload_n 0, 1, 0, 0, 0), (.aload_n 0, 1, 0, 0, 0), (.getfield 63, 3, 0, 6, 109), (.invokevirtual 66, 3, 10, 2, 741)]),
  (19, [(.aload_n 1, 1, 0, 0, 0), (.invokevirtual 70, 3, 56, 2, 745)]),
  (23, [(.aload_n 0, 1, 0, 0, 0), (.dup, 1, 0, 0, 0), (.getfield 63, 3, 0, 6, 109), (.iconst 1, 1, 0, 0, 0), (.iadd, 1, 0, 0, 0), (.putfield 63, 3, 0, 6, 109), (.aload_n 0, 1, 0, 0, 0), (.getfield 63, 3, 0, 6, 109), (.iconst 1, 1, 0, 0, 0), (.isub, 1, 0, 0, 0), (.ireturn, 1, 0, 0, 0)])]
set_option maxRecDepth 20000 in
theorem ck_X0_addLaw : en_ck 8 bs_X0_addLaw = true := en_ckF_ok (J := (yX0_addLaw, cX0_addLaw, 2, some .int, 0, 0)) (q := (740, 738, 847, 2)) rfl rfl rfl (by decide +kernel)
def bs_X0_lawInForce : en_Bs := [
  (0, [(.aload_n 0, 1, 0, 0, 0), (.aload_n 0, 1, 0, 0, 0), (.getfield 35, 3, 0, 9, 113), (.invokevirtual 66, 3, 10, 2, 741)]),
  (8, [(.areturn, 1, 0, 0, 0)])]
set_option maxRecDepth 20000 in
theorem ck_X0_lawInForce : en_ck 9 bs_X0_lawInForce = true := en_ckF_ok (J := (yX0_lawInForce, cX0_lawInForce, 1, some (.object "LeftHands$Law"), 0, 0)) (q := (853, 851, 960, 2)) rfl rfl rfl (by decide +kernel)
def bs_X0_lawAt : en_Bs := [
  (0, [(.iload_n 1, 1, 0, 0, 0), (.ifCond .lt 18, 3, 19, 0, 0)]),
  (4, [(.iload_n 1, 1, 0, 0, 0), (.bipush 6, 2, 0, 0, 0), (.if_icmp .ge 12, 3, 19, 0, 0)]),
  (10, [(.aload_n 0, 1, 0, 0, 0), (.getfield 26, 3, 0, 7, 111), (.iload_n 1, 1, 0, 0, 0), (.aaload, 1, 0, 0, 0), (.goto 4, 3, 20, 0, 0)]),
  (19, [(.aconst_null, 1, 0, 0, 0)]),
  (20, [(.astore_n 2, 1, 0, 0, 0), (.aload_n 2, 1, 0, 0, 0), (.ifnonnull 10, 3, 32, 0, 0)]),
  (25, [(.aload_n 0, 1, 0, 0, 0), (.getfield 31, 3, 0, 8, 112), (.goto 4, 3, 33, 0, 0)]),
  (32, [(.aload_n 2, 1, 0, 0, 0)]),
  (33, [(.areturn, 1, 0, 0, 0)])]
set_option maxRecDepth 20000 in
theorem ck_X0_lawAt : en_ck 10 bs_X0_lawAt = true := en_ckF_ok (J := (yX0_lawAt, cX0_lawAt, 3, some (.object "LeftHands$Law"), 0, 0)) (q := (744, 743, 19, 2)) rfl rfl rfl (by decide +kernel)
def bs_X0_about : en_Bs := [
  (0, [(.iload_n 1, 1, 0, 0, 0), (.ifCond .lt 35, 3, 36, 0, 0)]),
  (4, [(.iload_n 1, 1, 0, 0, 0), (.aload_n 0, 1, 0, 0, 0), (.getfield 60, 3, 0, 4, 103), (.if_icmp .ge 27, 3, 36, 0, 0)]),
  (12, [(.iload_n 2, 1, 0, 0, 0), (.ifCond .lt 23, 3, 36, 0, 0)]),
  (16, [(.iload_n 2, 1, 0, 0, 0), (.bipush 6, 2, 0, 0, 0), (.if_icmp .ge 17, 3, 36, 0, 0)]),
  (22, [(.aload_n 0, 1, 0, 0, 0), (.getfield 21, 3, 0, 5, 108), (.iload_n 1, 1, 0, 0, 0), (.bipush 6, 2, 0, 0, 0), (.imul, 1, 0, 0, 0), (.iload_n 2, 1, 0, 0, 0), (.iadd, 1, 0, 0, 0), (.iaload, 1, 0, 0, 0), (.goto 4, 3, 37, 0, 0)]),
  (36, [(.iconst (-1), 1, 0, 0, 0)]),
  (37, [(.ireturn, 1, 0, 0, 0)])]
set_option maxRecDepth 20000 in
theorem ck_X0_about : en_ck 11 bs_X0_about = true := en_ckF_ok (J := (yX0_about, cX0_about, 3, some .int, 0, 0)) (q := (544, 542, 651, 2)) rfl rfl rfl (by decide +kernel)
def bs_X0_next : en_Bs := [
  (0, [(.aload_n 0, 1, 0, 0, 0), (.iload_n 1, 1, 0, 0, 0), (.invokevirtual 81, 3, 3, 2, 520)]),
  (5, [(.ifCond .eq 25, 3, 30, 0, 0)]),
  (8, [(.aload_n 0, 1, 0, 0, 0), (.aload_n 0, 1, 0, 0, 0), (.getfield 9, 3, 0, 1, 92), (.iload_n 1, 1, 0, 0, 0), (.iaload, 1, 0, 0, 0), (.invokevirtual 81, 3, 3, 2, 520)]),
  (18, [(.ifCond .eq 12, 3, 30, 0, 0)]),
  (21, [(.aload_n 0, 1, 0, 0, 0), (.getfield 9, 3, 0, 1, 92), (.iload_n 1, 1, 0, 0, 0), (.iaload, 1, 0, 0, 0), (.goto 4, 3, 31, 0, 0)]),
  (30, [(.iconst (-1), 1, 0, 0, 0)]),
  (31, [(.ireturn, 1, 0, 0, 0)])]
set_option maxRecDepth 20000 in
theorem ck_X0_next : en_ck 12 bs_X0_next = true := en_ckF_ok (J := (yX0_next, cX0_next, 2, some .int, 0, 0)) (q := (519, 517, 626, 2)) rfl rfl rfl (by decide +kernel)
def bs_X0_nextPast : en_Bs := [
  (0, [(.aload_n 0, 1, 0, 0, 0), (.iload_n 1, 1, 0, 0, 0), (.invokevirtual 84, 3, 12, 2, 768)]),
  (5, [(.istore_n 3, 1, 0, 0, 0), (.iconst 0, 1, 0, 0, 0), (.istore 4, 2, 0, 0, 0)]),
  (9, [(.iload 4, 2, 0, 0, 0), (.bipush 12, 2, 0, 0, 0), (.if_icmp .ge 28, 3, 41, 0, 0)]),
  (16, [(.iload_n 3, 1, 0, 0, 0), (.iconst (-1), 1, 0, 0, 0), (.if_icmp .eq 23, 3, 41, 0, 0)]),
  (21, [(.iload_n 2, 1, 0, 0, 0), (.iload_n 3, 1, 0, 0, 0), (.invokestatic 88, 3, 155, 2, 5005)]),
  (26, [(.ifCond .eq 15, 3, 41, 0, 0)]),
  (29, [(.aload_n 0, 1, 0, 0, 0), (.iload_n 3, 1, 0, 0, 0), (.invokevirtual 84, 3, 12, 2, 768)]),
  (34, [(.istore_n 3, 1, 0, 0, 0), (.iinc 4 1, 3, 0, 0, 0), (.goto (-29), 3, 9, 0, 0)]),
  (41, [(.iload_n 3, 1, 0, 0, 0), (.iconst (-1), 1, 0, 0, 0), (.if_icmp .eq 15, 3, 58, 0, 0)]),
  (46, [(.iload_n 2, 1, 0, 0, 0), (.iload_n 3, 1, 0, 0, 0), (.invokestatic 88, 3, 155, 2, 5005)]),
  (51, [(.ifCond .eq 7, 3, 58, 0, 0)]),
  (54, [(.iconst (-1), 1, 0, 0, 0), (.goto 4, 3, 59, 0, 0)]),
  (58, [(.iload_n 3, 1, 0, 0, 0)]),
  (59, [(.ireturn, 1, 0, 0, 0)])]
set_option maxRecDepth 20000 in
theorem ck_X0_nextPast : en_ck 13 bs_X0_nextPast = true := en_ckF_ok (J := (yX0_nextPast, cX0_nextPast, 5, some .int, 0, 0)) (q := (811, 809, 918, 2)) rfl rfl rfl (by decide +kernel)
def bs_X0_handsOf : en_Bs := [
  (0, [(.aload_n 0, 1, 0, 0, 0), (.iload_n 1, 1, 0, 0, 0), (.iconst 1, 1, 0, 0, 0), (.invokevirtual 92, 3, 11, 3, 767)]),
  (6, [(.istore_n 2, 1, 0, 0, 0), (.aload_n 0, 1, 0, 0, 0), (.iload_n 1, 1, 0, 0, 0), (.iconst 2, 1, 0, 0, 0), (.invokevirtual 92, 3, 11, 3, 767)]),
  (13, [(.istore_n 3, 1, 0, 0, 0), (.iconst 0, 1, 0, 0, 0), (.istore 4, 2, 0, 0, 0)]),
  (17, [(.iload 4, 2, 0, 0, 0), (.bipush 12, 2, 0, 0, 0), (.if_icmp .ge 28, 3, 49, 0, 0)]),
  (24, [(.iload_n 2, 1, 0, 0, 0), (.iconst (-1), 1, 0, 0, 0), (.if_icmp .eq 23, 3, 49, 0, 0)]),
  (29, [(.iload_n 2, 1, 0, 0, 0), (.iload_n 3, 1, 0, 0, 0), (.if_icmp .ne 6, 3, 37, 0, 0)]),
  (34, [(.iload 4, 2, 0, 0, 0), (.ireturn, 1, 0, 0, 0)]),
  (37, [(.aload_n 0, 1, 0, 0, 0), (.iload_n 2, 1, 0, 0, 0), (.invokevirtual 84, 3, 12, 2, 768)]),
  (42, [(.istore_n 2, 1, 0, 0, 0), (.iinc 4 1, 3, 0, 0, 0), (.goto (-29), 3, 17, 0, 0)]),
  (49, [(.iconst (-1), 1, 0, 0, 0), (.ireturn, 1, 0, 0, 0)])]
set_option maxRecDepth 20000 in
theorem ck_X0_handsOf : en_ck 14 bs_X0_handsOf = true := en_ckF_ok (J := (yX0_handsOf, cX0_handsOf, 5, some .int, 0, 0)) (q := (766, 764, 873, 2)) rfl rfl rfl (by decide +kernel)
def bs_X1_init : en_Bs := [
  (0, [(.aload_n 0, 1, 0, 0, 0), (.invokespecial 3, 3, 900, 0, 246), (.aload_n 0, 1, 0, 0, 0), (.bipush 12, 2, 0, 0, 0), (.newarray .int, 2, 0, 0, 0), (.putfield 9, 3, 1, 2, 249), (.aload_n 0, 1, 0, 0, 0), (.bipush 12, 2, 0, 0, 0), (.newarray .int, 2, 0, 0, 0), (.putfield 15, 3, 1, 3, 252), (.aload_n 0, 1, 0, 0, 0), (.bipush 8, 2, 0, 0, 0), (.newarray .int, 2, 0, 0, 0), (.putfield 18, 3, 1, 4, 254), (.aload_n 0, 1, 0, 0, 0), (.bipush 12, 2, 0, 0, 0), (.newarray .int, 2, 0, 0, 0), (.putfield 21, 3, 1, 5, 256), (.aload_n 0, 1, 0, 0, 0), (.bipush 8, 2, 0, 0, 0), (.newarray .int, 2, 0, 0, 0), (.putfield 24, 3, 1, 6, 257), (.aload_n 0, 1, 0, 0, 0), (.bipush 8, 2, 0, 0, 0), (.newarray .int, 2, 0, 0, 0), (.putfield 27, 3, 1, 7, 258), (.aload_n 0, 1, 0, 0, 0), (.bipush 8, 2, 0, 0, 0), (.newarray .int, 2, 0, 0, 0), (.putfield 30, 3, 1, 8, 259), (.aload_n 0, 1, 0, 0, 0), (.bipush 8, 2, 0, 0, 0), (.newarray .int, 2, 0, 0, 0), (.putfield 33, 3, 1, 9, 261), (.aload_n 0, 1, 0, 0, 0), (.bipush 8, 2, 0, 0, 0), (.newarray .int, 2, 0, 0, 0), (.putfield 36, 3, 1, 10, 263), (.aload_n 0, 1, 0, 0, 0), (.bipush 8, 2, 0, 0, 0), (.newarray .int, 2, 0, 0, 0), (.putfield 39, 3, 1, 11, 265), (.aload_n 0, 1, 0, 0, 0), (.bipush 12, 2, 0, 0, 0), (.newarray .int, 2, 0, 0, 0), (.putfield 42, 3, 1, 12, 266), (.aload_n 0, 1, 0, 0, 0), (.bipush 12, 2, 0, 0, 0), (.newarray .int, 2, 0, 0, 0), (.putfield 45, 3, 1, 13, 267), (.aload_n 0, 1, 0, 0, 0), (.bipush 8, 2, 0, 0, 0), (.newarray .long, 2, 0, 0, 0), (.putfield 48, 3, 1, 14, 268), (.aload_n 0, 1, 0, 0, 0), (.bipush 8, 2, 0, 0, 0), (.newarray .int, 2, 0, 0, 0), (.putfield 52, 3, 1, 15, 269), (.aload_n 0, 1, 0, 0, 0), (.sipush 800, 3, 0, 0, 0), (.newarray .int, 2, 0, 0, 0), (.putfield 55, 3, 1, 17, 271), (.aload_n 0, 1, 0, 0, 0), (.aload_n 1, 1, 0, 0, 0), (.putfield 58, 3, 1, 0, 247), (.aload_n 0, 1, 0, 0, 0), (.aload_n 2, 1, 0, 0, 0), (.putfield 62, 3, 1, 1, 248), (.return_, 1, 0, 0, 0)])]
set_option maxRecDepth 20000 in
theorem ck_X1_init : en_ck 15 bs_X1_init = true := en_ckF_ok (J := (yX1_init, cX1_init, 3, none, 1, 0)) (q := (245, 244, 0, 8)) rfl rfl rfl (by decide +kernel)
def bs_X1_layOut : en_Bs := [
  (0, [(.aload_n 0, 1, 0, 0, 0), (.getfield 58, 3, 1, 0, 247), (.getfield 66, 3, 0, 2, 95), (.iconst 0, 1, 0, 0, 0), (.aload_n 0, 1, 0, 0, 0), (.getfield 9, 3, 1, 2, 249), (.iconst 0, 1, 0, 0, 0), (.bipush 12, 2, 0, 0, 0), (.invokestatic 69, 3, 901, 0, 807), (.aload_n 0, 1, 0, 0, 0), (.getfield 58, 3, 1, 0, 247), (.getfield 75, 3, 0, 3, 100), (.iconst 0, 1, 0, 0, 0), (.aload_n 0, 1, 0, 0, 0), (.getfield 15, 3, 1, 3, 252), (.iconst 0, 1, 0, 0, 0), (.bipush 12, 2, 0, 0, 0), (.invokestatic 69, 3, 901, 0, 807), (.iconst 0, 1, 0, 0, 0), (.istore_n 2, 1, 0, 0, 0)]),
  (38, [(.iload_n 2, 1, 0, 0, 0), (.aload_n 0, 1, 0, 0, 0), (.getfield 58, 3, 1, 0, 247), (.getfield 76, 3, 0, 0, 87), (.if_icmp .ge 24, 3, 70, 0, 0)]),
  (49, [(.aload_n 0, 1, 0, 0, 0), (.getfield 21, 3, 1, 5, 256), (.iload_n 2, 1, 0, 0, 0), (.aload_n 0, 1, 0, 0, 0), (.getfield 58, 3, 1, 0, 247), (.iload_n 2, 1, 0, 0, 0), (.iload_n 1, 1, 0, 0, 0), (.invokevirtual 80, 3, 13, 3, 808)]),
  (63, [(.iastore, 1, 0, 0, 0), (.iinc 2 1, 3, 0, 0, 0), (.goto (-29), 3, 38, 0, 0)]),
  (70, [(.iconst 0, 1, 0, 0, 0), (.istore_n 2, 1, 0, 0, 0)]),
  (72, [(.iload_n 2, 1, 0, 0, 0), (.aload_n 0, 1, 0, 0, 0), (.getfield 58, 3, 1, 0, 247), (.getfield 84, 3, 0, 4, 104), (.if_icmp .ge 35, 3, 115, 0, 0)]),
  (83, [(.aload_n 0, 1, 0, 0, 0), (.getfield 18, 3, 1, 4, 254), (.iload_n 2, 1, 0, 0, 0), (.aload_n 0, 1, 0, 0, 0), (.getfield 58, 3, 1, 0, 247), (.iload_n 2, 1, 0, 0, 0), (.iconst 3, 1, 0, 0, 0), (.invokevirtual 87, 3, 11, 3, 813)]),
  (97, [(.iastore, 1, 0, 0, 0), (.aload_n 0, 1, 0, 0, 0), (.getfield 24, 3, 1, 6, 257), (.iload_n 2, 1, 0, 0, 0), (.aload_n 0, 1, 0, 0, 0), (.iload_n 2, 1, 0, 0, 0), (.invokevirtual 90, 3, 17, 2, 814)]),
  (108, [(.iastore, 1, 0, 0, 0), (.iinc 2 1, 3, 0, 0, 0), (.goto (-40), 3, 72, 0, 0)]),
  (115, [(.return_, 1, 0, 0, 0)])]
set_option maxRecDepth 20000 in
theorem ck_X1_layOut : en_ck 16 bs_X1_layOut = true := en_ckF_ok (J := (yX1_layOut, cX1_layOut, 3, none, 1, 0)) (q := (806, 804, 913, 8)) rfl rfl rfl (by decide +kernel)
def bs_X1_handsToWant : en_Bs := [
  (0, [(.aload_n 0, 1, 0, 0, 0), (.getfield 58, 3, 1, 0, 247), (.iload_n 1, 1, 0, 0, 0), (.iconst 1, 1, 0, 0, 0), (.invokevirtual 87, 3, 11, 3, 813)]),
  (9, [(.istore_n 2, 1, 0, 0, 0), (.aload_n 0, 1, 0, 0, 0), (.getfield 58, 3, 1, 0, 247), (.iload_n 1, 1, 0, 0, 0), (.iconst 2, 1, 0, 0, 0), (.invokevirtual 87, 3, 11, 3, 813)]),
  (19, [(.istore_n 3, 1, 0, 0, 0), (.iconst 0, 1, 0, 0, 0), (.istore 4, 2, 0, 0, 0)]),
  (23, [(.iload 4, 2, 0, 0, 0), (.bipush 12, 2, 0, 0, 0), (.if_icmp .ge 35, 3, 62, 0, 0)]),
  (30, [(.aload_n 0, 1, 0, 0, 0), (.getfield 58, 3, 1, 0, 247), (.iload_n 2, 1, 0, 0, 0), (.invokevirtual 94, 3, 3, 2, 818)]),
  (38, [(.ifCond .eq 24, 3, 62, 0, 0)]),
  (41, [(.iload_n 2, 1, 0, 0, 0), (.iload_n 3, 1, 0, 0, 0), (.if_icmp .ne 6, 3, 49, 0, 0)]),
  (46, [(.iload 4, 2, 0, 0, 0), (.ireturn, 1, 0, 0, 0)]),
  (49, [(.aload_n 0, 1, 0, 0, 0), (.getfield 21, 3, 1, 5, 256), (.iload_n 2, 1, 0, 0, 0), (.iaload, 1, 0, 0, 0), (.istore_n 2, 1, 0, 0, 0), (.iinc 4 1, 3, 0, 0, 0), (.goto (-36), 3, 23, 0, 0)]),
  (62, [(.iconst (-1), 1, 0, 0, 0), (.ireturn, 1, 0, 0, 0)])]
set_option maxRecDepth 20000 in
theorem ck_X1_handsToWant : en_ck 17 bs_X1_handsToWant = true := en_ckF_ok (J := (yX1_handsToWant, cX1_handsToWant, 5, some .int, 1, 0)) (q := (817, 816, 22, 8)) rfl rfl rfl (by decide +kernel)
def bs_X1_runWhole : en_Bs := [
  (0, [(.aload_n 0, 1, 0, 0, 0), (.invokevirtual 98, 3, 23, 1, 823)]),
  (4, [(.iconst 0, 1, 0, 0, 0), (.istore_n 1, 1, 0, 0, 0)]),
  (6, [(.iload_n 1, 1, 0, 0, 0), (.bipush 100, 2, 0, 0, 0), (.if_icmp .ge 42, 3, 51, 0, 0)]),
  (12, [(.aload_n 0, 1, 0, 0, 0), (.iload_n 1, 1, 0, 0, 0), (.invokevirtual 101, 3, 24, 2, 830)]),
  (17, [(.aload_n 0, 1, 0, 0, 0), (.iload_n 1, 1, 0, 0, 0), (.invokevirtual 105, 3, 29, 2, 846)]),
  (22, [(.aload_n 0, 1, 0, 0, 0), (.iload_n 1, 1, 0, 0, 0), (.invokevirtual 108, 3, 30, 2, 882)]),
  (27, [(.aload_n 0, 1, 0, 0, 0), (.getfield 30, 3, 1, 8, 259), (.iconst 0, 1, 0, 0, 0), (.aload_n 0, 1, 0, 0, 0), (.getfield 55, 3, 1, 17, 271), (.iload_n 1, 1, 0, 0, 0), (.bipush 8, 2, 0, 0, 0), (.imul, 1, 0, 0, 0), (.bipush 8, 2, 0, 0, 0), (.invokestatic 69, 3, 901, 0, 807), (.iinc 1 1, 3, 0, 0, 0), (.goto (-42), 3, 6, 0, 0)]),
  (51, [(.return_, 1, 0, 0, 0)])]
set_option maxRecDepth 20000 in
theorem ck_X1_runWhole : en_ck 18 bs_X1_runWhole = true := en_ckF_ok (J := (yX1_runWhole, cX1_runWhole, 2, none, 1, 0)) (q := (822, 820, 929, 8)) rfl rfl rfl (by decide +kernel)
def bs_X1_comesBy : en_Bs := [
  (0, [(.aload_n 0, 1, 0, 0, 0), (.iload_n 1, 1, 0, 0, 0), (.iload_n 2, 1, 0, 0, 0), (.invokevirtual 111, 3, 21, 3, 938)]),
  (6, [(.ifCond .ne 5, 3, 11, 0, 0)]),
  (9, [(.iconst 0, 1, 0, 0, 0), (.ireturn, 1, 0, 0, 0)]),
  (11, [(.aload_n 0, 1, 0, 0, 0), (.invokevirtual 98, 3, 23, 1, 823)]),
  (15, [(.iload_n 1, 1, 0, 0, 0), (.istore_n 3, 1, 0, 0, 0), (.aload_n 0, 1, 0, 0, 0), (.invokevirtual 115, 3, 20, 1, 946)]),
  (21, [(.istore 4, 2, 0, 0, 0), (.aload_n 0, 1, 0, 0, 0), (.getfield 58, 3, 1, 0, 247), (.invokevirtual 119, 3, 9, 1, 850)]),
  (30, [(.invokevirtual 123, 3, 59, 1, 950)]),
  (33, [(.ifCond .ne 7, 3, 40, 0, 0)]),
  (36, [(.iconst 1, 1, 0, 0, 0), (.goto 4, 3, 41, 0, 0)]),
  (40, [(.iconst 0, 1, 0, 0, 0)]),
  (41, [(.istore 5, 2, 0, 0, 0), (.iconst 0, 1, 0, 0, 0), (.istore 6, 2, 0, 0, 0)]),
  (46, [(.iload 6, 2, 0, 0, 0), (.bipush 100, 2, 0, 0, 0), (.if_icmp .ge 137, 3, 187, 0, 0)]),
  (53, [(.iload_n 3, 1, 0, 0, 0), (.ifCond .eq 133, 3, 187, 0, 0)]),
  (57, [(.aload_n 0, 1, 0, 0, 0), (.iconst 0, 1, 0, 0, 0), (.putfield 129, 3, 1, 18, 272), (.aload_n 0, 1, 0, 0, 0), (.iload 6, 2, 0, 0, 0), (.invokevirtual 101, 3, 24, 2, 830)]),
  (68, [(.aload_n 0, 1, 0, 0, 0), (.iload 6, 2, 0, 0, 0), (.invokevirtual 105, 3, 29, 2, 846)]),
  (74, [(.aload_n 0, 1, 0, 0, 0), (.iload 6, 2, 0, 0, 0), (.invokevirtual 108, 3, 30, 2, 882)]),
  (80, [(.iconst 0, 1, 0, 0, 0), (.istore 7, 2, 0, 0, 0)]),
  (83, [(.iload 7, 2, 0, 0, 0), (.aload_n 0, 1, 0, 0, 0), (.getfield 58, 3, 1, 0, 247), (.getfield 84, 3, 0, 4, 104), (.if_icmp .ge 64, 3, 156, 0, 0)]),
  (95, [(.iload_n 3, 1, 0, 0, 0), (.iload 7, 2, 0, 0, 0), (.invokestatic 133, 3, 155, 2, 5007)]),
  (101, [(.ifCond .eq 24, 3, 125, 0, 0)]),
  (104, [(.aload_n 0, 1, 0, 0, 0), (.getfield 33, 3, 1, 9, 261), (.iload 7, 2, 0, 0, 0), (.iaload, 1, 0, 0, 0), (.iconst (-1), 1, 0, 0, 0), (.if_icmp .eq 13, 3, 125, 0, 0)]),
  (115, [(.iload_n 3, 1, 0, 0, 0), (.iconst 1, 1, 0, 0, 0), (.iload 7, 2, 0, 0, 0), (.ishl, 1, 0, 0, 0), (.isub, 1, 0, 0, 0), (.istore_n 3, 1, 0, 0, 0), (.goto 28, 3, 150, 0, 0)]),
  (125, [(.iload_n 3, 1, 0, 0, 0), (.iload 7, 2, 0, 0, 0), (.invokestatic 133, 3, 155, 2, 5007)]),
  (131, [(.ifCond .eq 19, 3, 150, 0, 0)]),
  (134, [(.iload 6, 2, 0, 0, 0), (.aload_n 0, 1, 0, 0, 0), (.getfield 27, 3, 1, 7, 258), (.iload 7, 2, 0, 0, 0), (.iaload, 1, 0, 0, 0), (.iadd, 1, 0, 0, 0), (.iload_n 2, 1, 0, 0, 0), (.if_icmp .le 5, 3, 150, 0, 0)]),
  (148, [(.iconst 0, 1, 0, 0, 0), (.ireturn, 1, 0, 0, 0)]),
  (150, [(.iinc 7 1, 3, 0, 0, 0), (.goto (-70), 3, 83, 0, 0)]),
  (156, [(.iload_n 3, 1, 0, 0, 0), (.ifCond .eq 24, 3, 181, 0, 0)]),
  (160, [(.aload_n 0, 1, 0, 0, 0), (.getfield 129, 3, 1, 18, 272), (.ifCond .ne 17, 3, 181, 0, 0)]),
  (167, [(.iload 5, 2, 0, 0, 0), (.ifCond .eq 12, 3, 181, 0, 0)]),
  (172, [(.iload 6, 2, 0, 0, 0), (.iload 4, 2, 0, 0, 0), (.if_icmp .lt 5, 3, 181, 0, 0)]),
  (179, [(.iconst 0, 1, 0, 0, 0), (.ireturn, 1, 0, 0, 0)]),
  (181, [(.iinc 6 1, 3, 0, 0, 0), (.goto (-138), 3, 46, 0, 0)]),
  (187, [(.iload_n 3, 1, 0, 0, 0), (.ifCond .ne 7, 3, 195, 0, 0)]),
  (191, [(.iconst 1, 1, 0, 0, 0), (.goto 4, 3, 196, 0, 0)]),
  (195, [(.iconst 0, 1, 0, 0, 0)]),
  (196, [(.ireturn, 1, 0, 0, 0)])]
set_option maxRecDepth 20000 in
theorem ck_X1_comesBy : en_ck 19 bs_X1_comesBy = true := en_ckF_ok (J := (yX1_comesBy, cX1_comesBy, 8, some .boolean, 1, 0)) (q := (937, 935, 1044, 8)) rfl rfl rfl (by decide +kernel)
def bs_X1_lastStart : en_Bs := [
  (0, [(.iconst 0, 1, 0, 0, 0), (.istore_n 1, 1, 0, 0, 0), (.iconst 0, 1, 0, 0, 0), (.istore_n 2, 1, 0, 0, 0)]),
  (4, [(.iload_n 2, 1, 0, 0, 0), (.aload_n 0, 1, 0, 0, 0), (.getfield 58, 3, 1, 0, 247), (.getfield 84, 3, 0, 4, 104), (.if_icmp .ge 20, 3, 32, 0, 0)]),
  (15, [(.iload_n 1, 1, 0, 0, 0), (.aload_n 0, 1, 0, 0, 0), (.getfield 18, 3, 1, 4, 254), (.iload_n 2, 1, 0, 0, 0), (.iaload, 1, 0, 0, 0), (.invokestatic 136, 3, 902, 0, 915), (.istore_n 1, 1, 0, 0, 0), (.iinc 2 1, 3, 0, 0, 0), (.goto (-25), 3, 4, 0, 0)]),
  (32, [(.iload_n 1, 1, 0, 0, 0), (.ireturn, 1, 0, 0, 0)])]
set_option maxRecDepth 20000 in
theorem ck_X1_lastStart : en_ck 20 bs_X1_lastStart = true := en_ckF_ok (J := (yX1_lastStart, cX1_lastStart, 3, some .int, 1, 0)) (q := (949, 948, 38, 8)) rfl rfl rfl (by decide +kernel)
def bs_X1_canComeBy : en_Bs := [
  (0, [(.iconst 0, 1, 0, 0, 0), (.istore_n 3, 1, 0, 0, 0)]),
  (2, [(.iload_n 3, 1, 0, 0, 0), (.aload_n 0, 1, 0, 0, 0), (.getfield 58, 3, 1, 0, 247), (.getfield 84, 3, 0, 4, 104), (.if_icmp .ge 60, 3, 70, 0, 0)]),
  (13, [(.iload_n 1, 1, 0, 0, 0), (.iload_n 3, 1, 0, 0, 0), (.invokestatic 133, 3, 155, 2, 5007)]),
  (18, [(.ifCond .eq 46, 3, 64, 0, 0)]),
  (21, [(.aload_n 0, 1, 0, 0, 0), (.getfield 24, 3, 1, 6, 257), (.iload_n 3, 1, 0, 0, 0), (.iaload, 1, 0, 0, 0), (.iconst (-1), 1, 0, 0, 0), (.if_icmp .eq 34, 3, 62, 0, 0)]),
  (31, [(.aload_n 0, 1, 0, 0, 0), (.getfield 18, 3, 1, 4, 254), (.iload_n 3, 1, 0, 0, 0), (.iaload, 1, 0, 0, 0), (.iconst 0, 1, 0, 0, 0), (.aload_n 0, 1, 0, 0, 0), (.getfield 24, 3, 1, 6, 257), (.iload_n 3, 1, 0, 0, 0), (.iaload, 1, 0, 0, 0), (.iconst 1, 1, 0, 0, 0), (.isub, 1, 0, 0, 0), (.invokestatic 136, 3, 902, 0, 915), (.iadd, 1, 0, 0, 0), (.iload_n 2, 1, 0, 0, 0), (.if_icmp .gt 11, 3, 62, 0, 0)]),
  (54, [(.aload_n 0, 1, 0, 0, 0), (.iload_n 3, 1, 0, 0, 0), (.invokevirtual 141, 3, 22, 2, 942)]),
  (59, [(.ifCond .ne 5, 3, 64, 0, 0)]),
  (62, [(.iconst 0, 1, 0, 0, 0), (.ireturn, 1, 0, 0, 0)]),
  (64, [(.iinc 3 1, 3, 0, 0, 0), (.goto (-65), 3, 2, 0, 0)]),
  (70, [(.iconst 1, 1, 0, 0, 0), (.ireturn, 1, 0, 0, 0)])]
set_option maxRecDepth 20000 in
theorem ck_X1_canComeBy : en_ck 21 bs_X1_canComeBy = true := en_ckF_ok (J := (yX1_canComeBy, cX1_canComeBy, 4, some .boolean, 1, 0)) (q := (941, 940, 36, 8)) rfl rfl rfl (by decide +kernel)
def bs_X1_isCarried : en_Bs := [
  (0, [(.aload_n 0, 1, 0, 0, 0), (.getfield 58, 3, 1, 0, 247), (.iload_n 1, 1, 0, 0, 0), (.iconst 1, 1, 0, 0, 0), (.invokevirtual 87, 3, 11, 3, 813)]),
  (9, [(.istore_n 2, 1, 0, 0, 0), (.aload_n 0, 1, 0, 0, 0), (.getfield 58, 3, 1, 0, 247), (.iload_n 1, 1, 0, 0, 0), (.iconst 0, 1, 0, 0, 0), (.invokevirtual 87, 3, 11, 3, 813)]),
  (19, [(.istore_n 3, 1, 0, 0, 0), (.iconst 0, 1, 0, 0, 0), (.istore 4, 2, 0, 0, 0)]),
  (23, [(.iload 4, 2, 0, 0, 0), (.aload_n 0, 1, 0, 0, 0), (.getfield 24, 3, 1, 6, 257), (.iload_n 1, 1, 0, 0, 0), (.iaload, 1, 0, 0, 0), (.if_icmp .ge 39, 3, 70, 0, 0)]),
  (34, [(.aload_n 0, 1, 0, 0, 0), (.getfield 58, 3, 1, 0, 247), (.iload_n 2, 1, 0, 0, 0), (.invokevirtual 94, 3, 3, 2, 818)]),
  (42, [(.ifCond .eq 28, 3, 70, 0, 0)]),
  (45, [(.aload_n 0, 1, 0, 0, 0), (.getfield 9, 3, 1, 2, 249), (.iload_n 2, 1, 0, 0, 0), (.iaload, 1, 0, 0, 0), (.iload_n 3, 1, 0, 0, 0), (.if_icmp .ge 5, 3, 57, 0, 0)]),
  (55, [(.iconst 0, 1, 0, 0, 0), (.ireturn, 1, 0, 0, 0)]),
  (57, [(.aload_n 0, 1, 0, 0, 0), (.getfield 21, 3, 1, 5, 256), (.iload_n 2, 1, 0, 0, 0), (.iaload, 1, 0, 0, 0), (.istore_n 2, 1, 0, 0, 0), (.iinc 4 1, 3, 0, 0, 0), (.goto (-44), 3, 23, 0, 0)]),
  (70, [(.iconst 1, 1, 0, 0, 0), (.ireturn, 1, 0, 0, 0)])]
set_option maxRecDepth 20000 in
theorem ck_X1_isCarried : en_ck 22 bs_X1_isCarried = true := en_ckF_ok (J := (yX1_isCarried, cX1_isCarried, 5, some .boolean, 1, 0)) (q := (945, 944, 37, 8)) rfl rfl rfl (by decide +kernel)
def bs_X1_begin : en_Bs := [
  (0, [(.aload_n 0, 1, 0, 0, 0), (.getfield 30, 3, 1, 8, 259), (.iconst (-1), 1, 0, 0, 0), (.invokestatic 144, 3, 266, 2, 827)]),
  (8, [(.aload_n 0, 1, 0, 0, 0), (.getfield 33, 3, 1, 9, 261), (.iconst (-1), 1, 0, 0, 0), (.invokestatic 144, 3, 266, 2, 827)]),
  (16, [(.aload_n 0, 1, 0, 0, 0), (.getfield 39, 3, 1, 11, 265), (.iconst 0, 1, 0, 0, 0), (.invokestatic 144, 3, 266, 2, 827)]),
  (24, [(.aload_n 0, 1, 0, 0, 0), (.getfield 36, 3, 1, 10, 263), (.iconst 0, 1, 0, 0, 0), (.invokestatic 144, 3, 266, 2, 827)]),
  (32, [(.aload_n 0, 1, 0, 0, 0), (.getfield 42, 3, 1, 12, 266), (.iconst 0, 1, 0, 0, 0), (.invokestatic 144, 3, 266, 2, 827)]),
  (40, [(.aload_n 0, 1, 0, 0, 0), (.getfield 45, 3, 1, 13, 267), (.iconst 0, 1, 0, 0, 0), (.invokestatic 144, 3, 266, 2, 827)]),
  (48, [(.aload_n 0, 1, 0, 0, 0), (.getfield 24, 3, 1, 6, 257), (.iconst 0, 1, 0, 0, 0), (.aload_n 0, 1, 0, 0, 0), (.getfield 27, 3, 1, 7, 258), (.iconst 0, 1, 0, 0, 0), (.bipush 8, 2, 0, 0, 0), (.invokestatic 69, 3, 901, 0, 807), (.return_, 1, 0, 0, 0)])]
set_option maxRecDepth 20000 in
theorem ck_X1_begin : en_ck 23 bs_X1_begin = true := en_ckF_ok (J := (yX1_begin, cX1_begin, 1, none, 1, 0)) (q := (826, 825, 23, 8)) rfl rfl rfl (by decide +kernel)
def bs_X1_arrive : en_Bs := [
  (0, [(.iconst 0, 1, 0, 0, 0), (.istore_n 2, 1, 0, 0, 0)]),
  (2, [(.iload_n 2, 1, 0, 0, 0), (.aload_n 0, 1, 0, 0, 0), (.getfield 58, 3, 1, 0, 247), (.getfield 84, 3, 0, 4, 104), (.if_icmp .ge 45, 3, 55, 0, 0)]),
  (13, [(.aload_n 0, 1, 0, 0, 0), (.getfield 18, 3, 1, 4, 254), (.iload_n 2, 1, 0, 0, 0), (.iaload, 1, 0, 0, 0), (.iload_n 1, 1, 0, 0, 0), (.if_icmp .ge 29, 3, 49, 0, 0)]),
  (23, [(.aload_n 0, 1, 0, 0, 0), (.getfield 30, 3, 1, 8, 259), (.iload_n 2, 1, 0, 0, 0), (.iaload, 1, 0, 0, 0), (.iconst (-1), 1, 0, 0, 0), (.if_icmp .ne 19, 3, 49, 0, 0)]),
  (33, [(.aload_n 0, 1, 0, 0, 0), (.getfield 33, 3, 1, 9, 261), (.iload_n 2, 1, 0, 0, 0), (.iaload, 1, 0, 0, 0), (.iconst (-1), 1, 0, 0, 0), (.if_icmp .ne 9, 3, 49, 0, 0)]),
  (43, [(.aload_n 0, 1, 0, 0, 0), (.iload_n 2, 1, 0, 0, 0), (.iload_n 1, 1, 0, 0, 0), (.invokevirtual 150, 3, 25, 3, 834)]),
  (49, [(.iinc 2 1, 3, 0, 0, 0), (.goto (-50), 3, 2, 0, 0)]),
  (55, [(.iconst 0, 1, 0, 0, 0), (.istore_n 2, 1, 0, 0, 0)]),
  (57, [(.iload_n 2, 1, 0, 0, 0), (.aload_n 0, 1, 0, 0, 0), (.getfield 58, 3, 1, 0, 247), (.getfield 84, 3, 0, 4, 104), (.if_icmp .ge 25, 3, 90, 0, 0)]),
  (68, [(.aload_n 0, 1, 0, 0, 0), (.getfield 18, 3, 1, 4, 254), (.iload_n 2, 1, 0, 0, 0), (.iaload, 1, 0, 0, 0), (.iload_n 1, 1, 0, 0, 0), (.if_icmp .ne 9, 3, 84, 0, 0)]),
  (78, [(.aload_n 0, 1, 0, 0, 0), (.iload_n 2, 1, 0, 0, 0), (.iload_n 1, 1, 0, 0, 0), (.invokevirtual 150, 3, 25, 3, 834)]),
  (84, [(.iinc 2 1, 3, 0, 0, 0), (.goto (-30), 3, 57, 0, 0)]),
  (90, [(.return_, 1, 0, 0, 0)])]
set_option maxRecDepth 20000 in
theorem ck_X1_arrive : en_ck 24 bs_X1_arrive = true := en_ckF_ok (J := (yX1_arrive, cX1_arrive, 3, none, 1, 0)) (q := (833, 832, 24, 8)) rfl rfl rfl (by decide +kernel)
def bs_X1_admit : en_Bs := [
  (0, [(.aload_n 0, 1, 0, 0, 0), (.getfield 58, 3, 1, 0, 247), (.iload_n 1, 1, 0, 0, 0), (.iconst 1, 1, 0, 0, 0), (.invokevirtual 87, 3, 11, 3, 813)]),
  (9, [(.istore_n 3, 1, 0, 0, 0), (.iload_n 3, 1, 0, 0, 0), (.aload_n 0, 1, 0, 0, 0), (.getfield 58, 3, 1, 0, 247), (.iload_n 1, 1, 0, 0, 0), (.iconst 2, 1, 0, 0, 0), (.invokevirtual 87, 3, 11, 3, 813)]),
  (20, [(.if_icmp .ne 13, 3, 33, 0, 0)]),
  (23, [(.aload_n 0, 1, 0, 0, 0), (.getfield 33, 3, 1, 9, 261), (.iload_n 1, 1, 0, 0, 0), (.iload_n 2, 1, 0, 0, 0), (.iastore, 1, 0, 0, 0), (.goto 18, 3, 48, 0, 0)]),
  (33, [(.aload_n 0, 1, 0, 0, 0), (.iload_n 3, 1, 0, 0, 0), (.iload_n 1, 1, 0, 0, 0), (.invokevirtual 154, 3, 26, 3, 838)]),
  (39, [(.ifCond .eq 9, 3, 48, 0, 0)]),
  (42, [(.aload_n 0, 1, 0, 0, 0), (.iload_n 3, 1, 0, 0, 0), (.iload_n 1, 1, 0, 0, 0), (.invokevirtual 157, 3, 27, 3, 842)]),
  (48, [(.return_, 1, 0, 0, 0)])]
set_option maxRecDepth 20000 in
theorem ck_X1_admit : en_ck 25 bs_X1_admit = true := en_ckF_ok (J := (yX1_admit, cX1_admit, 4, none, 1, 0)) (q := (837, 836, 25, 8)) rfl rfl rfl (by decide +kernel)
def bs_X1_canHold : en_Bs := [
  (0, [(.aload_n 0, 1, 0, 0, 0), (.getfield 58, 3, 1, 0, 247), (.iload_n 1, 1, 0, 0, 0), (.invokevirtual 94, 3, 3, 2, 818)]),
  (8, [(.ifCond .eq 48, 3, 56, 0, 0)]),
  (11, [(.aload_n 0, 1, 0, 0, 0), (.getfield 42, 3, 1, 12, 266), (.iload_n 1, 1, 0, 0, 0), (.iaload, 1, 0, 0, 0), (.aload_n 0, 1, 0, 0, 0), (.getfield 58, 3, 1, 0, 247), (.getfield 160, 3, 0, 11, 121), (.if_icmp .ge 32, 3, 56, 0, 0)]),
  (27, [(.aload_n 0, 1, 0, 0, 0), (.getfield 45, 3, 1, 13, 267), (.iload_n 1, 1, 0, 0, 0), (.iaload, 1, 0, 0, 0), (.aload_n 0, 1, 0, 0, 0), (.getfield 58, 3, 1, 0, 247), (.iload_n 2, 1, 0, 0, 0), (.iconst 0, 1, 0, 0, 0), (.invokevirtual 87, 3, 11, 3, 813)]),
  (42, [(.iadd, 1, 0, 0, 0), (.aload_n 0, 1, 0, 0, 0), (.getfield 9, 3, 1, 2, 249), (.iload_n 1, 1, 0, 0, 0), (.iaload, 1, 0, 0, 0), (.if_icmp .gt 7, 3, 56, 0, 0)]),
  (52, [(.iconst 1, 1, 0, 0, 0), (.goto 4, 3, 57, 0, 0)]),
  (56, [(.iconst 0, 1, 0, 0, 0)]),
  (57, [(.ireturn, 1, 0, 0, 0)])]
set_option maxRecDepth 20000 in
theorem ck_X1_canHold : en_ck 26 bs_X1_canHold = true := en_ckF_ok (J := (yX1_canHold, cX1_canHold, 3, some .boolean, 1, 0)) (q := (841, 840, 26, 8)) rfl rfl rfl (by decide +kernel)
def bs_X1_take : en_Bs := [
  (0, [(.aload_n 0, 1, 0, 0, 0), (.getfield 58, 3, 1, 0, 247), (.iload_n 1, 1, 0, 0, 0), (.invokevirtual 94, 3, 3, 2, 818)]),
  (8, [(.ifCond .eq 50, 3, 58, 0, 0)]),
  (11, [(.aload_n 0, 1, 0, 0, 0), (.getfield 30, 3, 1, 8, 259), (.iload_n 2, 1, 0, 0, 0), (.iload_n 1, 1, 0, 0, 0), (.iastore, 1, 0, 0, 0), (.aload_n 0, 1, 0, 0, 0), (.getfield 39, 3, 1, 11, 265), (.iload_n 2, 1, 0, 0, 0), (.iconst 0, 1, 0, 0, 0), (.iastore, 1, 0, 0, 0), (.aload_n 0, 1, 0, 0, 0), (.iconst 1, 1, 0, 0, 0), (.putfield 129, 3, 1, 18, 272), (.aload_n 0, 1, 0, 0, 0), (.getfield 42, 3, 1, 12, 266), (.iload_n 1, 1, 0, 0, 0), (.dup2, 1, 0, 0, 0), (.iaload, 1, 0, 0, 0), (.iconst 1, 1, 0, 0, 0), (.iadd, 1, 0, 0, 0), (.iastore, 1, 0, 0, 0), (.aload_n 0, 1, 0, 0, 0), (.getfield 45, 3, 1, 13, 267), (.iload_n 1, 1, 0, 0, 0), (.dup2, 1, 0, 0, 0), (.iaload, 1, 0, 0, 0), (.aload_n 0, 1, 0, 0, 0), (.getfield 58, 3, 1, 0, 247), (.iload_n 2, 1, 0, 0, 0), (.iconst 0, 1, 0, 0, 0), (.invokevirtual 87, 3, 11, 3, 813)]),
  (56, [(.iadd, 1, 0, 0, 0), (.iastore, 1, 0, 0, 0)]),
  (58, [(.return_, 1, 0, 0, 0)])]
set_option maxRecDepth 20000 in
theorem ck_X1_take : en_ck 27 bs_X1_take = true := en_ckF_ok (J := (yX1_take, cX1_take, 3, none, 1, 0)) (q := (845, 844, 27, 8)) rfl rfl rfl (by decide +kernel)
def bs_X1_giveUp : en_Bs := [
  (0, [(.aload_n 0, 1, 0, 0, 0), (.getfield 58, 3, 1, 0, 247), (.iload_n 1, 1, 0, 0, 0), (.invokevirtual 94, 3, 3, 2, 818)]),
  (8, [(.ifCond .eq 38, 3, 46, 0, 0)]),
  (11, [(.aload_n 0, 1, 0, 0, 0), (.getfield 30, 3, 1, 8, 259), (.iload_n 2, 1, 0, 0, 0), (.iconst (-1), 1, 0, 0, 0), (.iastore, 1, 0, 0, 0), (.aload_n 0, 1, 0, 0, 0), (.getfield 42, 3, 1, 12, 266), (.iload_n 1, 1, 0, 0, 0), (.dup2, 1, 0, 0, 0), (.iaload, 1, 0, 0, 0), (.iconst 1, 1, 0, 0, 0), (.isub, 1, 0, 0, 0), (.iastore, 1, 0, 0, 0), (.aload_n 0, 1, 0, 0, 0), (.getfield 45, 3, 1, 13, 267), (.iload_n 1, 1, 0, 0, 0), (.dup2, 1, 0, 0, 0), (.iaload, 1, 0, 0, 0), (.aload_n 0, 1, 0, 0, 0), (.getfield 58, 3, 1, 0, 247), (.iload_n 2, 1, 0, 0, 0), (.iconst 0, 1, 0, 0, 0), (.invokevirtual 87, 3, 11, 3, 813)]),
  (44, [(.isub, 1, 0, 0, 0), (.iastore, 1, 0, 0, 0)]),
  (46, [(.return_, 1, 0, 0, 0)])]
set_option maxRecDepth 20000 in
theorem ck_X1_giveUp : en_ck 28 bs_X1_giveUp = true := en_ckF_ok (J := (yX1_giveUp, cX1_giveUp, 3, none, 1, 0)) (q := (889, 888, 32, 8)) rfl rfl rfl (by decide +kernel)
def bs_X1_lineUp : en_Bs := [
  (0, [(.aload_n 0, 1, 0, 0, 0), (.getfield 58, 3, 1, 0, 247), (.invokevirtual 119, 3, 9, 1, 850)]),
  (7, [(.iconst 0, 1, 0, 0, 0), (.invokevirtual 162, 3, 58, 2, 854)]),
  (11, [(.istore_n 2, 1, 0, 0, 0), (.aload_n 0, 1, 0, 0, 0), (.iconst 0, 1, 0, 0, 0), (.putfield 165, 3, 1, 16, 270), (.iconst 0, 1, 0, 0, 0), (.istore_n 3, 1, 0, 0, 0)]),
  (19, [(.iload_n 3, 1, 0, 0, 0), (.aload_n 0, 1, 0, 0, 0), (.getfield 58, 3, 1, 0, 247), (.getfield 84, 3, 0, 4, 104), (.if_icmp .ge 153, 3, 180, 0, 0)]),
  (30, [(.aload_n 0, 1, 0, 0, 0), (.getfield 30, 3, 1, 8, 259), (.iload_n 3, 1, 0, 0, 0), (.iaload, 1, 0, 0, 0), (.istore 4, 2, 0, 0, 0), (.aload_n 0, 1, 0, 0, 0), (.getfield 58, 3, 1, 0, 247), (.iload 4, 2, 0, 0, 0), (.invokevirtual 94, 3, 3, 2, 818)]),
  (47, [(.ifCond .ne 6, 3, 53, 0, 0)]),
  (50, [(.goto 124, 3, 174, 0, 0)]),
  (53, [(.aload_n 0, 1, 0, 0, 0), (.getfield 48, 3, 1, 14, 268), (.iload_n 3, 1, 0, 0, 0), (.iload_n 2, 1, 0, 0, 0), (.ifCond .eq 38, 3, 97, 0, 0)]),
  (62, [(.aload_n 0, 1, 0, 0, 0), (.getfield 62, 3, 1, 1, 248), (.iconst 0, 1, 0, 0, 0), (.iload_n 3, 1, 0, 0, 0), (.iload 4, 2, 0, 0, 0), (.iload_n 1, 1, 0, 0, 0), (.aload_n 0, 1, 0, 0, 0), (.getfield 39, 3, 1, 11, 265), (.iload_n 3, 1, 0, 0, 0), (.iaload, 1, 0, 0, 0), (.aload_n 0, 1, 0, 0, 0), (.getfield 9, 3, 1, 2, 249), (.iload 4, 2, 0, 0, 0), (.iaload, 1, 0, 0, 0), (.aload_n 0, 1, 0, 0, 0), (.getfield 15, 3, 1, 3, 252), (.iload 4, 2, 0, 0, 0), (.iaload, 1, 0, 0, 0), (.invokevirtual 168, 3, 52, 8, 859)]),
  (94, [(.goto 4, 3, 98, 0, 0)]),
  (97, [(.lconst 0, 1, 0, 0, 0)]),
  (98, [(.lastore, 1, 0, 0, 0), (.aload_n 0, 1, 0, 0, 0), (.getfield 165, 3, 1, 16, 270), (.istore 5, 2, 0, 0, 0)]),
  (105, [(.iload 5, 2, 0, 0, 0), (.ifCond .le 49, 3, 156, 0, 0)]),
  (110, [(.aload_n 0, 1, 0, 0, 0), (.getfield 48, 3, 1, 14, 268), (.aload_n 0, 1, 0, 0, 0), (.getfield 52, 3, 1, 15, 269), (.iload 5, 2, 0, 0, 0), (.iconst 1, 1, 0, 0, 0), (.isub, 1, 0, 0, 0), (.iaload, 1, 0, 0, 0), (.laload, 1, 0, 0, 0), (.aload_n 0, 1, 0, 0, 0), (.getfield 48, 3, 1, 14, 268), (.iload_n 3, 1, 0, 0, 0), (.laload, 1, 0, 0, 0), (.lcmp, 1, 0, 0, 0), (.ifCond .ge 25, 3, 156, 0, 0)]),
  (134, [(.aload_n 0, 1, 0, 0, 0), (.getfield 52, 3, 1, 15, 269), (.iload 5, 2, 0, 0, 0), (.aload_n 0, 1, 0, 0, 0), (.getfield 52, 3, 1, 15, 269), (.iload 5, 2, 0, 0, 0), (.iconst 1, 1, 0, 0, 0), (.isub, 1, 0, 0, 0), (.iaload, 1, 0, 0, 0), (.iastore, 1, 0, 0, 0), (.iinc 5 (-1), 3, 0, 0, 0), (.goto (-48), 3, 105, 0, 0)]),
  (156, [(.aload_n 0, 1, 0, 0, 0), (.getfield 52, 3, 1, 15, 269), (.iload 5, 2, 0, 0, 0), (.iload_n 3, 1, 0, 0, 0), (.iastore, 1, 0, 0, 0), (.aload_n 0, 1, 0, 0, 0), (.dup, 1, 0, 0, 0), (.getfield 165, 3, 1, 16, 270), (.iconst 1, 1, 0, 0, 0), (.iadd, 1, 0, 0, 0), (.putfield 165, 3, 1, 16, 270)]),
  (174, [(.iinc 3 1, 3, 0, 0, 0), (.goto (-158), 3, 19, 0, 0)]),
  (180, [(.return_, 1, 0, 0, 0)])]
set_option maxRecDepth 20000 in
theorem ck_X1_lineUp : en_ck 29 bs_X1_lineUp = true := en_ckF_ok (J := (yX1_lineUp, cX1_lineUp, 6, none, 1, 0)) (q := (849, 848, 28, 8)) rfl rfl rfl (by decide +kernel)
