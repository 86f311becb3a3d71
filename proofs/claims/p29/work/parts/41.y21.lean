set_option maxRecDepth 100000 in
set_option maxHeartbeats 4000000 in
theorem S_X5_readPlain_176 (n : Nat) (IHJ : QJ n) (IHP : QP n) (IHT : QT n) : QP (n + 1) := by
  intro e he N g0 hI0 a1 h_a1 hm hT
  obtain ⟨d, rfl⟩ : ∃ d, e = d + 4 := ⟨e - 4, by omega⟩
  have hF0 : Fr F_rd A_rd g0 g0 := Fr.rf
  refine Ev.mk rfl rfl ⟨Nat.le_of_ble_eq_true rfl, Or.inr (q_rc hI0.1 kx_176 rfl)⟩ ?_
  show At _ none _ _ (0, [(0, .ref 176), (1, .int a1)], [], (_, _)) _
  refine At.enter rfl ?_
  refine r_iconst 0 rfl ?_
  refine r_istore_n ([(2, .int 0), (0, .ref 176), (1, .int a1)]) rfl ?_
  refine r_iconst 0 rfl ?_
  refine r_istore_n ([(3, .int 0), (2, .int 0), (0, .ref 176), (1, .int a1)]) rfl ?_
  refine Ar.fall 4 rfl ?_
  have z_19248 : (0 : Int32).toInt = 0 := rfl
  have z_19249 : (0 : Int32).toInt = 0 := rfl
  obtain ⟨v19250, hv19250⟩ : ∃ v, gI g0 176 4 = v := ⟨_, rfl⟩
  have rv19250 := RgF.at hI0.2.1 (p := 176) (b := 4) rfl
  rw [hv19250] at rv19250
  dsimp only at rv19250
  have tv19250 := congrArg Int32.toInt hv19250
  have x19251 := rX.e hI0 (b := 4) (hv19250)
  refine w_loopI (fun n_ l_ g_ => ∃ x19229 : Int32, ∃ x19230 : Int32, n_ = 400 - x19230.toInt ∧ HI g_ ∧ Fr F_rd A_rd g0 g_ ∧ en_get 0 l_ = some (.ref 176) ∧ en_get 1 l_ = some (.int a1) ∧ en_get 2 l_ = some (.int x19229) ∧ en_get 3 l_ = some (.int x19230) ∧ (0 ≤ x19229.toInt ∧ x19229.toInt ≤ 1) ∧ (0 ≤ x19230.toInt ∧ x19230.toInt ≤ 400) ∧ (TKX g_) ∧ (NLI (TX g0) (nX g0) g0 g_) ∧ (PRG0 0 (rX g0 2) (rX g_ 2) (rX g0 4) (rX g_ 4)) ∧ (x19230.toInt ≤ rX g_ 4) ∧ (NLG (TX g0) (nX g0) g0 g_ x19229.toInt)) ?_ (400 - 0) ⟨0, 0, by first | rfl | omega, hI0, hF0, rfl, rfl, rfl, rfl, by decide, by decide, hT, NLI.rf, PRG0.rf, by omega, (NLG.rf (by first | rfl | omega))⟩
  rintro n19235 l19234 g19231 ⟨x19229, x19230, hm19252, hI19232, hF19233, e19237, e19238, e19239, e19240, r19241, r19242, q19243, q19244, q19245, q19246, q19247⟩ ih19236
  obtain ⟨v19253, hv19253⟩ : ∃ v, gI g19231 176 4 = v := ⟨_, rfl⟩
  have rv19253 := RgF.at hI19232.2.1 (p := 176) (b := 4) rfl
  rw [hv19253] at rv19253
  dsimp only at rv19253
  have tv19253 := congrArg Int32.toInt hv19253
  have x19254 := rX.e hI19232 (b := 4) (hv19253)
  have ce19255 := fun hz => CDX.end_ q19243 hz
  refine At.enter rfl ?_
  refine r_iload_n e19240 ?_
  refine r_sipush 400 rfl ?_
  refine r_ics 11 rfl (fun c19256 => ?_) (fun c19256 => ?_)
  · have c19256_ : x19230.toInt ≥ 400 := en_i_ge_t c19256
    refine At.enter rfl ?_
    refine r_aload_n e19237 ?_
    refine r_bipush 40 rfl ?_
    refine r_callV 46 rfl [.ref 176, .int 40] [] (Nat.le_of_ble_eq_true rfl) rfl (T_X5_isSingle_176 _ hI19232 40 (by decide)) ?_
    rintro _ _ ⟨g19257, rfl, hI19258, hF19259, v19260, rfl, hr19261⟩
    refine At.sti ?_
    have hF19262 := Fr.tr hF19233 hF19259 rfl rfl
    have zv19263 : (40 : Int32).toInt = 40 := rfl
    have hb19264 : BL (CDX g19231 = 2) v19260.toInt := ISX.code (c := 2) hr19261.2 q19243 (isSC_d (by omega)) (by decide)
    refine At.enter rfl ?_
    refine r_ifs 49 rfl (fun c19265 => ?_) (fun c19265 => ?_)
    · have c19265_ : v19260.toInt = 0 := en_k_eq_t c19265
      have i19266 := BL.no hb19264 (by omega)
      refine At.enter rfl ?_
      refine r_aload_n e19237 ?_
      refine r_iconst 2 rfl ?_
      refine r_iload_n e19238 ?_
      have zv19267 : (2 : Int32).toInt = 2 := rfl
      refine r_callV 85 rfl [.ref 176, .int 2, .int a1] [] (Nat.le_of_ble_eq_true rfl) rfl (IHJ _ (by omega) hI19258 2 (by decide) a1 (by omega) (by omega) (TKX.c q19243 ((hF19259.2.1 175 (by decide))) ((hF19259.1 174 1 (by decide))) ((hF19259.1 176 3 (by decide))) ((hF19259.1 176 4 (by decide))) ((hF19259.1 176 5 (by decide))))) ?_
      rintro _ _ ⟨g19268, rfl, hI19269, hF19270, rfl, hr19272⟩
      refine At.stn ?_
      have hF19273 := Fr.tr hF19262 hF19270 rfl rfl
      have zv19274 : (2 : Int32).toInt = 2 := rfl
      obtain ⟨v19279, hv19279⟩ : ∃ v, gI g19231 176 2 = v := ⟨_, rfl⟩
      have tv19279 := congrArg Int32.toInt hv19279
      have x19280 := rX.e hI19258 (b := 2) (((hF19259.1 176 2 (by decide)).trans hv19279))
      have x19281 := rX.e hI19258 (b := 4) (((hF19259.1 176 4 (by decide)).trans hv19253))
      obtain ⟨o19275, o19276, o19277, o19278⟩ := hr19272.1
      have gx19282 := GPX.fr hr19272.2 ((hF19259.2.1 178 (by decide))) ((hF19259.2.1 179 (by decide))) ((hF19259.1 177 0 (by decide))) (rX.c (b := 4) ((hF19259.1 176 4 (by decide)))) (rX.c (b := 6) ((hF19259.1 176 6 (by decide))))
      rw [TX.ci hI19258 (((hF19259.2.1 175 (by decide)).trans (hF19233.2.1 175 (by decide)))), nX.ci hI19258 (((hF19259.1 174 1 (by decide)).trans (hF19233.1 174 1 (by decide))))] at gx19282
      have o19283 := OPD.tc o19277 (((hF19259.2.1 175 (by decide)).trans (hF19233.2.1 175 (by decide)))) (((hF19259.1 174 1 (by decide)).trans (hF19233.1 174 1 (by decide))))
      have o19284 := PRG0.fr o19276 (rX.c (b := 2) ((hF19259.1 176 2 (by decide)))) (rX.c (b := 4) ((hF19259.1 176 4 (by decide))))
      have o19285 := OPD.fr o19283 (rX.c (b := 2) ((hF19259.1 176 2 (by decide)))) (rX.c (b := 4) ((hF19259.1 176 4 (by decide)))) (rX.c (b := 6) ((hF19259.1 176 6 (by decide))))
      obtain ⟨v19286, hv19286⟩ : ∃ v, gI g19268 176 2 = v := ⟨_, rfl⟩
      have tv19286 := congrArg Int32.toInt hv19286
      have x19287 := rX.e hI19269 (b := 2) (hv19286)
      obtain ⟨v19288, hv19288⟩ : ∃ v, gI g19268 176 4 = v := ⟨_, rfl⟩
      have rv19288 := RgF.at hI19269.2.1 (p := 176) (b := 4) rfl
      rw [hv19288] at rv19288
      dsimp only at rv19288
      have tv19288 := congrArg Int32.toInt hv19288
      have x19289 := rX.e hI19269 (b := 4) (hv19288)
      refine At.enter rfl ?_
      refine r_aload_n e19237 ?_
      refine r_callV 89 rfl [.ref 176] [] (Nat.le_of_ble_eq_true rfl) rfl (T_X5_comparisonHere_176 _ hI19269 o19275) ?_
      rintro _ _ ⟨g19290, rfl, hI19291, hF19292, v19293, rfl, hr19294⟩
      refine At.sti ?_
      have hF19295 := Fr.tr hF19273 hF19292 rfl rfl
      have je19296 : v19293.toInt ≠ -1 → v19293.toInt = CDX g19268 - 18 := hr19294.2.2
      have hb19297 : BLN (24 ≤ CDX g19268 ∧ CDX g19268 ≤ 26) v19293.toInt := hr19294.2.1
      refine At.enter rfl ?_
      refine r_istore_n _ rfl ?_
      refine r_iload_n (w_e1 _ _ _) ?_
      refine r_iconst (-1) rfl ?_
      refine r_ics 95 rfl (fun c19298 => ?_) (fun c19298 => ?_)
      · have c19298_ : v19293.toInt ≠ (-1) := en_i_ne_t c19298
        have i19299 := BLN.yes hb19297 (by omega)
        refine At.enter rfl ?_
        refine r_aload_n (w_p1 (by decide) (Or.inr rfl) e19237) ?_
        refine r_callV 104 rfl [.ref 176] [] (Nat.le_of_ble_eq_true rfl) rfl (T_X5_step_176 _ hI19291 (TKX.c o19275 ((hF19292.2.1 175 (by decide))) ((hF19292.1 174 1 (by decide))) ((hF19292.1 176 3 (by decide))) ((hF19292.1 176 4 (by decide))) ((hF19292.1 176 5 (by decide)))).1 (TKX.c o19275 ((hF19292.2.1 175 (by decide))) ((hF19292.1 174 1 (by decide))) ((hF19292.1 176 3 (by decide))) ((hF19292.1 176 4 (by decide))) ((hF19292.1 176 5 (by decide)))).2.1.le.2.1) ?_
        rintro _ _ ⟨g19300, rfl, hI19301, hF19302, rfl, hr19304⟩
        refine At.stn ?_
        have hF19305 := Fr.tr hF19295 hF19302 rfl rfl
        have tok19306_ := hr19304.2
        rw [TX.c ((hF19292.2.1 175 (by decide))), nX.c ((hF19292.1 174 1 (by decide))), rX.c (b := 5) ((hF19292.1 176 5 (by decide)))] at tok19306_
        have tok19306 := TKX.tok o19275 tok19306_
        rw [TX.c (((hF19270.2.1 175 (by decide)).trans ((hF19259.2.1 175 (by decide)).trans (hF19233.2.1 175 (by decide))))), nX.c (((hF19270.1 174 1 (by decide)).trans ((hF19259.1 174 1 (by decide)).trans (hF19233.1 174 1 (by decide)))))] at tok19306
        have hT19307 := hr19304.1
        have x19308 := rX.e hI19291 (b := 4) (((hF19292.1 176 4 (by decide)).trans hv19288))
        obtain ⟨v19309, hv19309⟩ : ∃ v, gI g19300 176 4 = v := ⟨_, rfl⟩
        have rv19309 := RgF.at hI19301.2.1 (p := 176) (b := 4) rfl
        rw [hv19309] at rv19309
        dsimp only at rv19309
        have tv19309 := congrArg Int32.toInt hv19309
        have x19310 := rX.e hI19301 (b := 4) (hv19309)
        refine At.enter rfl ?_
        refine r_aload_n (w_p1 (by decide) (Or.inr rfl) e19237) ?_
        refine r_iconst 2 rfl ?_
        refine r_iload_n (w_p1 (by decide) (Or.inr rfl) e19238) ?_
        have zv19311 : (2 : Int32).toInt = 2 := rfl
        refine r_callV 110 rfl [.ref 176, .int 2, .int a1] [] (Nat.le_of_ble_eq_true rfl) rfl (IHJ _ (by omega) hI19301 2 (by decide) a1 (by omega) (by omega) hT19307) ?_
        rintro _ _ ⟨g19312, rfl, hI19313, hF19314, rfl, hr19316⟩
        refine At.stn ?_
        have hF19317 := Fr.tr hF19305 hF19314 rfl rfl
        have zv19318 : (2 : Int32).toInt = 2 := rfl
        have x19323 := rX.e hI19301 (b := 2) ((((hF19302.1 176 2 (by decide)).trans (hF19292.1 176 2 (by decide))).trans hv19286))
        have x19324 := rX.e hI19301 (b := 4) (hv19309)
        obtain ⟨o19319, o19320, o19321, o19322⟩ := hr19316.1
        have gx19325 := hr19316.2
        rw [TX.ci hI19301 (((hF19302.2.1 175 (by decide)).trans ((hF19292.2.1 175 (by decide)).trans ((hF19270.2.1 175 (by decide)).trans ((hF19259.2.1 175 (by decide)).trans (hF19233.2.1 175 (by decide))))))), nX.ci hI19301 (((hF19302.1 174 1 (by decide)).trans ((hF19292.1 174 1 (by decide)).trans ((hF19270.1 174 1 (by decide)).trans ((hF19259.1 174 1 (by decide)).trans (hF19233.1 174 1 (by decide)))))))] at gx19325
        have o19326 := OPD.tc o19321 (((hF19302.2.1 175 (by decide)).trans ((hF19292.2.1 175 (by decide)).trans ((hF19270.2.1 175 (by decide)).trans ((hF19259.2.1 175 (by decide)).trans (hF19233.2.1 175 (by decide))))))) (((hF19302.1 174 1 (by decide)).trans ((hF19292.1 174 1 (by decide)).trans ((hF19270.1 174 1 (by decide)).trans ((hF19259.1 174 1 (by decide)).trans (hF19233.1 174 1 (by decide)))))))
        obtain ⟨v19327, hv19327⟩ : ∃ v, gI g19312 176 2 = v := ⟨_, rfl⟩
        have tv19327 := congrArg Int32.toInt hv19327
        have x19328 := rX.e hI19313 (b := 2) (hv19327)
        obtain ⟨v19329, hv19329⟩ : ∃ v, gI g19312 176 4 = v := ⟨_, rfl⟩
        have rv19329 := RgF.at hI19313.2.1 (p := 176) (b := 4) rfl
        rw [hv19329] at rv19329
        dsimp only at rv19329
        have tv19329 := congrArg Int32.toInt hv19329
        have x19330 := rX.e hI19313 (b := 4) (hv19329)
        refine At.enter rfl ?_
        refine r_aload_n (w_p1 (by decide) (Or.inr rfl) e19237) ?_
        refine q_getR (Sh.ref hI19313.1 kx_176 rfl) ?_
        refine r_iload_n (w_e1 _ _ _) ?_
        refine r_iconst 0 rfl ?_
        refine r_callV 119 rfl [.ref 177, .int v19293, .int 0] [] (Nat.le_of_ble_eq_true rfl) rfl (T_X4_add_177 _ hI19313 v19293 0) ?_
        rintro _ _ ⟨g19331, rfl, hI19332, hF19333, v19334, rfl, hr19335⟩
        refine At.sti ?_
        have hF19336 := Fr.tr hF19317 hF19333 rfl rfl
        have zv19337 : (0 : Int32).toInt = 0 := rfl
        refine At.enter rfl ?_
        refine r_pop rfl ?_
        refine Ar.fall 120 rfl ?_
        refine At.enter rfl ?_
        refine r_iload_n (w_p1 (by decide) (Or.inr rfl) e19239) ?_
        refine r_ifs 124 rfl (fun c19338 => ?_) (fun c19338 => ?_)
        · have c19338_ : x19229.toInt = 0 := en_k_eq_t c19338
          refine At.enter rfl ?_
          refine r_vret ?_
          have x19339 := rX.e hI19332 (b := 2) (((hF19333.1 176 2 (by decide)).trans hv19327))
          have x19340 := rX.e hI19332 (b := 4) (((hF19333.1 176 4 (by decide)).trans hv19329))
          obtain ⟨v19341, hv19341⟩ : ∃ v, gI g19312 176 6 = v := ⟨_, rfl⟩
          have tv19341 := congrArg Int32.toInt hv19341
          have x19342 := rX.e hI19332 (b := 6) (((hF19333.1 176 6 (by decide)).trans hv19341))
          obtain ⟨v19343, hv19343⟩ : ∃ v, gI g0 176 2 = v := ⟨_, rfl⟩
          have tv19343 := congrArg Int32.toInt hv19343
          have x19344 := rX.e hI0 (b := 2) (hv19343)
          have x19345 := rX.e hI0 (b := 4) (hv19250)
          have x19346 := rX.e hI19232 (b := 2) (hv19279)
          have x19347 := rX.e hI19232 (b := 4) (hv19253)
          have x19348 := rX.e hI19269 (b := 2) (hv19286)
          have x19349 := rX.e hI19269 (b := 4) (hv19288)
          obtain ⟨v19350, hv19350⟩ : ∃ v, gI g19268 176 6 = v := ⟨_, rfl⟩
          have tv19350 := congrArg Int32.toInt hv19350
          have x19351 := rX.e hI19269 (b := 6) (hv19350)
          have x19352 := rX.e hI19301 (b := 2) ((((hF19302.1 176 2 (by decide)).trans (hF19292.1 176 2 (by decide))).trans hv19286))
          have x19353 := rX.e hI19301 (b := 4) (hv19309)
          have x19354 := rX.e hI19301 (b := 6) ((((hF19302.1 176 6 (by decide)).trans (hF19292.1 176 6 (by decide))).trans hv19350))
          have x19355 := rX.e hI19313 (b := 2) (hv19327)
          have x19356 := rX.e hI19313 (b := 4) (hv19329)
          have x19357 := rX.e hI19313 (b := 6) (hv19341)
          have pr19358 : _ ∧ _ ∧ _ := o19284
          have pr19359 : _ ∧ _ ∧ _ := o19320
          have x19360 := rX.e hI19232 (b := 2) (hv19279)
          have x19361 := rX.e hI19232 (b := 4) (hv19253)
          have x19362 := rX.e hI19269 (b := 2) (hv19286)
          have x19363 := rX.e hI19269 (b := 4) (hv19288)
          have x19364 := rX.e hI19301 (b := 2) ((((hF19302.1 176 2 (by decide)).trans (hF19292.1 176 2 (by decide))).trans hv19286))
          have x19365 := rX.e hI19301 (b := 4) (hv19309)
          have x19366 := rX.e hI19313 (b := 2) (hv19327)
          have x19367 := rX.e hI19313 (b := 4) (hv19329)
          have x19368 := rX.e hI19332 (b := 2) (((hF19333.1 176 2 (by decide)).trans hv19327))
          have x19369 := rX.e hI19332 (b := 4) (((hF19333.1 176 4 (by decide)).trans hv19329))
          exact ⟨_, rfl, hI19332, hF19336, rfl, ⟨⟨(TKX.c o19319 ((hF19333.2.1 175 (by decide))) ((hF19333.1 174 1 (by decide))) ((hF19333.1 176 3 (by decide))) ((hF19333.1 176 4 (by decide))) ((hF19333.1 176 5 (by decide)))), ((PRG0.tr ((PRG0.tr ((PRG0.tr ((PRG0.tr (q19245) (o19284))) (PRG0.step o19275 tok19306_ (rX.c (b := 2) (((hF19302.1 176 2 (by decide)).trans (hF19292.1 176 2 (by decide))))) (by omega)))) (o19320))) (PRG0.eq (rX.c (b := 4) ((hF19333.1 176 4 (by decide)))) (rX.c (b := 2) ((hF19333.1 176 2 (by decide))))))).le (by omega), PLO.cmp q19244 (TKX.someC q19243 ((hF19233.2.1 175 (by decide))) ((hF19233.1 174 1 (by decide)))).choose_spec (by omega) o19285 tok19306 (by omega) (rX.c (b := 2) (((hF19302.1 176 2 (by decide)).trans (hF19292.1 176 2 (by decide))))) (rX.c (b := 6) (((hF19302.1 176 6 (by decide)).trans (hF19292.1 176 6 (by decide))))) o19326 (TKX.someC o19319 (((hF19314.2.1 175 (by decide)).trans ((hF19302.2.1 175 (by decide)).trans ((hF19292.2.1 175 (by decide)).trans ((hF19270.2.1 175 (by decide)).trans ((hF19259.2.1 175 (by decide)).trans (hF19233.2.1 175 (by decide)))))))) (((hF19314.1 174 1 (by decide)).trans ((hF19302.1 174 1 (by decide)).trans ((hF19292.1 174 1 (by decide)).trans ((hF19270.1 174 1 (by decide)).trans ((hF19259.1 174 1 (by decide)).trans (hF19233.1 174 1 (by decide))))))))).choose_spec o19322 (rX.c (b := 2) ((hF19333.1 176 2 (by decide)))) (rX.c (b := 4) ((hF19333.1 176 4 (by decide)))) (rX.c (b := 6) ((hF19333.1 176 6 (by decide))))⟩, (by first | exact (fun hz => absurd hz (by omega)) | exact PLG.cmp q19247 (TKX.someC q19243 ((hF19233.2.1 175 (by decide))) ((hF19233.1 174 1 (by decide)))).choose_spec (by omega) (GPX.k gx19282 (by decide) (by decide) (by decide) (by decide)) tok19306 (by omega) (TOK_lt tok19306 (by omega)) (SCX.x (SCX.mk (((hF19302.2.1 178 (by decide)).trans (hF19292.2.1 178 (by decide)))) (((hF19302.2.1 179 (by decide)).trans (hF19292.2.1 179 (by decide)))) (((hF19302.1 177 0 (by decide)).trans (hF19292.1 177 0 (by decide))))) (rX.c (b := 6) (((hF19302.1 176 6 (by decide)).trans (hF19292.1 176 6 (by decide)))))) (GPX.k gx19325 (by decide) (by decide) (by decide) (by decide)) (TKX.someC o19319 (((hF19314.2.1 175 (by decide)).trans ((hF19302.2.1 175 (by decide)).trans ((hF19292.2.1 175 (by decide)).trans ((hF19270.2.1 175 (by decide)).trans ((hF19259.2.1 175 (by decide)).trans (hF19233.2.1 175 (by decide)))))))) (((hF19314.1 174 1 (by decide)).trans ((hF19302.1 174 1 (by decide)).trans ((hF19292.1 174 1 (by decide)).trans ((hF19270.1 174 1 (by decide)).trans ((hF19259.1 174 1 (by decide)).trans (hF19233.1 174 1 (by decide))))))))).choose_spec (fun hz => (o19322 hz).2.2.1 rfl) (by omega) (fun _ hl => ADP.x (ADP.fr hr19335.2 SCX.rf SCX.rf) (by omega) (rX.c (b := 6) ((hF19333.1 176 6 (by decide))))) (rX.c (b := 4) ((hF19333.1 176 4 (by decide)))) (fun _ _ => Or.inl ⟨by omega, (SCX.x SCX.rf rfl)⟩) rfl (fun z => by omega) (fun z => by omega) (fun z => by omega) (fun z => by omega))⟩⟩
        · have c19338_ : x19229.toInt ≠ 0 := en_k_eq_f c19338
          refine At.enter rfl ?_
          refine r_aload_n (w_p1 (by decide) (Or.inr rfl) e19237) ?_
          refine q_getR (Sh.ref hI19332.1 kx_176 rfl) ?_
          refine r_bipush 9 rfl ?_
          refine r_iconst 0 rfl ?_
          refine r_callV 134 rfl [.ref 177, .int 9, .int 0] [] (Nat.le_of_ble_eq_true rfl) rfl (T_X4_add_177 _ hI19332 9 0) ?_
          rintro _ _ ⟨g19370, rfl, hI19371, hF19372, v19373, rfl, hr19374⟩
          refine At.sti ?_
          have hF19375 := Fr.tr hF19336 hF19372 rfl rfl
          have zv19376 : (9 : Int32).toInt = 9 := rfl
          have zv19377 : (0 : Int32).toInt = 0 := rfl
          refine At.enter rfl ?_
          refine r_pop rfl ?_
          refine Ar.fall 135 rfl ?_
          refine At.enter rfl ?_
          refine r_vret ?_
          have x19378 := rX.e hI19371 (b := 2) ((((hF19372.1 176 2 (by decide)).trans (hF19333.1 176 2 (by decide))).trans hv19327))
          have x19379 := rX.e hI19371 (b := 4) ((((hF19372.1 176 4 (by decide)).trans (hF19333.1 176 4 (by decide))).trans hv19329))
          obtain ⟨v19380, hv19380⟩ : ∃ v, gI g19312 176 6 = v := ⟨_, rfl⟩
          have tv19380 := congrArg Int32.toInt hv19380
          have x19381 := rX.e hI19371 (b := 6) ((((hF19372.1 176 6 (by decide)).trans (hF19333.1 176 6 (by decide))).trans hv19380))
          obtain ⟨v19382, hv19382⟩ : ∃ v, gI g0 176 2 = v := ⟨_, rfl⟩
          have tv19382 := congrArg Int32.toInt hv19382
          have x19383 := rX.e hI0 (b := 2) (hv19382)
          have x19384 := rX.e hI0 (b := 4) (hv19250)
          have x19385 := rX.e hI19232 (b := 2) (hv19279)
          have x19386 := rX.e hI19232 (b := 4) (hv19253)
          have x19387 := rX.e hI19269 (b := 2) (hv19286)
          have x19388 := rX.e hI19269 (b := 4) (hv19288)
          obtain ⟨v19389, hv19389⟩ : ∃ v, gI g19268 176 6 = v := ⟨_, rfl⟩
          have tv19389 := congrArg Int32.toInt hv19389
          have x19390 := rX.e hI19269 (b := 6) (hv19389)
          have x19391 := rX.e hI19301 (b := 2) ((((hF19302.1 176 2 (by decide)).trans (hF19292.1 176 2 (by decide))).trans hv19286))
          have x19392 := rX.e hI19301 (b := 4) (hv19309)
          have x19393 := rX.e hI19301 (b := 6) ((((hF19302.1 176 6 (by decide)).trans (hF19292.1 176 6 (by decide))).trans hv19389))
          have x19394 := rX.e hI19313 (b := 2) (hv19327)
          have x19395 := rX.e hI19313 (b := 4) (hv19329)
          have x19396 := rX.e hI19313 (b := 6) (hv19380)
          have pr19397 : _ ∧ _ ∧ _ := o19284
          have pr19398 : _ ∧ _ ∧ _ := o19320
          have x19399 := rX.e hI19232 (b := 2) (hv19279)
          have x19400 := rX.e hI19232 (b := 4) (hv19253)
          have x19401 := rX.e hI19269 (b := 2) (hv19286)
          have x19402 := rX.e hI19269 (b := 4) (hv19288)
          have x19403 := rX.e hI19301 (b := 2) ((((hF19302.1 176 2 (by decide)).trans (hF19292.1 176 2 (by decide))).trans hv19286))
          have x19404 := rX.e hI19301 (b := 4) (hv19309)
          have x19405 := rX.e hI19313 (b := 2) (hv19327)
          have x19406 := rX.e hI19313 (b := 4) (hv19329)
          have x19407 := rX.e hI19332 (b := 2) (((hF19333.1 176 2 (by decide)).trans hv19327))
          have x19408 := rX.e hI19332 (b := 4) (((hF19333.1 176 4 (by decide)).trans hv19329))
          exact ⟨_, rfl, hI19371, hF19375, rfl, ⟨⟨(TKX.c o19319 (((hF19372.2.1 175 (by decide)).trans (hF19333.2.1 175 (by decide)))) (((hF19372.1 174 1 (by decide)).trans (hF19333.1 174 1 (by decide)))) (((hF19372.1 176 3 (by decide)).trans (hF19333.1 176 3 (by decide)))) (((hF19372.1 176 4 (by decide)).trans (hF19333.1 176 4 (by decide)))) (((hF19372.1 176 5 (by decide)).trans (hF19333.1 176 5 (by decide))))), ((PRG0.tr ((PRG0.tr ((PRG0.tr ((PRG0.tr (q19245) (o19284))) (PRG0.step o19275 tok19306_ (rX.c (b := 2) (((hF19302.1 176 2 (by decide)).trans (hF19292.1 176 2 (by decide))))) (by omega)))) (o19320))) (PRG0.eq (rX.c (b := 4) (((hF19372.1 176 4 (by decide)).trans (hF19333.1 176 4 (by decide))))) (rX.c (b := 2) (((hF19372.1 176 2 (by decide)).trans (hF19333.1 176 2 (by decide)))))))).le (by omega), PLO.cmp q19244 (TKX.someC q19243 ((hF19233.2.1 175 (by decide))) ((hF19233.1 174 1 (by decide)))).choose_spec (by omega) o19285 tok19306 (by omega) (rX.c (b := 2) (((hF19302.1 176 2 (by decide)).trans (hF19292.1 176 2 (by decide))))) (rX.c (b := 6) (((hF19302.1 176 6 (by decide)).trans (hF19292.1 176 6 (by decide))))) o19326 (TKX.someC o19319 (((hF19314.2.1 175 (by decide)).trans ((hF19302.2.1 175 (by decide)).trans ((hF19292.2.1 175 (by decide)).trans ((hF19270.2.1 175 (by decide)).trans ((hF19259.2.1 175 (by decide)).trans (hF19233.2.1 175 (by decide)))))))) (((hF19314.1 174 1 (by decide)).trans ((hF19302.1 174 1 (by decide)).trans ((hF19292.1 174 1 (by decide)).trans ((hF19270.1 174 1 (by decide)).trans ((hF19259.1 174 1 (by decide)).trans (hF19233.1 174 1 (by decide))))))))).choose_spec o19322 (rX.c (b := 2) (((hF19372.1 176 2 (by decide)).trans (hF19333.1 176 2 (by decide))))) (rX.c (b := 4) (((hF19372.1 176 4 (by decide)).trans (hF19333.1 176 4 (by decide))))) (rX.c (b := 6) (((hF19372.1 176 6 (by decide)).trans (hF19333.1 176 6 (by decide)))))⟩, (by first | exact (fun hz => absurd hz (by omega)) | exact PLG.cmp q19247 (TKX.someC q19243 ((hF19233.2.1 175 (by decide))) ((hF19233.1 174 1 (by decide)))).choose_spec (by omega) (GPX.k gx19282 (by decide) (by decide) (by decide) (by decide)) tok19306 (by omega) (TOK_lt tok19306 (by omega)) (SCX.x (SCX.mk (((hF19302.2.1 178 (by decide)).trans (hF19292.2.1 178 (by decide)))) (((hF19302.2.1 179 (by decide)).trans (hF19292.2.1 179 (by decide)))) (((hF19302.1 177 0 (by decide)).trans (hF19292.1 177 0 (by decide))))) (rX.c (b := 6) (((hF19302.1 176 6 (by decide)).trans (hF19292.1 176 6 (by decide)))))) (GPX.k gx19325 (by decide) (by decide) (by decide) (by decide)) (TKX.someC o19319 (((hF19314.2.1 175 (by decide)).trans ((hF19302.2.1 175 (by decide)).trans ((hF19292.2.1 175 (by decide)).trans ((hF19270.2.1 175 (by decide)).trans ((hF19259.2.1 175 (by decide)).trans (hF19233.2.1 175 (by decide)))))))) (((hF19314.1 174 1 (by decide)).trans ((hF19302.1 174 1 (by decide)).trans ((hF19292.1 174 1 (by decide)).trans ((hF19270.1 174 1 (by decide)).trans ((hF19259.1 174 1 (by decide)).trans (hF19233.1 174 1 (by decide))))))))).choose_spec (fun hz => (o19322 hz).2.2.1 rfl) (by omega) (fun _ hl => ADP.x (ADP.fr hr19335.2 SCX.rf SCX.rf) (by omega) (rX.c (b := 6) ((hF19333.1 176 6 (by decide))))) (rX.c (b := 4) ((hF19333.1 176 4 (by decide)))) (fun _ hl => Or.inr ⟨by omega, ADP.x (ADP.fr hr19374.2 SCX.rf SCX.rf) (by have hl2 := hl (by omega); omega) (rX.c (b := 6) ((hF19372.1 176 6 (by decide))))⟩) (rX.c (b := 4) ((hF19372.1 176 4 (by decide)))) (fun z => by omega) (fun z => by omega) (fun z => by omega) (fun z => by omega))⟩⟩
      · have c19298_ : v19293.toInt = (-1) := en_i_ne_f c19298
        have i19409 := BLN.no hb19297 (by omega)
        refine At.enter rfl ?_
        refine r_aload_n (w_p1 (by decide) (Or.inr rfl) e19237) ?_
        refine q_inlV 99 rfl [.ref 176] [] (Nat.le_of_ble_eq_true rfl) rfl ?_
        refine Ev.mk rfl rfl ⟨Nat.le_of_ble_eq_true rfl, Or.inr (q_rc hI19291.1 kx_176 rfl)⟩ ?_
        show At _ none _ _ (0, [(0, .ref 176)], [], (_, _)) _
        refine At.enter rfl ?_
        refine r_aload_n rfl ?_
        refine q_getI (Sh.int hI19291.1 kx_176 rfl) v19286 ((hF19292.1 176 2 (by decide)).trans hv19286) ?_
        refine r_iconst (-1) rfl ?_
        refine r_ics 8 rfl (fun c19410 => ?_) (fun c19410 => ?_)
        · have c19410_ : v19286.toInt ≠ (-1) := en_i_ne_t c19410
          refine At.enter rfl ?_
          refine q_vret ?_
          refine At.enter rfl ?_
          refine r_vret ?_
          have x19411 := rX.e hI19291 (b := 2) (((hF19292.1 176 2 (by decide)).trans hv19286))
          have x19412 := rX.e hI19291 (b := 4) (((hF19292.1 176 4 (by decide)).trans hv19288))
          obtain ⟨v19413, hv19413⟩ : ∃ v, gI g19268 176 6 = v := ⟨_, rfl⟩
          have tv19413 := congrArg Int32.toInt hv19413
          have x19414 := rX.e hI19291 (b := 6) (((hF19292.1 176 6 (by decide)).trans hv19413))
          obtain ⟨v19415, hv19415⟩ : ∃ v, gI g0 176 2 = v := ⟨_, rfl⟩
          have tv19415 := congrArg Int32.toInt hv19415
          have x19416 := rX.e hI0 (b := 2) (hv19415)
          have x19417 := rX.e hI0 (b := 4) (hv19250)
          have x19418 := rX.e hI19232 (b := 2) (hv19279)
          have x19419 := rX.e hI19232 (b := 4) (hv19253)
          have x19420 := rX.e hI19269 (b := 2) (hv19286)
          have x19421 := rX.e hI19269 (b := 4) (hv19288)
          have x19422 := rX.e hI19269 (b := 6) (hv19413)
          have pr19423 : _ ∧ _ ∧ _ := o19284
          exact ⟨_, rfl, hI19291, hF19295, rfl, ⟨⟨(TKX.c o19275 ((hF19292.2.1 175 (by decide))) ((hF19292.1 174 1 (by decide))) ((hF19292.1 176 3 (by decide))) ((hF19292.1 176 4 (by decide))) ((hF19292.1 176 5 (by decide)))), ((PRG0.tr ((PRG0.tr (q19245) (o19284))) (PRG0.fail 1 (rX.c (b := 4) ((hF19292.1 176 4 (by decide)))) (fun _ => by omega) (fun _ => by omega) (by omega)))).le (by omega), PLO.cmpF q19244 (TKX.someC q19243 ((hF19233.2.1 175 (by decide))) ((hF19233.1 174 1 (by decide)))).choose_spec (by omega) o19285 (TKX.someC o19275 (((hF19270.2.1 175 (by decide)).trans ((hF19259.2.1 175 (by decide)).trans (hF19233.2.1 175 (by decide))))) (((hF19270.1 174 1 (by decide)).trans ((hF19259.1 174 1 (by decide)).trans (hF19233.1 174 1 (by decide)))))).choose_spec o19278 (by omega) (fun _ => by omega) (fun _ => by omega) (by omega)⟩, (fun hz => absurd hz (by omega))⟩⟩
        · have c19410_ : v19286.toInt = (-1) := en_i_ne_f c19410
          refine At.enter rfl ?_
          refine r_aload_n rfl ?_
          refine r_aload_n rfl ?_
          refine q_getI (Sh.int hI19291.1 kx_176 rfl) v19288 ((hF19292.1 176 4 (by decide)).trans hv19288) ?_
          refine q_putI (Sh.int hI19291.1 kx_176 rfl) rfl ?_
          have hI19424 := HI.wI0 hI19291 kx_176 rfl (p := 176) (b := 2) (v := v19288) rfl
          have hF19425 := Fr.wI (p := 176) (b := 2) (v := v19288) hF19295 rfl
          refine Ar.fall 16 rfl ?_
          refine At.enter rfl ?_
          refine q_vret ?_
          refine At.enter rfl ?_
          refine r_vret ?_
          have x19426 := rX.e hI19424 (b := 2) ((gI_sI_eq hI19291.1 kx_176 rfl _))
          have x19427 := rX.e hI19424 (b := 4) ((((gI_sI_ne (by decide)).trans (hF19292.1 176 4 (by decide))).trans hv19288))
          obtain ⟨v19428, hv19428⟩ : ∃ v, gI g19268 176 6 = v := ⟨_, rfl⟩
          have tv19428 := congrArg Int32.toInt hv19428
          have x19429 := rX.e hI19424 (b := 6) ((((gI_sI_ne (by decide)).trans (hF19292.1 176 6 (by decide))).trans hv19428))
          obtain ⟨v19430, hv19430⟩ : ∃ v, gI g0 176 2 = v := ⟨_, rfl⟩
          have tv19430 := congrArg Int32.toInt hv19430
          have x19431 := rX.e hI0 (b := 2) (hv19430)
          have x19432 := rX.e hI0 (b := 4) (hv19250)
          have x19433 := rX.e hI19232 (b := 2) (hv19279)
          have x19434 := rX.e hI19232 (b := 4) (hv19253)
          have x19435 := rX.e hI19269 (b := 2) (hv19286)
          have x19436 := rX.e hI19269 (b := 4) (hv19288)
          have x19437 := rX.e hI19269 (b := 6) (hv19428)
          have pr19438 : _ ∧ _ ∧ _ := o19284
          exact ⟨_, rfl, hI19424, hF19425, rfl, ⟨⟨(TKX.c o19275 (((gA_sI).trans (hF19292.2.1 175 (by decide)))) (((gI_sI_ne (by decide)).trans (hF19292.1 174 1 (by decide)))) (((gI_sI_ne (by decide)).trans (hF19292.1 176 3 (by decide)))) (((gI_sI_ne (by decide)).trans (hF19292.1 176 4 (by decide)))) (((gI_sI_ne (by decide)).trans (hF19292.1 176 5 (by decide))))), ((PRG0.tr ((PRG0.tr (q19245) (o19284))) (PRG0.fail 1 (rX.c (b := 4) (((gI_sI_ne (by decide)).trans (hF19292.1 176 4 (by decide))))) (fun _ => by omega) (fun _ => by omega) (by omega)))).le (by omega), PLO.cmpF q19244 (TKX.someC q19243 ((hF19233.2.1 175 (by decide))) ((hF19233.1 174 1 (by decide)))).choose_spec (by omega) o19285 (TKX.someC o19275 (((hF19270.2.1 175 (by decide)).trans ((hF19259.2.1 175 (by decide)).trans (hF19233.2.1 175 (by decide))))) (((hF19270.1 174 1 (by decide)).trans ((hF19259.1 174 1 (by decide)).trans (hF19233.1 174 1 (by decide)))))).choose_spec o19278 (by omega) (fun _ => by omega) (fun _ => by omega) (by omega)⟩, (fun hz => absurd hz (by omega))⟩⟩
    · have c19265_ : v19260.toInt ≠ 0 := en_k_eq_f c19265
      have i19439 := BL.yes hb19264 (by omega)
      refine At.enter rfl ?_
      refine r_aload_n e19237 ?_
      refine r_iload_n e19238 ?_
      refine q_inlV 54 rfl [.ref 176, .int a1] [] (Nat.le_of_ble_eq_true rfl) rfl ?_
      refine Ev.mk rfl rfl ⟨Nat.le_of_ble_eq_true rfl, Or.inr (q_rc hI19258.1 kx_176 rfl)⟩ ?_
      show At _ none _ _ (0, [(0, .ref 176), (1, .int a1)], [], (_, _)) _
      refine At.enter rfl ?_
      refine r_iload_n rfl ?_
      refine r_bipush 8 rfl ?_
      refine r_ics 6 rfl (fun c19440 => ?_) (fun c19440 => ?_)
      · have c19440_ : a1.toInt < 8 := en_i_lt_t c19440
        refine At.enter rfl ?_
        refine r_aload_n rfl ?_
        refine r_callV 17 rfl [.ref 176] [] (Nat.le_of_ble_eq_true rfl) rfl (T_X5_step_176 _ hI19258 (TKX.c q19243 ((hF19259.2.1 175 (by decide))) ((hF19259.1 174 1 (by decide))) ((hF19259.1 176 3 (by decide))) ((hF19259.1 176 4 (by decide))) ((hF19259.1 176 5 (by decide)))).1 (TKX.c q19243 ((hF19259.2.1 175 (by decide))) ((hF19259.1 174 1 (by decide))) ((hF19259.1 176 3 (by decide))) ((hF19259.1 176 4 (by decide))) ((hF19259.1 176 5 (by decide)))).2.1.le.2.1) ?_
        rintro _ _ ⟨g19441, rfl, hI19442, hF19443, rfl, hr19445⟩
        refine At.stn ?_
        have hF19446 := Fr.tr hF19262 hF19443 rfl rfl
        have tok19447_ := hr19445.2
        rw [TX.c ((hF19259.2.1 175 (by decide))), nX.c ((hF19259.1 174 1 (by decide))), rX.c (b := 5) ((hF19259.1 176 5 (by decide)))] at tok19447_
        have tok19447 := TKX.tok q19243 tok19447_
        rw [TX.c ((hF19233.2.1 175 (by decide))), nX.c ((hF19233.1 174 1 (by decide)))] at tok19447
        have hT19448 := hr19445.1
        have x19449 := rX.e hI19258 (b := 4) (((hF19259.1 176 4 (by decide)).trans hv19253))
        obtain ⟨v19450, hv19450⟩ : ∃ v, gI g19441 176 4 = v := ⟨_, rfl⟩
        have rv19450 := RgF.at hI19442.2.1 (p := 176) (b := 4) rfl
        rw [hv19450] at rv19450
        dsimp only at rv19450
        have tv19450 := congrArg Int32.toInt hv19450
        have x19451 := rX.e hI19442 (b := 4) (hv19450)
        refine At.enter rfl ?_
        refine q_vret ?_
        refine At.enter rfl ?_
        refine r_aload_n e19237 ?_
        obtain ⟨v19452, hv19452⟩ : ∃ v, gI g19231 176 2 = v := ⟨_, rfl⟩
        refine q_getI (Sh.int hI19442.1 kx_176 rfl) v19452 (((hF19443.1 176 2 (by decide)).trans (hF19259.1 176 2 (by decide))).trans hv19452) ?_
        refine r_iconst (-1) rfl ?_
        refine r_ics 62 rfl (fun c19453 => ?_) (fun c19453 => ?_)
        · have c19453_ : v19452.toInt ≠ (-1) := en_i_ne_t c19453
          refine At.enter rfl ?_
          refine r_iload_n e19239 ?_
          refine r_ifs 124 rfl (fun c19454 => ?_) (fun c19454 => ?_)
          · have c19454_ : x19229.toInt = 0 := en_k_eq_t c19454
            refine At.enter rfl ?_
            refine r_vret ?_
            have x19455 := rX.e hI19442 (b := 2) ((((hF19443.1 176 2 (by decide)).trans (hF19259.1 176 2 (by decide))).trans hv19452))
            have x19456 := rX.e hI19442 (b := 4) (hv19450)
            obtain ⟨v19457, hv19457⟩ : ∃ v, gI g19231 176 6 = v := ⟨_, rfl⟩
            have tv19457 := congrArg Int32.toInt hv19457
            have x19458 := rX.e hI19442 (b := 6) ((((hF19443.1 176 6 (by decide)).trans (hF19259.1 176 6 (by decide))).trans hv19457))
            obtain ⟨v19459, hv19459⟩ : ∃ v, gI g0 176 2 = v := ⟨_, rfl⟩
            have tv19459 := congrArg Int32.toInt hv19459
            have x19460 := rX.e hI0 (b := 2) (hv19459)
            have x19461 := rX.e hI0 (b := 4) (hv19250)
            have x19462 := rX.e hI19232 (b := 2) (hv19452)
            have x19463 := rX.e hI19232 (b := 4) (hv19253)
            have x19464 := rX.e hI19442 (b := 2) ((((hF19443.1 176 2 (by decide)).trans (hF19259.1 176 2 (by decide))).trans hv19452))
            have x19465 := rX.e hI19442 (b := 4) (hv19450)
            have x19466 := rX.e hI19442 (b := 6) ((((hF19443.1 176 6 (by decide)).trans (hF19259.1 176 6 (by decide))).trans hv19457))
            exact ⟨_, rfl, hI19442, hF19446, rfl, ⟨⟨hT19448, ((PRG0.tr ((PRG0.tr (q19245) (PRG0.step q19243 tok19447_ (rX.c (b := 2) (((hF19443.1 176 2 (by decide)).trans (hF19259.1 176 2 (by decide))))) (by omega)))) (PRG0.eq rfl rfl))).le (by omega), PLO.bad (g1 := g19231) q19244 (by omega) (rX.c (b := 2) (((hF19443.1 176 2 (by decide)).trans (hF19259.1 176 2 (by decide)))))⟩, (fun hz => absurd hz (by omega))⟩⟩
          · have c19454_ : x19229.toInt ≠ 0 := en_k_eq_f c19454
            refine At.enter rfl ?_
            refine r_aload_n e19237 ?_
            refine q_getR (Sh.ref hI19442.1 kx_176 rfl) ?_
            refine r_bipush 9 rfl ?_
            refine r_iconst 0 rfl ?_
            refine r_callV 134 rfl [.ref 177, .int 9, .int 0] [] (Nat.le_of_ble_eq_true rfl) rfl (T_X4_add_177 _ hI19442 9 0) ?_
            rintro _ _ ⟨g19467, rfl, hI19468, hF19469, v19470, rfl, hr19471⟩
            refine At.sti ?_
            have hF19472 := Fr.tr hF19446 hF19469 rfl rfl
            have zv19473 : (9 : Int32).toInt = 9 := rfl
            have zv19474 : (0 : Int32).toInt = 0 := rfl
            refine At.enter rfl ?_
            refine r_pop rfl ?_
            refine Ar.fall 135 rfl ?_
            refine At.enter rfl ?_
            refine r_vret ?_
            have x19475 := rX.e hI19468 (b := 2) ((((hF19469.1 176 2 (by decide)).trans ((hF19443.1 176 2 (by decide)).trans (hF19259.1 176 2 (by decide)))).trans hv19452))
            have x19476 := rX.e hI19468 (b := 4) (((hF19469.1 176 4 (by decide)).trans hv19450))
            obtain ⟨v19477, hv19477⟩ : ∃ v, gI g19231 176 6 = v := ⟨_, rfl⟩
            have tv19477 := congrArg Int32.toInt hv19477
            have x19478 := rX.e hI19468 (b := 6) ((((hF19469.1 176 6 (by decide)).trans ((hF19443.1 176 6 (by decide)).trans (hF19259.1 176 6 (by decide)))).trans hv19477))
            obtain ⟨v19479, hv19479⟩ : ∃ v, gI g0 176 2 = v := ⟨_, rfl⟩
            have tv19479 := congrArg Int32.toInt hv19479
            have x19480 := rX.e hI0 (b := 2) (hv19479)
            have x19481 := rX.e hI0 (b := 4) (hv19250)
            have x19482 := rX.e hI19232 (b := 2) (hv19452)
            have x19483 := rX.e hI19232 (b := 4) (hv19253)
            have x19484 := rX.e hI19442 (b := 2) ((((hF19443.1 176 2 (by decide)).trans (hF19259.1 176 2 (by decide))).trans hv19452))
            have x19485 := rX.e hI19442 (b := 4) (hv19450)
            have x19486 := rX.e hI19442 (b := 6) ((((hF19443.1 176 6 (by decide)).trans (hF19259.1 176 6 (by decide))).trans hv19477))
            exact ⟨_, rfl, hI19468, hF19472, rfl, ⟨⟨(TKX.c hT19448 ((hF19469.2.1 175 (by decide))) ((hF19469.1 174 1 (by decide))) ((hF19469.1 176 3 (by decide))) ((hF19469.1 176 4 (by decide))) ((hF19469.1 176 5 (by decide)))), ((PRG0.tr ((PRG0.tr (q19245) (PRG0.step q19243 tok19447_ (rX.c (b := 2) (((hF19443.1 176 2 (by decide)).trans (hF19259.1 176 2 (by decide))))) (by omega)))) (PRG0.eq (rX.c (b := 4) ((hF19469.1 176 4 (by decide)))) (rX.c (b := 2) ((hF19469.1 176 2 (by decide))))))).le (by omega), PLO.bad (g1 := g19231) q19244 (by omega) (rX.c (b := 2) (((hF19469.1 176 2 (by decide)).trans ((hF19443.1 176 2 (by decide)).trans (hF19259.1 176 2 (by decide))))))⟩, (fun hz => absurd hz (by omega))⟩⟩
        · have c19453_ : v19452.toInt = (-1) := en_i_ne_f c19453
          refine At.enter rfl ?_
          refine r_aload_n e19237 ?_
          refine r_iconst 0 rfl ?_
          refine r_iload_n e19238 ?_
          refine r_iconst 1 rfl ?_
          refine q_iadd (a1.toInt + 1) rfl (by omega) (fun v19487 hv19487 => ?_)
          have zv19488 : (0 : Int32).toInt = 0 := rfl
          refine r_callV 70 rfl [.ref 176, .int 0, .int v19487] [] (Nat.le_of_ble_eq_true rfl) rfl (IHJ _ (by omega) hI19442 0 (by decide) v19487 (by omega) (by omega) hT19448) ?_
          rintro _ _ ⟨g19489, rfl, hI19490, hF19491, rfl, hr19493⟩
          refine At.stn ?_
          have hF19494 := Fr.tr hF19446 hF19491 rfl rfl
          have zv19495 : (0 : Int32).toInt = 0 := rfl
          have x19500 := rX.e hI19442 (b := 2) ((((hF19443.1 176 2 (by decide)).trans (hF19259.1 176 2 (by decide))).trans hv19452))
          have x19501 := rX.e hI19442 (b := 4) (hv19450)
          obtain ⟨o19496, o19497, o19498, o19499⟩ := hr19493.1
          have gx19502 := hr19493.2
          rw [TX.ci hI19442 (((hF19443.2.1 175 (by decide)).trans ((hF19259.2.1 175 (by decide)).trans (hF19233.2.1 175 (by decide))))), nX.ci hI19442 (((hF19443.1 174 1 (by decide)).trans ((hF19259.1 174 1 (by decide)).trans (hF19233.1 174 1 (by decide)))))] at gx19502
          have o19503 := OPD.tc o19498 (((hF19443.2.1 175 (by decide)).trans ((hF19259.2.1 175 (by decide)).trans (hF19233.2.1 175 (by decide))))) (((hF19443.1 174 1 (by decide)).trans ((hF19259.1 174 1 (by decide)).trans (hF19233.1 174 1 (by decide)))))
          obtain ⟨v19504, hv19504⟩ : ∃ v, gI g19489 176 2 = v := ⟨_, rfl⟩
          have tv19504 := congrArg Int32.toInt hv19504
          have x19505 := rX.e hI19490 (b := 2) (hv19504)
          obtain ⟨v19506, hv19506⟩ : ∃ v, gI g19489 176 4 = v := ⟨_, rfl⟩
          have rv19506 := RgF.at hI19490.2.1 (p := 176) (b := 4) rfl
          rw [hv19506] at rv19506
          dsimp only at rv19506
          have tv19506 := congrArg Int32.toInt hv19506
          have x19507 := rX.e hI19490 (b := 4) (hv19506)
          refine At.enter rfl ?_
          refine r_aload_n e19237 ?_
          refine r_bipush 41 rfl ?_
          refine q_inlV 76 rfl [.ref 176, .int 41] [] (Nat.le_of_ble_eq_true rfl) rfl ?_
          refine Ev.mk rfl rfl ⟨Nat.le_of_ble_eq_true rfl, Or.inr (q_rc hI19490.1 kx_176 rfl)⟩ ?_
          show At _ none _ _ (0, [(0, .ref 176), (1, .int 41)], [], (_, _)) _
          refine At.enter rfl ?_
          refine r_aload_n rfl ?_
          refine r_iload_n rfl ?_
          refine r_callV 5 rfl [.ref 176, .int 41] [] (Nat.le_of_ble_eq_true rfl) rfl (T_X5_isSingle_176 _ hI19490 41 (by decide)) ?_
          rintro _ _ ⟨g19508, rfl, hI19509, hF19510, v19511, rfl, hr19512⟩
          refine At.sti ?_
          have hF19513 := Fr.tr hF19494 hF19510 rfl rfl
          have zv19514 : (41 : Int32).toInt = 41 := rfl
          have hb19515 : BL (CDX g19489 = 9) v19511.toInt := ISX.code (c := 9) hr19512.2 o19496 (isSC_d (by omega)) (by decide)
          refine At.enter rfl ?_
          refine r_ifs 8 rfl (fun c19516 => ?_) (fun c19516 => ?_)
          · have c19516_ : v19511.toInt = 0 := en_k_eq_t c19516
            have i19517 := BL.no hb19515 (by omega)
            refine At.enter rfl ?_
            refine r_aload_n rfl ?_
            refine q_inlV 19 rfl [.ref 176] [] (Nat.le_of_ble_eq_true rfl) rfl ?_
            refine Ev.mk rfl rfl ⟨Nat.le_of_ble_eq_true rfl, Or.inr (q_rc hI19509.1 kx_176 rfl)⟩ ?_
            show At _ none _ _ (0, [(0, .ref 176)], [], (_, _)) _
            refine At.enter rfl ?_
            refine r_aload_n rfl ?_
            refine q_getI (Sh.int hI19509.1 kx_176 rfl) v19504 ((hF19510.1 176 2 (by decide)).trans hv19504) ?_
            refine r_iconst (-1) rfl ?_
            refine r_ics 8 rfl (fun c19518 => ?_) (fun c19518 => ?_)
            · have c19518_ : v19504.toInt ≠ (-1) := en_i_ne_t c19518
              refine At.enter rfl ?_
              refine q_vret ?_
              refine At.enter rfl ?_
              refine q_vret ?_
              refine At.enter rfl ?_
              refine r_goto ?_
              refine At.enter rfl ?_
              refine r_iload_n e19239 ?_
              refine r_ifs 124 rfl (fun c19519 => ?_) (fun c19519 => ?_)
              · have c19519_ : x19229.toInt = 0 := en_k_eq_t c19519
                refine At.enter rfl ?_
                refine r_vret ?_
                have x19520 := rX.e hI19509 (b := 2) (((hF19510.1 176 2 (by decide)).trans hv19504))
                have x19521 := rX.e hI19509 (b := 4) (((hF19510.1 176 4 (by decide)).trans hv19506))
                obtain ⟨v19522, hv19522⟩ : ∃ v, gI g19489 176 6 = v := ⟨_, rfl⟩
                have tv19522 := congrArg Int32.toInt hv19522
                have x19523 := rX.e hI19509 (b := 6) (((hF19510.1 176 6 (by decide)).trans hv19522))
                obtain ⟨v19524, hv19524⟩ : ∃ v, gI g0 176 2 = v := ⟨_, rfl⟩
                have tv19524 := congrArg Int32.toInt hv19524
                have x19525 := rX.e hI0 (b := 2) (hv19524)
                have x19526 := rX.e hI0 (b := 4) (hv19250)
                have x19527 := rX.e hI19232 (b := 2) (hv19452)
                have x19528 := rX.e hI19232 (b := 4) (hv19253)
                have x19529 := rX.e hI19442 (b := 2) ((((hF19443.1 176 2 (by decide)).trans (hF19259.1 176 2 (by decide))).trans hv19452))
                have x19530 := rX.e hI19442 (b := 4) (hv19450)
                obtain ⟨v19531, hv19531⟩ : ∃ v, gI g19231 176 6 = v := ⟨_, rfl⟩
                have tv19531 := congrArg Int32.toInt hv19531
                have x19532 := rX.e hI19442 (b := 6) ((((hF19443.1 176 6 (by decide)).trans (hF19259.1 176 6 (by decide))).trans hv19531))
                have x19533 := rX.e hI19490 (b := 2) (hv19504)
                have x19534 := rX.e hI19490 (b := 4) (hv19506)
                have x19535 := rX.e hI19490 (b := 6) (hv19522)
                have pr19536 : _ ∧ _ ∧ _ := o19497
                exact ⟨_, rfl, hI19509, hF19513, rfl, ⟨⟨(TKX.c o19496 ((hF19510.2.1 175 (by decide))) ((hF19510.1 174 1 (by decide))) ((hF19510.1 176 3 (by decide))) ((hF19510.1 176 4 (by decide))) ((hF19510.1 176 5 (by decide)))), ((PRG0.tr ((PRG0.tr ((PRG0.tr (q19245) (PRG0.step q19243 tok19447_ (rX.c (b := 2) (((hF19443.1 176 2 (by decide)).trans (hF19259.1 176 2 (by decide))))) (by omega)))) (o19497))) (PRG0.fail 1 (rX.c (b := 4) ((hF19510.1 176 4 (by decide)))) (fun _ => by omega) (fun _ => by omega) (by omega)))).le (by omega), PLO.rndF q19244 tok19447 (by omega) (by omega) (rX.c (b := 2) (((hF19443.1 176 2 (by decide)).trans (hF19259.1 176 2 (by decide))))) (rX.c (b := 6) (((hF19443.1 176 6 (by decide)).trans (hF19259.1 176 6 (by decide))))) (OPD.cast o19503 rfl (by omega)) (TKX.someC o19496 (((hF19491.2.1 175 (by decide)).trans ((hF19443.2.1 175 (by decide)).trans ((hF19259.2.1 175 (by decide)).trans (hF19233.2.1 175 (by decide)))))) (((hF19491.1 174 1 (by decide)).trans ((hF19443.1 174 1 (by decide)).trans ((hF19259.1 174 1 (by decide)).trans (hF19233.1 174 1 (by decide))))))).choose_spec o19499 (by omega) (fun _ => by omega) (fun _ => by omega) (by omega)⟩, (fun hz => absurd hz (by omega))⟩⟩
              · have c19519_ : x19229.toInt ≠ 0 := en_k_eq_f c19519
                refine At.enter rfl ?_
                refine r_aload_n e19237 ?_
                refine q_getR (Sh.ref hI19509.1 kx_176 rfl) ?_
                refine r_bipush 9 rfl ?_
                refine r_iconst 0 rfl ?_
                refine r_callV 134 rfl [.ref 177, .int 9, .int 0] [] (Nat.le_of_ble_eq_true rfl) rfl (T_X4_add_177 _ hI19509 9 0) ?_
                rintro _ _ ⟨g19537, rfl, hI19538, hF19539, v19540, rfl, hr19541⟩
                refine At.sti ?_
                have hF19542 := Fr.tr hF19513 hF19539 rfl rfl
                have zv19543 : (9 : Int32).toInt = 9 := rfl
                have zv19544 : (0 : Int32).toInt = 0 := rfl
                refine At.enter rfl ?_
                refine r_pop rfl ?_
                refine Ar.fall 135 rfl ?_
                refine At.enter rfl ?_
                refine r_vret ?_
                have x19545 := rX.e hI19538 (b := 2) ((((hF19539.1 176 2 (by decide)).trans (hF19510.1 176 2 (by decide))).trans hv19504))
                have x19546 := rX.e hI19538 (b := 4) ((((hF19539.1 176 4 (by decide)).trans (hF19510.1 176 4 (by decide))).trans hv19506))
                obtain ⟨v19547, hv19547⟩ : ∃ v, gI g19489 176 6 = v := ⟨_, rfl⟩
                have tv19547 := congrArg Int32.toInt hv19547
                have x19548 := rX.e hI19538 (b := 6) ((((hF19539.1 176 6 (by decide)).trans (hF19510.1 176 6 (by decide))).trans hv19547))
                obtain ⟨v19549, hv19549⟩ : ∃ v, gI g0 176 2 = v := ⟨_, rfl⟩
                have tv19549 := congrArg Int32.toInt hv19549
                have x19550 := rX.e hI0 (b := 2) (hv19549)
                have x19551 := rX.e hI0 (b := 4) (hv19250)
                have x19552 := rX.e hI19232 (b := 2) (hv19452)
                have x19553 := rX.e hI19232 (b := 4) (hv19253)
                have x19554 := rX.e hI19442 (b := 2) ((((hF19443.1 176 2 (by decide)).trans (hF19259.1 176 2 (by decide))).trans hv19452))
                have x19555 := rX.e hI19442 (b := 4) (hv19450)
                obtain ⟨v19556, hv19556⟩ : ∃ v, gI g19231 176 6 = v := ⟨_, rfl⟩
                have tv19556 := congrArg Int32.toInt hv19556
                have x19557 := rX.e hI19442 (b := 6) ((((hF19443.1 176 6 (by decide)).trans (hF19259.1 176 6 (by decide))).trans hv19556))
                have x19558 := rX.e hI19490 (b := 2) (hv19504)
                have x19559 := rX.e hI19490 (b := 4) (hv19506)
                have x19560 := rX.e hI19490 (b := 6) (hv19547)
                have pr19561 : _ ∧ _ ∧ _ := o19497
                exact ⟨_, rfl, hI19538, hF19542, rfl, ⟨⟨(TKX.c o19496 (((hF19539.2.1 175 (by decide)).trans (hF19510.2.1 175 (by decide)))) (((hF19539.1 174 1 (by decide)).trans (hF19510.1 174 1 (by decide)))) (((hF19539.1 176 3 (by decide)).trans (hF19510.1 176 3 (by decide)))) (((hF19539.1 176 4 (by decide)).trans (hF19510.1 176 4 (by decide)))) (((hF19539.1 176 5 (by decide)).trans (hF19510.1 176 5 (by decide))))), ((PRG0.tr ((PRG0.tr ((PRG0.tr (q19245) (PRG0.step q19243 tok19447_ (rX.c (b := 2) (((hF19443.1 176 2 (by decide)).trans (hF19259.1 176 2 (by decide))))) (by omega)))) (o19497))) (PRG0.fail 1 (rX.c (b := 4) (((hF19539.1 176 4 (by decide)).trans (hF19510.1 176 4 (by decide))))) (fun _ => by omega) (fun _ => by omega) (by omega)))).le (by omega), PLO.rndF q19244 tok19447 (by omega) (by omega) (rX.c (b := 2) (((hF19443.1 176 2 (by decide)).trans (hF19259.1 176 2 (by decide))))) (rX.c (b := 6) (((hF19443.1 176 6 (by decide)).trans (hF19259.1 176 6 (by decide))))) (OPD.cast o19503 rfl (by omega)) (TKX.someC o19496 (((hF19491.2.1 175 (by decide)).trans ((hF19443.2.1 175 (by decide)).trans ((hF19259.2.1 175 (by decide)).trans (hF19233.2.1 175 (by decide)))))) (((hF19491.1 174 1 (by decide)).trans ((hF19443.1 174 1 (by decide)).trans ((hF19259.1 174 1 (by decide)).trans (hF19233.1 174 1 (by decide))))))).choose_spec o19499 (by omega) (fun _ => by omega) (fun _ => by omega) (by omega)⟩, (fun hz => absurd hz (by omega))⟩⟩
            · have c19518_ : v19504.toInt = (-1) := en_i_ne_f c19518
              refine At.enter rfl ?_
              refine r_aload_n rfl ?_
              refine r_aload_n rfl ?_
              refine q_getI (Sh.int hI19509.1 kx_176 rfl) v19506 ((hF19510.1 176 4 (by decide)).trans hv19506) ?_
              refine q_putI (Sh.int hI19509.1 kx_176 rfl) rfl ?_
              have hI19562 := HI.wI0 hI19509 kx_176 rfl (p := 176) (b := 2) (v := v19506) rfl
              have hF19563 := Fr.wI (p := 176) (b := 2) (v := v19506) hF19513 rfl
              refine Ar.fall 16 rfl ?_
              refine At.enter rfl ?_
              refine q_vret ?_
              refine At.enter rfl ?_
              refine q_vret ?_
              refine At.enter rfl ?_
              refine r_goto ?_
              refine At.enter rfl ?_
              refine r_iload_n e19239 ?_
              refine r_ifs 124 rfl (fun c19564 => ?_) (fun c19564 => ?_)
              · have c19564_ : x19229.toInt = 0 := en_k_eq_t c19564
                refine At.enter rfl ?_
                refine r_vret ?_
                have x19565 := rX.e hI19562 (b := 2) ((gI_sI_eq hI19509.1 kx_176 rfl _))
                have x19566 := rX.e hI19562 (b := 4) ((((gI_sI_ne (by decide)).trans (hF19510.1 176 4 (by decide))).trans hv19506))
                obtain ⟨v19567, hv19567⟩ : ∃ v, gI g19489 176 6 = v := ⟨_, rfl⟩
                have tv19567 := congrArg Int32.toInt hv19567
                have x19568 := rX.e hI19562 (b := 6) ((((gI_sI_ne (by decide)).trans (hF19510.1 176 6 (by decide))).trans hv19567))
                obtain ⟨v19569, hv19569⟩ : ∃ v, gI g0 176 2 = v := ⟨_, rfl⟩
                have tv19569 := congrArg Int32.toInt hv19569
                have x19570 := rX.e hI0 (b := 2) (hv19569)
                have x19571 := rX.e hI0 (b := 4) (hv19250)
                have x19572 := rX.e hI19232 (b := 2) (hv19452)
                have x19573 := rX.e hI19232 (b := 4) (hv19253)
                have x19574 := rX.e hI19442 (b := 2) ((((hF19443.1 176 2 (by decide)).trans (hF19259.1 176 2 (by decide))).trans hv19452))
                have x19575 := rX.e hI19442 (b := 4) (hv19450)
                obtain ⟨v19576, hv19576⟩ : ∃ v, gI g19231 176 6 = v := ⟨_, rfl⟩
                have tv19576 := congrArg Int32.toInt hv19576
                have x19577 := rX.e hI19442 (b := 6) ((((hF19443.1 176 6 (by decide)).trans (hF19259.1 176 6 (by decide))).trans hv19576))
                have x19578 := rX.e hI19490 (b := 2) (hv19504)
                have x19579 := rX.e hI19490 (b := 4) (hv19506)
                have x19580 := rX.e hI19490 (b := 6) (hv19567)
                have pr19581 : _ ∧ _ ∧ _ := o19497
                exact ⟨_, rfl, hI19562, hF19563, rfl, ⟨⟨(TKX.c o19496 (((gA_sI).trans (hF19510.2.1 175 (by decide)))) (((gI_sI_ne (by decide)).trans (hF19510.1 174 1 (by decide)))) (((gI_sI_ne (by decide)).trans (hF19510.1 176 3 (by decide)))) (((gI_sI_ne (by decide)).trans (hF19510.1 176 4 (by decide)))) (((gI_sI_ne (by decide)).trans (hF19510.1 176 5 (by decide))))), ((PRG0.tr ((PRG0.tr ((PRG0.tr (q19245) (PRG0.step q19243 tok19447_ (rX.c (b := 2) (((hF19443.1 176 2 (by decide)).trans (hF19259.1 176 2 (by decide))))) (by omega)))) (o19497))) (PRG0.fail 1 (rX.c (b := 4) (((gI_sI_ne (by decide)).trans (hF19510.1 176 4 (by decide))))) (fun _ => by omega) (fun _ => by omega) (by omega)))).le (by omega), PLO.rndF q19244 tok19447 (by omega) (by omega) (rX.c (b := 2) (((hF19443.1 176 2 (by decide)).trans (hF19259.1 176 2 (by decide))))) (rX.c (b := 6) (((hF19443.1 176 6 (by decide)).trans (hF19259.1 176 6 (by decide))))) (OPD.cast o19503 rfl (by omega)) (TKX.someC o19496 (((hF19491.2.1 175 (by decide)).trans ((hF19443.2.1 175 (by decide)).trans ((hF19259.2.1 175 (by decide)).trans (hF19233.2.1 175 (by decide)))))) (((hF19491.1 174 1 (by decide)).trans ((hF19443.1 174 1 (by decide)).trans ((hF19259.1 174 1 (by decide)).trans (hF19233.1 174 1 (by decide))))))).choose_spec o19499 (by omega) (fun _ => by omega) (fun _ => by omega) (by omega)⟩, (fun hz => absurd hz (by omega))⟩⟩
              · have c19564_ : x19229.toInt ≠ 0 := en_k_eq_f c19564
                refine At.enter rfl ?_
                refine r_aload_n e19237 ?_
                refine q_getR (Sh.ref hI19562.1 kx_176 rfl) ?_
                refine r_bipush 9 rfl ?_
                refine r_iconst 0 rfl ?_
                refine r_callV 134 rfl [.ref 177, .int 9, .int 0] [] (Nat.le_of_ble_eq_true rfl) rfl (T_X4_add_177 _ hI19562 9 0) ?_
                rintro _ _ ⟨g19582, rfl, hI19583, hF19584, v19585, rfl, hr19586⟩
                refine At.sti ?_
                have hF19587 := Fr.tr hF19563 hF19584 rfl rfl
                have zv19588 : (9 : Int32).toInt = 9 := rfl
                have zv19589 : (0 : Int32).toInt = 0 := rfl
                refine At.enter rfl ?_
                refine r_pop rfl ?_
                refine Ar.fall 135 rfl ?_
                refine At.enter rfl ?_
                refine r_vret ?_
                have x19590 := rX.e hI19583 (b := 2) (((hF19584.1 176 2 (by decide)).trans (gI_sI_eq hI19509.1 kx_176 rfl _)))
                have x19591 := rX.e hI19583 (b := 4) ((((hF19584.1 176 4 (by decide)).trans ((gI_sI_ne (by decide)).trans (hF19510.1 176 4 (by decide)))).trans hv19506))
                obtain ⟨v19592, hv19592⟩ : ∃ v, gI g19489 176 6 = v := ⟨_, rfl⟩
                have tv19592 := congrArg Int32.toInt hv19592
                have x19593 := rX.e hI19583 (b := 6) ((((hF19584.1 176 6 (by decide)).trans ((gI_sI_ne (by decide)).trans (hF19510.1 176 6 (by decide)))).trans hv19592))
                obtain ⟨v19594, hv19594⟩ : ∃ v, gI g0 176 2 = v := ⟨_, rfl⟩
                have tv19594 := congrArg Int32.toInt hv19594
                have x19595 := rX.e hI0 (b := 2) (hv19594)
                have x19596 := rX.e hI0 (b := 4) (hv19250)
                have x19597 := rX.e hI19232 (b := 2) (hv19452)
                have x19598 := rX.e hI19232 (b := 4) (hv19253)
                have x19599 := rX.e hI19442 (b := 2) ((((hF19443.1 176 2 (by decide)).trans (hF19259.1 176 2 (by decide))).trans hv19452))
                have x19600 := rX.e hI19442 (b := 4) (hv19450)
                obtain ⟨v19601, hv19601⟩ : ∃ v, gI g19231 176 6 = v := ⟨_, rfl⟩
                have tv19601 := congrArg Int32.toInt hv19601
                have x19602 := rX.e hI19442 (b := 6) ((((hF19443.1 176 6 (by decide)).trans (hF19259.1 176 6 (by decide))).trans hv19601))
                have x19603 := rX.e hI19490 (b := 2) (hv19504)
                have x19604 := rX.e hI19490 (b := 4) (hv19506)
                have x19605 := rX.e hI19490 (b := 6) (hv19592)
                have pr19606 : _ ∧ _ ∧ _ := o19497
                exact ⟨_, rfl, hI19583, hF19587, rfl, ⟨⟨(TKX.c o19496 (((hF19584.2.1 175 (by decide)).trans ((gA_sI).trans (hF19510.2.1 175 (by decide))))) (((hF19584.1 174 1 (by decide)).trans ((gI_sI_ne (by decide)).trans (hF19510.1 174 1 (by decide))))) (((hF19584.1 176 3 (by decide)).trans ((gI_sI_ne (by decide)).trans (hF19510.1 176 3 (by decide))))) (((hF19584.1 176 4 (by decide)).trans ((gI_sI_ne (by decide)).trans (hF19510.1 176 4 (by decide))))) (((hF19584.1 176 5 (by decide)).trans ((gI_sI_ne (by decide)).trans (hF19510.1 176 5 (by decide)))))), ((PRG0.tr ((PRG0.tr ((PRG0.tr (q19245) (PRG0.step q19243 tok19447_ (rX.c (b := 2) (((hF19443.1 176 2 (by decide)).trans (hF19259.1 176 2 (by decide))))) (by omega)))) (o19497))) (PRG0.fail 1 (rX.c (b := 4) (((hF19584.1 176 4 (by decide)).trans ((gI_sI_ne (by decide)).trans (hF19510.1 176 4 (by decide)))))) (fun _ => by omega) (fun _ => by omega) (by omega)))).le (by omega), PLO.rndF q19244 tok19447 (by omega) (by omega) (rX.c (b := 2) (((hF19443.1 176 2 (by decide)).trans (hF19259.1 176 2 (by decide))))) (rX.c (b := 6) (((hF19443.1 176 6 (by decide)).trans (hF19259.1 176 6 (by decide))))) (OPD.cast o19503 rfl (by omega)) (TKX.someC o19496 (((hF19491.2.1 175 (by decide)).trans ((hF19443.2.1 175 (by decide)).trans ((hF19259.2.1 175 (by decide)).trans (hF19233.2.1 175 (by decide)))))) (((hF19491.1 174 1 (by decide)).trans ((hF19443.1 174 1 (by decide)).trans ((hF19259.1 174 1 (by decide)).trans (hF19233.1 174 1 (by decide))))))).choose_spec o19499 (by omega) (fun _ => by omega) (fun _ => by omega) (by omega)⟩, (fun hz => absurd hz (by omega))⟩⟩
          · have c19516_ : v19511.toInt ≠ 0 := en_k_eq_f c19516
            have i19607 := BL.yes hb19515 (by omega)
            refine At.enter rfl ?_
            refine r_aload_n rfl ?_
            refine r_callV 12 rfl [.ref 176] [] (Nat.le_of_ble_eq_true rfl) rfl (T_X5_step_176 _ hI19509 (TKX.c o19496 ((hF19510.2.1 175 (by decide))) ((hF19510.1 174 1 (by decide))) ((hF19510.1 176 3 (by decide))) ((hF19510.1 176 4 (by decide))) ((hF19510.1 176 5 (by decide)))).1 (TKX.c o19496 ((hF19510.2.1 175 (by decide))) ((hF19510.1 174 1 (by decide))) ((hF19510.1 176 3 (by decide))) ((hF19510.1 176 4 (by decide))) ((hF19510.1 176 5 (by decide)))).2.1.le.2.1) ?_
            rintro _ _ ⟨g19608, rfl, hI19609, hF19610, rfl, hr19612⟩
            refine At.stn ?_
            have hF19613 := Fr.tr hF19513 hF19610 rfl rfl
            have tok19614_ := hr19612.2
            rw [TX.c ((hF19510.2.1 175 (by decide))), nX.c ((hF19510.1 174 1 (by decide))), rX.c (b := 5) ((hF19510.1 176 5 (by decide)))] at tok19614_
            have tok19614 := TKX.tok o19496 tok19614_
            rw [TX.c (((hF19491.2.1 175 (by decide)).trans ((hF19443.2.1 175 (by decide)).trans ((hF19259.2.1 175 (by decide)).trans (hF19233.2.1 175 (by decide)))))), nX.c (((hF19491.1 174 1 (by decide)).trans ((hF19443.1 174 1 (by decide)).trans ((hF19259.1 174 1 (by decide)).trans (hF19233.1 174 1 (by decide))))))] at tok19614
            have hT19615 := hr19612.1
            have x19616 := rX.e hI19509 (b := 4) (((hF19510.1 176 4 (by decide)).trans hv19506))
            obtain ⟨v19617, hv19617⟩ : ∃ v, gI g19608 176 4 = v := ⟨_, rfl⟩
            have rv19617 := RgF.at hI19609.2.1 (p := 176) (b := 4) rfl
            rw [hv19617] at rv19617
            dsimp only at rv19617
            have tv19617 := congrArg Int32.toInt hv19617
            have x19618 := rX.e hI19609 (b := 4) (hv19617)
            refine At.enter rfl ?_
            refine r_goto ?_
            refine At.enter rfl ?_
            refine q_vret ?_
            refine At.enter rfl ?_
            refine r_goto ?_
            refine At.enter rfl ?_
            refine r_iload_n e19239 ?_
            refine r_ifs 124 rfl (fun c19619 => ?_) (fun c19619 => ?_)
            · have c19619_ : x19229.toInt = 0 := en_k_eq_t c19619
              refine At.enter rfl ?_
              refine r_vret ?_
              have x19620 := rX.e hI19609 (b := 2) ((((hF19610.1 176 2 (by decide)).trans (hF19510.1 176 2 (by decide))).trans hv19504))
              have x19621 := rX.e hI19609 (b := 4) (hv19617)
              obtain ⟨v19622, hv19622⟩ : ∃ v, gI g19489 176 6 = v := ⟨_, rfl⟩
              have tv19622 := congrArg Int32.toInt hv19622
              have x19623 := rX.e hI19609 (b := 6) ((((hF19610.1 176 6 (by decide)).trans (hF19510.1 176 6 (by decide))).trans hv19622))
              obtain ⟨v19624, hv19624⟩ : ∃ v, gI g0 176 2 = v := ⟨_, rfl⟩
              have tv19624 := congrArg Int32.toInt hv19624
              have x19625 := rX.e hI0 (b := 2) (hv19624)
              have x19626 := rX.e hI0 (b := 4) (hv19250)
              have x19627 := rX.e hI19232 (b := 2) (hv19452)
              have x19628 := rX.e hI19232 (b := 4) (hv19253)
              have x19629 := rX.e hI19442 (b := 2) ((((hF19443.1 176 2 (by decide)).trans (hF19259.1 176 2 (by decide))).trans hv19452))
              have x19630 := rX.e hI19442 (b := 4) (hv19450)
              obtain ⟨v19631, hv19631⟩ : ∃ v, gI g19231 176 6 = v := ⟨_, rfl⟩
              have tv19631 := congrArg Int32.toInt hv19631
              have x19632 := rX.e hI19442 (b := 6) ((((hF19443.1 176 6 (by decide)).trans (hF19259.1 176 6 (by decide))).trans hv19631))
              have x19633 := rX.e hI19490 (b := 2) (hv19504)
              have x19634 := rX.e hI19490 (b := 4) (hv19506)
              have x19635 := rX.e hI19490 (b := 6) (hv19622)
              have x19636 := rX.e hI19609 (b := 2) ((((hF19610.1 176 2 (by decide)).trans (hF19510.1 176 2 (by decide))).trans hv19504))
              have x19637 := rX.e hI19609 (b := 4) (hv19617)
              have x19638 := rX.e hI19609 (b := 6) ((((hF19610.1 176 6 (by decide)).trans (hF19510.1 176 6 (by decide))).trans hv19622))
              have pr19639 : _ ∧ _ ∧ _ := o19497
              have x19640 := rX.e hI19232 (b := 2) (hv19452)
              have x19641 := rX.e hI19232 (b := 4) (hv19253)
              have x19642 := rX.e hI19442 (b := 2) ((((hF19443.1 176 2 (by decide)).trans (hF19259.1 176 2 (by decide))).trans hv19452))
              have x19643 := rX.e hI19442 (b := 4) (hv19450)
              have x19644 := rX.e hI19490 (b := 2) (hv19504)
              have x19645 := rX.e hI19490 (b := 4) (hv19506)
              have x19646 := rX.e hI19609 (b := 2) ((((hF19610.1 176 2 (by decide)).trans (hF19510.1 176 2 (by decide))).trans hv19504))
              have x19647 := rX.e hI19609 (b := 4) (hv19617)
              exact ⟨_, rfl, hI19609, hF19613, rfl, ⟨⟨hT19615, ((PRG0.tr ((PRG0.tr ((PRG0.tr ((PRG0.tr (q19245) (PRG0.step q19243 tok19447_ (rX.c (b := 2) (((hF19443.1 176 2 (by decide)).trans (hF19259.1 176 2 (by decide))))) (by omega)))) (o19497))) (PRG0.step o19496 tok19614_ (rX.c (b := 2) (((hF19610.1 176 2 (by decide)).trans (hF19510.1 176 2 (by decide))))) (by omega)))) (PRG0.eq rfl rfl))).le (by omega), PLO.rnd q19244 tok19447 (by omega) (by omega) (rX.c (b := 2) (((hF19443.1 176 2 (by decide)).trans (hF19259.1 176 2 (by decide))))) (rX.c (b := 6) (((hF19443.1 176 6 (by decide)).trans (hF19259.1 176 6 (by decide))))) (OPD.cast o19503 rfl (by omega)) tok19614 (by omega) (rX.c (b := 2) (((hF19610.1 176 2 (by decide)).trans (hF19510.1 176 2 (by decide))))) (rX.c (b := 6) (((hF19610.1 176 6 (by decide)).trans (hF19510.1 176 6 (by decide))))) rfl rfl rfl⟩, (by first | exact (fun hz => absurd hz (by omega)) | exact PLG.rnd q19247 tok19447 (by omega) (TOK_lt tok19447 (by omega)) (SCX.x (SCX.mk (((hF19443.2.1 178 (by decide)).trans (hF19259.2.1 178 (by decide)))) (((hF19443.2.1 179 (by decide)).trans (hF19259.2.1 179 (by decide)))) (((hF19443.1 177 0 (by decide)).trans (hF19259.1 177 0 (by decide))))) (rX.c (b := 6) (((hF19443.1 176 6 (by decide)).trans (hF19259.1 176 6 (by decide)))))) (GPX.k gx19502 (by decide) (by decide) (by decide) (by decide)) tok19614 (by omega) (TOK_lt tok19614 (by omega)) (SCX.x (SCX.mk (((hF19610.2.1 178 (by decide)).trans (hF19510.2.1 178 (by decide)))) (((hF19610.2.1 179 (by decide)).trans (hF19510.2.1 179 (by decide)))) (((hF19610.1 177 0 (by decide)).trans (hF19510.1 177 0 (by decide))))) (rX.c (b := 6) (((hF19610.1 176 6 (by decide)).trans (hF19510.1 176 6 (by decide)))))) (TKX.someC hT19615 (((hF19610.2.1 175 (by decide)).trans ((hF19510.2.1 175 (by decide)).trans ((hF19491.2.1 175 (by decide)).trans ((hF19443.2.1 175 (by decide)).trans ((hF19259.2.1 175 (by decide)).trans (hF19233.2.1 175 (by decide)))))))) (((hF19610.1 174 1 (by decide)).trans ((hF19510.1 174 1 (by decide)).trans ((hF19491.1 174 1 (by decide)).trans ((hF19443.1 174 1 (by decide)).trans ((hF19259.1 174 1 (by decide)).trans (hF19233.1 174 1 (by decide))))))))).choose_spec (fun _ _ => Or.inl ⟨by omega, (SCX.x SCX.rf rfl)⟩) rfl (fun z => by omega) (fun z => by omega))⟩⟩
            · have c19619_ : x19229.toInt ≠ 0 := en_k_eq_f c19619
              refine At.enter rfl ?_
              refine r_aload_n e19237 ?_
              refine q_getR (Sh.ref hI19609.1 kx_176 rfl) ?_
              refine r_bipush 9 rfl ?_
              refine r_iconst 0 rfl ?_
              refine r_callV 134 rfl [.ref 177, .int 9, .int 0] [] (Nat.le_of_ble_eq_true rfl) rfl (T_X4_add_177 _ hI19609 9 0) ?_
              rintro _ _ ⟨g19648, rfl, hI19649, hF19650, v19651, rfl, hr19652⟩
              refine At.sti ?_
              have hF19653 := Fr.tr hF19613 hF19650 rfl rfl
              have zv19654 : (9 : Int32).toInt = 9 := rfl
              have zv19655 : (0 : Int32).toInt = 0 := rfl
              refine At.enter rfl ?_
              refine r_pop rfl ?_
              refine Ar.fall 135 rfl ?_
              refine At.enter rfl ?_
              refine r_vret ?_
              have x19656 := rX.e hI19649 (b := 2) ((((hF19650.1 176 2 (by decide)).trans ((hF19610.1 176 2 (by decide)).trans (hF19510.1 176 2 (by decide)))).trans hv19504))
              have x19657 := rX.e hI19649 (b := 4) (((hF19650.1 176 4 (by decide)).trans hv19617))
              obtain ⟨v19658, hv19658⟩ : ∃ v, gI g19489 176 6 = v := ⟨_, rfl⟩
              have tv19658 := congrArg Int32.toInt hv19658
              have x19659 := rX.e hI19649 (b := 6) ((((hF19650.1 176 6 (by decide)).trans ((hF19610.1 176 6 (by decide)).trans (hF19510.1 176 6 (by decide)))).trans hv19658))
              obtain ⟨v19660, hv19660⟩ : ∃ v, gI g0 176 2 = v := ⟨_, rfl⟩
              have tv19660 := congrArg Int32.toInt hv19660
              have x19661 := rX.e hI0 (b := 2) (hv19660)
              have x19662 := rX.e hI0 (b := 4) (hv19250)
              have x19663 := rX.e hI19232 (b := 2) (hv19452)
              have x19664 := rX.e hI19232 (b := 4) (hv19253)
              have x19665 := rX.e hI19442 (b := 2) ((((hF19443.1 176 2 (by decide)).trans (hF19259.1 176 2 (by decide))).trans hv19452))
              have x19666 := rX.e hI19442 (b := 4) (hv19450)
              obtain ⟨v19667, hv19667⟩ : ∃ v, gI g19231 176 6 = v := ⟨_, rfl⟩
              have tv19667 := congrArg Int32.toInt hv19667
              have x19668 := rX.e hI19442 (b := 6) ((((hF19443.1 176 6 (by decide)).trans (hF19259.1 176 6 (by decide))).trans hv19667))
              have x19669 := rX.e hI19490 (b := 2) (hv19504)
              have x19670 := rX.e hI19490 (b := 4) (hv19506)
              have x19671 := rX.e hI19490 (b := 6) (hv19658)
              have x19672 := rX.e hI19609 (b := 2) ((((hF19610.1 176 2 (by decide)).trans (hF19510.1 176 2 (by decide))).trans hv19504))
              have x19673 := rX.e hI19609 (b := 4) (hv19617)
              have x19674 := rX.e hI19609 (b := 6) ((((hF19610.1 176 6 (by decide)).trans (hF19510.1 176 6 (by decide))).trans hv19658))
              have pr19675 : _ ∧ _ ∧ _ := o19497
              have x19676 := rX.e hI19232 (b := 2) (hv19452)
              have x19677 := rX.e hI19232 (b := 4) (hv19253)
              have x19678 := rX.e hI19442 (b := 2) ((((hF19443.1 176 2 (by decide)).trans (hF19259.1 176 2 (by decide))).trans hv19452))
              have x19679 := rX.e hI19442 (b := 4) (hv19450)
              have x19680 := rX.e hI19490 (b := 2) (hv19504)
              have x19681 := rX.e hI19490 (b := 4) (hv19506)
              have x19682 := rX.e hI19609 (b := 2) ((((hF19610.1 176 2 (by decide)).trans (hF19510.1 176 2 (by decide))).trans hv19504))
              have x19683 := rX.e hI19609 (b := 4) (hv19617)
              exact ⟨_, rfl, hI19649, hF19653, rfl, ⟨⟨(TKX.c hT19615 ((hF19650.2.1 175 (by decide))) ((hF19650.1 174 1 (by decide))) ((hF19650.1 176 3 (by decide))) ((hF19650.1 176 4 (by decide))) ((hF19650.1 176 5 (by decide)))), ((PRG0.tr ((PRG0.tr ((PRG0.tr ((PRG0.tr (q19245) (PRG0.step q19243 tok19447_ (rX.c (b := 2) (((hF19443.1 176 2 (by decide)).trans (hF19259.1 176 2 (by decide))))) (by omega)))) (o19497))) (PRG0.step o19496 tok19614_ (rX.c (b := 2) (((hF19610.1 176 2 (by decide)).trans (hF19510.1 176 2 (by decide))))) (by omega)))) (PRG0.eq (rX.c (b := 4) ((hF19650.1 176 4 (by decide)))) (rX.c (b := 2) ((hF19650.1 176 2 (by decide))))))).le (by omega), PLO.rnd q19244 tok19447 (by omega) (by omega) (rX.c (b := 2) (((hF19443.1 176 2 (by decide)).trans (hF19259.1 176 2 (by decide))))) (rX.c (b := 6) (((hF19443.1 176 6 (by decide)).trans (hF19259.1 176 6 (by decide))))) (OPD.cast o19503 rfl (by omega)) tok19614 (by omega) (rX.c (b := 2) (((hF19610.1 176 2 (by decide)).trans (hF19510.1 176 2 (by decide))))) (rX.c (b := 6) (((hF19610.1 176 6 (by decide)).trans (hF19510.1 176 6 (by decide))))) (rX.c (b := 2) ((hF19650.1 176 2 (by decide)))) (rX.c (b := 4) ((hF19650.1 176 4 (by decide)))) (rX.c (b := 6) ((hF19650.1 176 6 (by decide))))⟩, (by first | exact (fun hz => absurd hz (by omega)) | exact PLG.rnd q19247 tok19447 (by omega) (TOK_lt tok19447 (by omega)) (SCX.x (SCX.mk (((hF19443.2.1 178 (by decide)).trans (hF19259.2.1 178 (by decide)))) (((hF19443.2.1 179 (by decide)).trans (hF19259.2.1 179 (by decide)))) (((hF19443.1 177 0 (by decide)).trans (hF19259.1 177 0 (by decide))))) (rX.c (b := 6) (((hF19443.1 176 6 (by decide)).trans (hF19259.1 176 6 (by decide)))))) (GPX.k gx19502 (by decide) (by decide) (by decide) (by decide)) tok19614 (by omega) (TOK_lt tok19614 (by omega)) (SCX.x (SCX.mk (((hF19610.2.1 178 (by decide)).trans (hF19510.2.1 178 (by decide)))) (((hF19610.2.1 179 (by decide)).trans (hF19510.2.1 179 (by decide)))) (((hF19610.1 177 0 (by decide)).trans (hF19510.1 177 0 (by decide))))) (rX.c (b := 6) (((hF19610.1 176 6 (by decide)).trans (hF19510.1 176 6 (by decide)))))) (TKX.someC hT19615 (((hF19610.2.1 175 (by decide)).trans ((hF19510.2.1 175 (by decide)).trans ((hF19491.2.1 175 (by decide)).trans ((hF19443.2.1 175 (by decide)).trans ((hF19259.2.1 175 (by decide)).trans (hF19233.2.1 175 (by decide)))))))) (((hF19610.1 174 1 (by decide)).trans ((hF19510.1 174 1 (by decide)).trans ((hF19491.1 174 1 (by decide)).trans ((hF19443.1 174 1 (by decide)).trans ((hF19259.1 174 1 (by decide)).trans (hF19233.1 174 1 (by decide))))))))).choose_spec (fun _ hl => Or.inr ⟨by omega, ADP.x (ADP.fr hr19652.2 SCX.rf SCX.rf) (by have hl2 := hl (by omega); omega) (rX.c (b := 6) ((hF19650.1 176 6 (by decide))))⟩) (rX.c (b := 4) ((hF19650.1 176 4 (by decide)))) (fun z => by omega) (fun z => by omega))⟩⟩
      · have c19440_ : a1.toInt ≥ 8 := en_i_lt_f c19440
        refine At.enter rfl ?_
        refine r_aload_n rfl ?_
        refine q_inlV 10 rfl [.ref 176] [] (Nat.le_of_ble_eq_true rfl) rfl ?_
        refine Ev.mk rfl rfl ⟨Nat.le_of_ble_eq_true rfl, Or.inr (q_rc hI19258.1 kx_176 rfl)⟩ ?_
        show At _ none _ _ (0, [(0, .ref 176)], [], (_, _)) _
        refine At.enter rfl ?_
        refine r_aload_n rfl ?_
        obtain ⟨v19684, hv19684⟩ : ∃ v, gI g19231 176 2 = v := ⟨_, rfl⟩
        refine q_getI (Sh.int hI19258.1 kx_176 rfl) v19684 ((hF19259.1 176 2 (by decide)).trans hv19684) ?_
        refine r_iconst (-1) rfl ?_
        refine r_ics 8 rfl (fun c19685 => ?_) (fun c19685 => ?_)
        · have c19685_ : v19684.toInt ≠ (-1) := en_i_ne_t c19685
          refine At.enter rfl ?_
          refine q_vret ?_
          refine At.enter rfl ?_
          refine r_goto ?_
          refine At.enter rfl ?_
          refine q_vret ?_
          refine At.enter rfl ?_
          refine r_aload_n e19237 ?_
          refine q_getI (Sh.int hI19258.1 kx_176 rfl) v19684 ((hF19259.1 176 2 (by decide)).trans hv19684) ?_
          refine r_iconst (-1) rfl ?_
          refine r_ics 62 rfl (fun c19686 => ?_) (fun c19686 => ?_)
          · have c19686_ : v19684.toInt ≠ (-1) := en_i_ne_t c19686
            refine At.enter rfl ?_
            refine r_iload_n e19239 ?_
            refine r_ifs 124 rfl (fun c19687 => ?_) (fun c19687 => ?_)
            · have c19687_ : x19229.toInt = 0 := en_k_eq_t c19687
              refine At.enter rfl ?_
              refine r_vret ?_
              have x19688 := rX.e hI19258 (b := 2) (((hF19259.1 176 2 (by decide)).trans hv19684))
              have x19689 := rX.e hI19258 (b := 4) (((hF19259.1 176 4 (by decide)).trans hv19253))
              obtain ⟨v19690, hv19690⟩ : ∃ v, gI g19231 176 6 = v := ⟨_, rfl⟩
              have tv19690 := congrArg Int32.toInt hv19690
              have x19691 := rX.e hI19258 (b := 6) (((hF19259.1 176 6 (by decide)).trans hv19690))
              obtain ⟨v19692, hv19692⟩ : ∃ v, gI g0 176 2 = v := ⟨_, rfl⟩
              have tv19692 := congrArg Int32.toInt hv19692
              have x19693 := rX.e hI0 (b := 2) (hv19692)
              have x19694 := rX.e hI0 (b := 4) (hv19250)
              have x19695 := rX.e hI19232 (b := 2) (hv19684)
              have x19696 := rX.e hI19232 (b := 4) (hv19253)
              exact ⟨_, rfl, hI19258, hF19262, rfl, ⟨⟨(TKX.c q19243 ((hF19259.2.1 175 (by decide))) ((hF19259.1 174 1 (by decide))) ((hF19259.1 176 3 (by decide))) ((hF19259.1 176 4 (by decide))) ((hF19259.1 176 5 (by decide)))), ((PRG0.tr (q19245) (PRG0.fail 1 (rX.c (b := 4) ((hF19259.1 176 4 (by decide)))) (fun _ => by omega) (fun _ => by omega) (by omega)))).le (by omega), PLO.deep q19244 (TKX.someC q19243 ((hF19233.2.1 175 (by decide))) ((hF19233.1 174 1 (by decide)))).choose_spec (by omega) (by omega) (fun _ => by omega) (fun _ => by omega) (by omega)⟩, (fun hz => absurd hz (by omega))⟩⟩
            · have c19687_ : x19229.toInt ≠ 0 := en_k_eq_f c19687
              refine At.enter rfl ?_
              refine r_aload_n e19237 ?_
              refine q_getR (Sh.ref hI19258.1 kx_176 rfl) ?_
              refine r_bipush 9 rfl ?_
              refine r_iconst 0 rfl ?_
              refine r_callV 134 rfl [.ref 177, .int 9, .int 0] [] (Nat.le_of_ble_eq_true rfl) rfl (T_X4_add_177 _ hI19258 9 0) ?_
              rintro _ _ ⟨g19697, rfl, hI19698, hF19699, v19700, rfl, hr19701⟩
              refine At.sti ?_
              have hF19702 := Fr.tr hF19262 hF19699 rfl rfl
              have zv19703 : (9 : Int32).toInt = 9 := rfl
              have zv19704 : (0 : Int32).toInt = 0 := rfl
              refine At.enter rfl ?_
              refine r_pop rfl ?_
              refine Ar.fall 135 rfl ?_
              refine At.enter rfl ?_
              refine r_vret ?_
              have x19705 := rX.e hI19698 (b := 2) ((((hF19699.1 176 2 (by decide)).trans (hF19259.1 176 2 (by decide))).trans hv19684))
              have x19706 := rX.e hI19698 (b := 4) ((((hF19699.1 176 4 (by decide)).trans (hF19259.1 176 4 (by decide))).trans hv19253))
              obtain ⟨v19707, hv19707⟩ : ∃ v, gI g19231 176 6 = v := ⟨_, rfl⟩
              have tv19707 := congrArg Int32.toInt hv19707
              have x19708 := rX.e hI19698 (b := 6) ((((hF19699.1 176 6 (by decide)).trans (hF19259.1 176 6 (by decide))).trans hv19707))
              obtain ⟨v19709, hv19709⟩ : ∃ v, gI g0 176 2 = v := ⟨_, rfl⟩
              have tv19709 := congrArg Int32.toInt hv19709
              have x19710 := rX.e hI0 (b := 2) (hv19709)
              have x19711 := rX.e hI0 (b := 4) (hv19250)
              have x19712 := rX.e hI19232 (b := 2) (hv19684)
              have x19713 := rX.e hI19232 (b := 4) (hv19253)
              exact ⟨_, rfl, hI19698, hF19702, rfl, ⟨⟨(TKX.c q19243 (((hF19699.2.1 175 (by decide)).trans (hF19259.2.1 175 (by decide)))) (((hF19699.1 174 1 (by decide)).trans (hF19259.1 174 1 (by decide)))) (((hF19699.1 176 3 (by decide)).trans (hF19259.1 176 3 (by decide)))) (((hF19699.1 176 4 (by decide)).trans (hF19259.1 176 4 (by decide)))) (((hF19699.1 176 5 (by decide)).trans (hF19259.1 176 5 (by decide))))), ((PRG0.tr (q19245) (PRG0.fail 1 (rX.c (b := 4) (((hF19699.1 176 4 (by decide)).trans (hF19259.1 176 4 (by decide))))) (fun _ => by omega) (fun _ => by omega) (by omega)))).le (by omega), PLO.deep q19244 (TKX.someC q19243 ((hF19233.2.1 175 (by decide))) ((hF19233.1 174 1 (by decide)))).choose_spec (by omega) (by omega) (fun _ => by omega) (fun _ => by omega) (by omega)⟩, (fun hz => absurd hz (by omega))⟩⟩
          · have c19686_ : v19684.toInt = (-1) := en_i_ne_f c19686
            refine At.enter rfl ?_
            refine r_aload_n e19237 ?_
            refine r_iconst 0 rfl ?_
            refine r_iload_n e19238 ?_
            refine r_iconst 1 rfl ?_
            refine q_iadd (a1.toInt + 1) rfl (by omega) (fun v19714 hv19714 => ?_)
            have zv19715 : (0 : Int32).toInt = 0 := rfl
            refine r_callV 70 rfl [.ref 176, .int 0, .int v19714] [] (Nat.le_of_ble_eq_true rfl) rfl (IHJ _ (by omega) hI19258 0 (by decide) v19714 (by omega) (by omega) (TKX.c q19243 ((hF19259.2.1 175 (by decide))) ((hF19259.1 174 1 (by decide))) ((hF19259.1 176 3 (by decide))) ((hF19259.1 176 4 (by decide))) ((hF19259.1 176 5 (by decide))))) ?_
            rintro _ _ ⟨g19716, rfl, hI19717, hF19718, rfl, hr19720⟩
            refine At.stn ?_
            have hF19721 := Fr.tr hF19262 hF19718 rfl rfl
            have zv19722 : (0 : Int32).toInt = 0 := rfl
            have x19727 := rX.e hI19258 (b := 2) (((hF19259.1 176 2 (by decide)).trans hv19684))
            have x19728 := rX.e hI19258 (b := 4) (((hF19259.1 176 4 (by decide)).trans hv19253))
            obtain ⟨o19723, o19724, o19725, o19726⟩ := hr19720.1
            have gx19729 := GPX.fr hr19720.2 ((hF19259.2.1 178 (by decide))) ((hF19259.2.1 179 (by decide))) ((hF19259.1 177 0 (by decide))) (rX.c (b := 4) ((hF19259.1 176 4 (by decide)))) (rX.c (b := 6) ((hF19259.1 176 6 (by decide))))
            rw [TX.ci hI19258 (((hF19259.2.1 175 (by decide)).trans (hF19233.2.1 175 (by decide)))), nX.ci hI19258 (((hF19259.1 174 1 (by decide)).trans (hF19233.1 174 1 (by decide))))] at gx19729
            have o19730 := OPD.tc o19725 (((hF19259.2.1 175 (by decide)).trans (hF19233.2.1 175 (by decide)))) (((hF19259.1 174 1 (by decide)).trans (hF19233.1 174 1 (by decide))))
            have o19731 := PRG0.fr o19724 (rX.c (b := 2) ((hF19259.1 176 2 (by decide)))) (rX.c (b := 4) ((hF19259.1 176 4 (by decide))))
            have o19732 := OPD.fr o19730 (rX.c (b := 2) ((hF19259.1 176 2 (by decide)))) (rX.c (b := 4) ((hF19259.1 176 4 (by decide)))) (rX.c (b := 6) ((hF19259.1 176 6 (by decide))))
            obtain ⟨v19733, hv19733⟩ : ∃ v, gI g19716 176 2 = v := ⟨_, rfl⟩
            have tv19733 := congrArg Int32.toInt hv19733
            have x19734 := rX.e hI19717 (b := 2) (hv19733)
            obtain ⟨v19735, hv19735⟩ : ∃ v, gI g19716 176 4 = v := ⟨_, rfl⟩
            have rv19735 := RgF.at hI19717.2.1 (p := 176) (b := 4) rfl
            rw [hv19735] at rv19735
            dsimp only at rv19735
            have tv19735 := congrArg Int32.toInt hv19735
            have x19736 := rX.e hI19717 (b := 4) (hv19735)
            refine At.enter rfl ?_
            refine r_aload_n e19237 ?_
            refine r_bipush 41 rfl ?_
            refine q_inlV 76 rfl [.ref 176, .int 41] [] (Nat.le_of_ble_eq_true rfl) rfl ?_
            refine Ev.mk rfl rfl ⟨Nat.le_of_ble_eq_true rfl, Or.inr (q_rc hI19717.1 kx_176 rfl)⟩ ?_
            show At _ none _ _ (0, [(0, .ref 176), (1, .int 41)], [], (_, _)) _
            refine At.enter rfl ?_
            refine r_aload_n rfl ?_
            refine r_iload_n rfl ?_
            refine r_callV 5 rfl [.ref 176, .int 41] [] (Nat.le_of_ble_eq_true rfl) rfl (T_X5_isSingle_176 _ hI19717 41 (by decide)) ?_
            rintro _ _ ⟨g19737, rfl, hI19738, hF19739, v19740, rfl, hr19741⟩
            refine At.sti ?_
            have hF19742 := Fr.tr hF19721 hF19739 rfl rfl
            have zv19743 : (41 : Int32).toInt = 41 := rfl
            have hb19744 : BL (CDX g19716 = 9) v19740.toInt := ISX.code (c := 9) hr19741.2 o19723 (isSC_d (by omega)) (by decide)
            refine At.enter rfl ?_
            refine r_ifs 8 rfl (fun c19745 => ?_) (fun c19745 => ?_)
            · have c19745_ : v19740.toInt = 0 := en_k_eq_t c19745
              have i19746 := BL.no hb19744 (by omega)
              refine At.enter rfl ?_
              refine r_aload_n rfl ?_
              refine q_inlV 19 rfl [.ref 176] [] (Nat.le_of_ble_eq_true rfl) rfl ?_
              refine Ev.mk rfl rfl ⟨Nat.le_of_ble_eq_true rfl, Or.inr (q_rc hI19738.1 kx_176 rfl)⟩ ?_
              show At _ none _ _ (0, [(0, .ref 176)], [], (_, _)) _
              refine At.enter rfl ?_
              refine r_aload_n rfl ?_
              refine q_getI (Sh.int hI19738.1 kx_176 rfl) v19733 ((hF19739.1 176 2 (by decide)).trans hv19733) ?_
              refine r_iconst (-1) rfl ?_
              refine r_ics 8 rfl (fun c19747 => ?_) (fun c19747 => ?_)
              · have c19747_ : v19733.toInt ≠ (-1) := en_i_ne_t c19747
                refine At.enter rfl ?_
                refine q_vret ?_
                refine At.enter rfl ?_
                refine q_vret ?_
                refine At.enter rfl ?_
                refine r_goto ?_
                refine At.enter rfl ?_
                refine r_iload_n e19239 ?_
                refine r_ifs 124 rfl (fun c19748 => ?_) (fun c19748 => ?_)
                · have c19748_ : x19229.toInt = 0 := en_k_eq_t c19748
                  refine At.enter rfl ?_
                  refine r_vret ?_
                  have x19749 := rX.e hI19738 (b := 2) (((hF19739.1 176 2 (by decide)).trans hv19733))
                  have x19750 := rX.e hI19738 (b := 4) (((hF19739.1 176 4 (by decide)).trans hv19735))
                  obtain ⟨v19751, hv19751⟩ : ∃ v, gI g19716 176 6 = v := ⟨_, rfl⟩
                  have tv19751 := congrArg Int32.toInt hv19751
                  have x19752 := rX.e hI19738 (b := 6) (((hF19739.1 176 6 (by decide)).trans hv19751))
                  obtain ⟨v19753, hv19753⟩ : ∃ v, gI g0 176 2 = v := ⟨_, rfl⟩
                  have tv19753 := congrArg Int32.toInt hv19753
                  have x19754 := rX.e hI0 (b := 2) (hv19753)
                  have x19755 := rX.e hI0 (b := 4) (hv19250)
                  have x19756 := rX.e hI19232 (b := 2) (hv19684)
                  have x19757 := rX.e hI19232 (b := 4) (hv19253)
                  have x19758 := rX.e hI19717 (b := 2) (hv19733)
                  have x19759 := rX.e hI19717 (b := 4) (hv19735)
                  have x19760 := rX.e hI19717 (b := 6) (hv19751)
                  have pr19761 : _ ∧ _ ∧ _ := o19731
                  exact ⟨_, rfl, hI19738, hF19742, rfl, ⟨(False.elim (by omega)), (fun hz => absurd hz (by omega))⟩⟩
                · have c19748_ : x19229.toInt ≠ 0 := en_k_eq_f c19748
                  refine At.enter rfl ?_
                  refine r_aload_n e19237 ?_
                  refine q_getR (Sh.ref hI19738.1 kx_176 rfl) ?_
                  refine r_bipush 9 rfl ?_
                  refine r_iconst 0 rfl ?_
                  refine r_callV 134 rfl [.ref 177, .int 9, .int 0] [] (Nat.le_of_ble_eq_true rfl) rfl (T_X4_add_177 _ hI19738 9 0) ?_
                  rintro _ _ ⟨g19762, rfl, hI19763, hF19764, v19765, rfl, hr19766⟩
                  refine At.sti ?_
                  have hF19767 := Fr.tr hF19742 hF19764 rfl rfl
                  have zv19768 : (9 : Int32).toInt = 9 := rfl
                  have zv19769 : (0 : Int32).toInt = 0 := rfl
                  refine At.enter rfl ?_
                  refine r_pop rfl ?_
                  refine Ar.fall 135 rfl ?_
                  refine At.enter rfl ?_
                  refine r_vret ?_
                  have x19770 := rX.e hI19763 (b := 2) ((((hF19764.1 176 2 (by decide)).trans (hF19739.1 176 2 (by decide))).trans hv19733))
                  have x19771 := rX.e hI19763 (b := 4) ((((hF19764.1 176 4 (by decide)).trans (hF19739.1 176 4 (by decide))).trans hv19735))
                  obtain ⟨v19772, hv19772⟩ : ∃ v, gI g19716 176 6 = v := ⟨_, rfl⟩
                  have tv19772 := congrArg Int32.toInt hv19772
                  have x19773 := rX.e hI19763 (b := 6) ((((hF19764.1 176 6 (by decide)).trans (hF19739.1 176 6 (by decide))).trans hv19772))
                  obtain ⟨v19774, hv19774⟩ : ∃ v, gI g0 176 2 = v := ⟨_, rfl⟩
                  have tv19774 := congrArg Int32.toInt hv19774
                  have x19775 := rX.e hI0 (b := 2) (hv19774)
                  have x19776 := rX.e hI0 (b := 4) (hv19250)
                  have x19777 := rX.e hI19232 (b := 2) (hv19684)
                  have x19778 := rX.e hI19232 (b := 4) (hv19253)
                  have x19779 := rX.e hI19717 (b := 2) (hv19733)
                  have x19780 := rX.e hI19717 (b := 4) (hv19735)
                  have x19781 := rX.e hI19717 (b := 6) (hv19772)
                  have pr19782 : _ ∧ _ ∧ _ := o19731
                  exact ⟨_, rfl, hI19763, hF19767, rfl, ⟨(False.elim (by omega)), (fun hz => absurd hz (by omega))⟩⟩
              · have c19747_ : v19733.toInt = (-1) := en_i_ne_f c19747
                refine At.enter rfl ?_
                refine r_aload_n rfl ?_
                refine r_aload_n rfl ?_
                refine q_getI (Sh.int hI19738.1 kx_176 rfl) v19735 ((hF19739.1 176 4 (by decide)).trans hv19735) ?_
                refine q_putI (Sh.int hI19738.1 kx_176 rfl) rfl ?_
                have hI19783 := HI.wI0 hI19738 kx_176 rfl (p := 176) (b := 2) (v := v19735) rfl
                have hF19784 := Fr.wI (p := 176) (b := 2) (v := v19735) hF19742 rfl
                refine Ar.fall 16 rfl ?_
                refine At.enter rfl ?_
                refine q_vret ?_
                refine At.enter rfl ?_
                refine q_vret ?_
                refine At.enter rfl ?_
                refine r_goto ?_
                refine At.enter rfl ?_
                refine r_iload_n e19239 ?_
                refine r_ifs 124 rfl (fun c19785 => ?_) (fun c19785 => ?_)
                · have c19785_ : x19229.toInt = 0 := en_k_eq_t c19785
                  refine At.enter rfl ?_
                  refine r_vret ?_
                  have x19786 := rX.e hI19783 (b := 2) ((gI_sI_eq hI19738.1 kx_176 rfl _))
                  have x19787 := rX.e hI19783 (b := 4) ((((gI_sI_ne (by decide)).trans (hF19739.1 176 4 (by decide))).trans hv19735))
                  obtain ⟨v19788, hv19788⟩ : ∃ v, gI g19716 176 6 = v := ⟨_, rfl⟩
                  have tv19788 := congrArg Int32.toInt hv19788
                  have x19789 := rX.e hI19783 (b := 6) ((((gI_sI_ne (by decide)).trans (hF19739.1 176 6 (by decide))).trans hv19788))
                  obtain ⟨v19790, hv19790⟩ : ∃ v, gI g0 176 2 = v := ⟨_, rfl⟩
                  have tv19790 := congrArg Int32.toInt hv19790
                  have x19791 := rX.e hI0 (b := 2) (hv19790)
                  have x19792 := rX.e hI0 (b := 4) (hv19250)
                  have x19793 := rX.e hI19232 (b := 2) (hv19684)
                  have x19794 := rX.e hI19232 (b := 4) (hv19253)
                  have x19795 := rX.e hI19717 (b := 2) (hv19733)
                  have x19796 := rX.e hI19717 (b := 4) (hv19735)
                  have x19797 := rX.e hI19717 (b := 6) (hv19788)
                  have pr19798 : _ ∧ _ ∧ _ := o19731
                  exact ⟨_, rfl, hI19783, hF19784, rfl, ⟨(False.elim (by omega)), (fun hz => absurd hz (by omega))⟩⟩
                · have c19785_ : x19229.toInt ≠ 0 := en_k_eq_f c19785
                  refine At.enter rfl ?_
                  refine r_aload_n e19237 ?_
                  refine q_getR (Sh.ref hI19783.1 kx_176 rfl) ?_
                  refine r_bipush 9 rfl ?_
                  refine r_iconst 0 rfl ?_
                  refine r_callV 134 rfl [.ref 177, .int 9, .int 0] [] (Nat.le_of_ble_eq_true rfl) rfl (T_X4_add_177 _ hI19783 9 0) ?_
                  rintro _ _ ⟨g19799, rfl, hI19800, hF19801, v19802, rfl, hr19803⟩
                  refine At.sti ?_
                  have hF19804 := Fr.tr hF19784 hF19801 rfl rfl
                  have zv19805 : (9 : Int32).toInt = 9 := rfl
                  have zv19806 : (0 : Int32).toInt = 0 := rfl
                  refine At.enter rfl ?_
                  refine r_pop rfl ?_
                  refine Ar.fall 135 rfl ?_
                  refine At.enter rfl ?_
                  refine r_vret ?_
                  have x19807 := rX.e hI19800 (b := 2) (((hF19801.1 176 2 (by decide)).trans (gI_sI_eq hI19738.1 kx_176 rfl _)))
                  have x19808 := rX.e hI19800 (b := 4) ((((hF19801.1 176 4 (by decide)).trans ((gI_sI_ne (by decide)).trans (hF19739.1 176 4 (by decide)))).trans hv19735))
                  obtain ⟨v19809, hv19809⟩ : ∃ v, gI g19716 176 6 = v := ⟨_, rfl⟩
                  have tv19809 := congrArg Int32.toInt hv19809
                  have x19810 := rX.e hI19800 (b := 6) ((((hF19801.1 176 6 (by decide)).trans ((gI_sI_ne (by decide)).trans (hF19739.1 176 6 (by decide)))).trans hv19809))
                  obtain ⟨v19811, hv19811⟩ : ∃ v, gI g0 176 2 = v := ⟨_, rfl⟩
                  have tv19811 := congrArg Int32.toInt hv19811
                  have x19812 := rX.e hI0 (b := 2) (hv19811)
                  have x19813 := rX.e hI0 (b := 4) (hv19250)
                  have x19814 := rX.e hI19232 (b := 2) (hv19684)
                  have x19815 := rX.e hI19232 (b := 4) (hv19253)
                  have x19816 := rX.e hI19717 (b := 2) (hv19733)
                  have x19817 := rX.e hI19717 (b := 4) (hv19735)
                  have x19818 := rX.e hI19717 (b := 6) (hv19809)
                  have pr19819 : _ ∧ _ ∧ _ := o19731
                  exact ⟨_, rfl, hI19800, hF19804, rfl, ⟨(False.elim (by omega)), (fun hz => absurd hz (by omega))⟩⟩
            · have c19745_ : v19740.toInt ≠ 0 := en_k_eq_f c19745
              have i19820 := BL.yes hb19744 (by omega)
              refine At.enter rfl ?_
              refine r_aload_n rfl ?_
              refine r_callV 12 rfl [.ref 176] [] (Nat.le_of_ble_eq_true rfl) rfl (T_X5_step_176 _ hI19738 (TKX.c o19723 ((hF19739.2.1 175 (by decide))) ((hF19739.1 174 1 (by decide))) ((hF19739.1 176 3 (by decide))) ((hF19739.1 176 4 (by decide))) ((hF19739.1 176 5 (by decide)))).1 (TKX.c o19723 ((hF19739.2.1 175 (by decide))) ((hF19739.1 174 1 (by decide))) ((hF19739.1 176 3 (by decide))) ((hF19739.1 176 4 (by decide))) ((hF19739.1 176 5 (by decide)))).2.1.le.2.1) ?_
              rintro _ _ ⟨g19821, rfl, hI19822, hF19823, rfl, hr19825⟩
              refine At.stn ?_
              have hF19826 := Fr.tr hF19742 hF19823 rfl rfl
              have tok19827_ := hr19825.2
              rw [TX.c ((hF19739.2.1 175 (by decide))), nX.c ((hF19739.1 174 1 (by decide))), rX.c (b := 5) ((hF19739.1 176 5 (by decide)))] at tok19827_
              have tok19827 := TKX.tok o19723 tok19827_
              rw [TX.c (((hF19718.2.1 175 (by decide)).trans ((hF19259.2.1 175 (by decide)).trans (hF19233.2.1 175 (by decide))))), nX.c (((hF19718.1 174 1 (by decide)).trans ((hF19259.1 174 1 (by decide)).trans (hF19233.1 174 1 (by decide)))))] at tok19827
              have hT19828 := hr19825.1
              have x19829 := rX.e hI19738 (b := 4) (((hF19739.1 176 4 (by decide)).trans hv19735))
              obtain ⟨v19830, hv19830⟩ : ∃ v, gI g19821 176 4 = v := ⟨_, rfl⟩
              have rv19830 := RgF.at hI19822.2.1 (p := 176) (b := 4) rfl
              rw [hv19830] at rv19830
              dsimp only at rv19830
              have tv19830 := congrArg Int32.toInt hv19830
              have x19831 := rX.e hI19822 (b := 4) (hv19830)
              refine At.enter rfl ?_
              refine r_goto ?_
              refine At.enter rfl ?_
              refine q_vret ?_
              refine At.enter rfl ?_
              refine r_goto ?_
              refine At.enter rfl ?_
              refine r_iload_n e19239 ?_
              refine r_ifs 124 rfl (fun c19832 => ?_) (fun c19832 => ?_)
              · have c19832_ : x19229.toInt = 0 := en_k_eq_t c19832
                refine At.enter rfl ?_
                refine r_vret ?_
                have x19833 := rX.e hI19822 (b := 2) ((((hF19823.1 176 2 (by decide)).trans (hF19739.1 176 2 (by decide))).trans hv19733))
                have x19834 := rX.e hI19822 (b := 4) (hv19830)
                obtain ⟨v19835, hv19835⟩ : ∃ v, gI g19716 176 6 = v := ⟨_, rfl⟩
                have tv19835 := congrArg Int32.toInt hv19835
                have x19836 := rX.e hI19822 (b := 6) ((((hF19823.1 176 6 (by decide)).trans (hF19739.1 176 6 (by decide))).trans hv19835))
                obtain ⟨v19837, hv19837⟩ : ∃ v, gI g0 176 2 = v := ⟨_, rfl⟩
                have tv19837 := congrArg Int32.toInt hv19837
                have x19838 := rX.e hI0 (b := 2) (hv19837)
                have x19839 := rX.e hI0 (b := 4) (hv19250)
                have x19840 := rX.e hI19232 (b := 2) (hv19684)
                have x19841 := rX.e hI19232 (b := 4) (hv19253)
                have x19842 := rX.e hI19717 (b := 2) (hv19733)
                have x19843 := rX.e hI19717 (b := 4) (hv19735)
                have x19844 := rX.e hI19717 (b := 6) (hv19835)
                have x19845 := rX.e hI19822 (b := 2) ((((hF19823.1 176 2 (by decide)).trans (hF19739.1 176 2 (by decide))).trans hv19733))
                have x19846 := rX.e hI19822 (b := 4) (hv19830)
                have x19847 := rX.e hI19822 (b := 6) ((((hF19823.1 176 6 (by decide)).trans (hF19739.1 176 6 (by decide))).trans hv19835))
                have pr19848 : _ ∧ _ ∧ _ := o19731
                exact ⟨_, rfl, hI19822, hF19826, rfl, ⟨(False.elim (by omega)), (fun hz => absurd hz (by omega))⟩⟩
              · have c19832_ : x19229.toInt ≠ 0 := en_k_eq_f c19832
                refine At.enter rfl ?_
                refine r_aload_n e19237 ?_
                refine q_getR (Sh.ref hI19822.1 kx_176 rfl) ?_
                refine r_bipush 9 rfl ?_
                refine r_iconst 0 rfl ?_
                refine r_callV 134 rfl [.ref 177, .int 9, .int 0] [] (Nat.le_of_ble_eq_true rfl) rfl (T_X4_add_177 _ hI19822 9 0) ?_
                rintro _ _ ⟨g19849, rfl, hI19850, hF19851, v19852, rfl, hr19853⟩
                refine At.sti ?_
                have hF19854 := Fr.tr hF19826 hF19851 rfl rfl
                have zv19855 : (9 : Int32).toInt = 9 := rfl
                have zv19856 : (0 : Int32).toInt = 0 := rfl
                refine At.enter rfl ?_
                refine r_pop rfl ?_
                refine Ar.fall 135 rfl ?_
                refine At.enter rfl ?_
                refine r_vret ?_
                have x19857 := rX.e hI19850 (b := 2) ((((hF19851.1 176 2 (by decide)).trans ((hF19823.1 176 2 (by decide)).trans (hF19739.1 176 2 (by decide)))).trans hv19733))
                have x19858 := rX.e hI19850 (b := 4) (((hF19851.1 176 4 (by decide)).trans hv19830))
                obtain ⟨v19859, hv19859⟩ : ∃ v, gI g19716 176 6 = v := ⟨_, rfl⟩
                have tv19859 := congrArg Int32.toInt hv19859
                have x19860 := rX.e hI19850 (b := 6) ((((hF19851.1 176 6 (by decide)).trans ((hF19823.1 176 6 (by decide)).trans (hF19739.1 176 6 (by decide)))).trans hv19859))
                obtain ⟨v19861, hv19861⟩ : ∃ v, gI g0 176 2 = v := ⟨_, rfl⟩
                have tv19861 := congrArg Int32.toInt hv19861
                have x19862 := rX.e hI0 (b := 2) (hv19861)
                have x19863 := rX.e hI0 (b := 4) (hv19250)
                have x19864 := rX.e hI19232 (b := 2) (hv19684)
                have x19865 := rX.e hI19232 (b := 4) (hv19253)
                have x19866 := rX.e hI19717 (b := 2) (hv19733)
                have x19867 := rX.e hI19717 (b := 4) (hv19735)
                have x19868 := rX.e hI19717 (b := 6) (hv19859)
                have x19869 := rX.e hI19822 (b := 2) ((((hF19823.1 176 2 (by decide)).trans (hF19739.1 176 2 (by decide))).trans hv19733))
                have x19870 := rX.e hI19822 (b := 4) (hv19830)
                have x19871 := rX.e hI19822 (b := 6) ((((hF19823.1 176 6 (by decide)).trans (hF19739.1 176 6 (by decide))).trans hv19859))
                have pr19872 : _ ∧ _ ∧ _ := o19731
                exact ⟨_, rfl, hI19850, hF19854, rfl, ⟨(False.elim (by omega)), (fun hz => absurd hz (by omega))⟩⟩
        · have c19685_ : v19684.toInt = (-1) := en_i_ne_f c19685
          refine At.enter rfl ?_
          refine r_aload_n rfl ?_
          refine r_aload_n rfl ?_
          refine q_getI (Sh.int hI19258.1 kx_176 rfl) v19253 ((hF19259.1 176 4 (by decide)).trans hv19253) ?_
          refine q_putI (Sh.int hI19258.1 kx_176 rfl) rfl ?_
          have hI19873 := HI.wI0 hI19258 kx_176 rfl (p := 176) (b := 2) (v := v19253) rfl
          have hF19874 := Fr.wI (p := 176) (b := 2) (v := v19253) hF19262 rfl
          refine Ar.fall 16 rfl ?_
          refine At.enter rfl ?_
          refine q_vret ?_
          refine At.enter rfl ?_
          refine r_goto ?_
          refine At.enter rfl ?_
          refine q_vret ?_
          refine At.enter rfl ?_
          refine r_aload_n e19237 ?_
          refine q_getI (Sh.int hI19873.1 kx_176 rfl) v19253 (gI_sI_eq hI19258.1 kx_176 rfl _) ?_
          refine r_iconst (-1) rfl ?_
          refine r_ics 62 rfl (fun c19875 => ?_) (fun c19875 => ?_)
          · have c19875_ : v19253.toInt ≠ (-1) := en_i_ne_t c19875
            refine At.enter rfl ?_
            refine r_iload_n e19239 ?_
            refine r_ifs 124 rfl (fun c19876 => ?_) (fun c19876 => ?_)
            · have c19876_ : x19229.toInt = 0 := en_k_eq_t c19876
              refine At.enter rfl ?_
              refine r_vret ?_
              have x19877 := rX.e hI19873 (b := 2) ((gI_sI_eq hI19258.1 kx_176 rfl _))
              have x19878 := rX.e hI19873 (b := 4) ((((gI_sI_ne (by decide)).trans (hF19259.1 176 4 (by decide))).trans hv19253))
              obtain ⟨v19879, hv19879⟩ : ∃ v, gI g19231 176 6 = v := ⟨_, rfl⟩
              have tv19879 := congrArg Int32.toInt hv19879
              have x19880 := rX.e hI19873 (b := 6) ((((gI_sI_ne (by decide)).trans (hF19259.1 176 6 (by decide))).trans hv19879))
              obtain ⟨v19881, hv19881⟩ : ∃ v, gI g0 176 2 = v := ⟨_, rfl⟩
              have tv19881 := congrArg Int32.toInt hv19881
              have x19882 := rX.e hI0 (b := 2) (hv19881)
              have x19883 := rX.e hI0 (b := 4) (hv19250)
              have x19884 := rX.e hI19232 (b := 2) (hv19684)
              have x19885 := rX.e hI19232 (b := 4) (hv19253)
              exact ⟨_, rfl, hI19873, hF19874, rfl, ⟨⟨(TKX.c q19243 (((gA_sI).trans (hF19259.2.1 175 (by decide)))) (((gI_sI_ne (by decide)).trans (hF19259.1 174 1 (by decide)))) (((gI_sI_ne (by decide)).trans (hF19259.1 176 3 (by decide)))) (((gI_sI_ne (by decide)).trans (hF19259.1 176 4 (by decide)))) (((gI_sI_ne (by decide)).trans (hF19259.1 176 5 (by decide))))), ((PRG0.tr (q19245) (PRG0.fail 1 (rX.c (b := 4) (((gI_sI_ne (by decide)).trans (hF19259.1 176 4 (by decide))))) (fun _ => by omega) (fun _ => by omega) (by omega)))).le (by omega), PLO.deep q19244 (TKX.someC q19243 ((hF19233.2.1 175 (by decide))) ((hF19233.1 174 1 (by decide)))).choose_spec (by omega) (by omega) (fun _ => by omega) (fun _ => by omega) (by omega)⟩, (fun hz => absurd hz (by omega))⟩⟩
            · have c19876_ : x19229.toInt ≠ 0 := en_k_eq_f c19876
              refine At.enter rfl ?_
              refine r_aload_n e19237 ?_
              refine q_getR (Sh.ref hI19873.1 kx_176 rfl) ?_
              refine r_bipush 9 rfl ?_
              refine r_iconst 0 rfl ?_
              refine r_callV 134 rfl [.ref 177, .int 9, .int 0] [] (Nat.le_of_ble_eq_true rfl) rfl (T_X4_add_177 _ hI19873 9 0) ?_
              rintro _ _ ⟨g19886, rfl, hI19887, hF19888, v19889, rfl, hr19890⟩
              refine At.sti ?_
              have hF19891 := Fr.tr hF19874 hF19888 rfl rfl
              have zv19892 : (9 : Int32).toInt = 9 := rfl
              have zv19893 : (0 : Int32).toInt = 0 := rfl
              refine At.enter rfl ?_
              refine r_pop rfl ?_
              refine Ar.fall 135 rfl ?_
              refine At.enter rfl ?_
              refine r_vret ?_
              have x19894 := rX.e hI19887 (b := 2) (((hF19888.1 176 2 (by decide)).trans (gI_sI_eq hI19258.1 kx_176 rfl _)))
              have x19895 := rX.e hI19887 (b := 4) ((((hF19888.1 176 4 (by decide)).trans ((gI_sI_ne (by decide)).trans (hF19259.1 176 4 (by decide)))).trans hv19253))
              obtain ⟨v19896, hv19896⟩ : ∃ v, gI g19231 176 6 = v := ⟨_, rfl⟩
              have tv19896 := congrArg Int32.toInt hv19896
              have x19897 := rX.e hI19887 (b := 6) ((((hF19888.1 176 6 (by decide)).trans ((gI_sI_ne (by decide)).trans (hF19259.1 176 6 (by decide)))).trans hv19896))
              obtain ⟨v19898, hv19898⟩ : ∃ v, gI g0 176 2 = v := ⟨_, rfl⟩
              have tv19898 := congrArg Int32.toInt hv19898
              have x19899 := rX.e hI0 (b := 2) (hv19898)
              have x19900 := rX.e hI0 (b := 4) (hv19250)
              have x19901 := rX.e hI19232 (b := 2) (hv19684)
              have x19902 := rX.e hI19232 (b := 4) (hv19253)
              exact ⟨_, rfl, hI19887, hF19891, rfl, ⟨⟨(TKX.c q19243 (((hF19888.2.1 175 (by decide)).trans ((gA_sI).trans (hF19259.2.1 175 (by decide))))) (((hF19888.1 174 1 (by decide)).trans ((gI_sI_ne (by decide)).trans (hF19259.1 174 1 (by decide))))) (((hF19888.1 176 3 (by decide)).trans ((gI_sI_ne (by decide)).trans (hF19259.1 176 3 (by decide))))) (((hF19888.1 176 4 (by decide)).trans ((gI_sI_ne (by decide)).trans (hF19259.1 176 4 (by decide))))) (((hF19888.1 176 5 (by decide)).trans ((gI_sI_ne (by decide)).trans (hF19259.1 176 5 (by decide)))))), ((PRG0.tr (q19245) (PRG0.fail 1 (rX.c (b := 4) (((hF19888.1 176 4 (by decide)).trans ((gI_sI_ne (by decide)).trans (hF19259.1 176 4 (by decide)))))) (fun _ => by omega) (fun _ => by omega) (by omega)))).le (by omega), PLO.deep q19244 (TKX.someC q19243 ((hF19233.2.1 175 (by decide))) ((hF19233.1 174 1 (by decide)))).choose_spec (by omega) (by omega) (fun _ => by omega) (fun _ => by omega) (by omega)⟩, (fun hz => absurd hz (by omega))⟩⟩
          · have c19875_ : v19253.toInt = (-1) := en_i_ne_f c19875
            exfalso; omega
  · have c19256_ : x19230.toInt < 400 := en_i_ge_f c19256
    refine At.enter rfl ?_
    refine r_aload_n e19237 ?_
    refine r_ldcS (by decide) 4 rfl ?_
    refine r_callV 17 rfl [.ref 176, .float 4] [] (Nat.le_of_ble_eq_true rfl) rfl (T_X5_isWord_176 _ hI19232 4 (by decide) q19243) ?_
    rintro _ _ ⟨g19903, rfl, hI19904, hF19905, v19906, rfl, hr19907⟩
    refine At.sti ?_
    have hF19908 := Fr.tr hF19233 hF19905 rfl rfl
    have hb19909 : BL (CDX g19231 = 1) v19906.toInt := ISW.code (c := 1) hr19907.2 q19243 (isWC_d (by omega)) (by decide +kernel)
    refine At.enter rfl ?_
    refine r_ifs 20 rfl (fun c19910 => ?_) (fun c19910 => ?_)
    · have c19910_ : v19906.toInt = 0 := en_k_eq_t c19910
      have i19911 := BL.no hb19909 (by omega)
      refine At.enter rfl ?_
      refine r_aload_n e19237 ?_
      refine r_bipush 40 rfl ?_
      refine r_callV 46 rfl [.ref 176, .int 40] [] (Nat.le_of_ble_eq_true rfl) rfl (T_X5_isSingle_176 _ hI19904 40 (by decide)) ?_
      rintro _ _ ⟨g19912, rfl, hI19913, hF19914, v19915, rfl, hr19916⟩
      refine At.sti ?_
      have hF19917 := Fr.tr hF19908 hF19914 rfl rfl
      have zv19918 : (40 : Int32).toInt = 40 := rfl
      have hb19919 : BL (CDX g19231 = 2) v19915.toInt := by have z := ISX.code (c := 2) hr19916.2 (TKX.c q19243 ((hF19905.2.1 175 (by decide))) ((hF19905.1 174 1 (by decide))) ((hF19905.1 176 3 (by decide))) ((hF19905.1 176 4 (by decide))) ((hF19905.1 176 5 (by decide)))) (isSC_d (by omega)) (by decide); rw [CDX.c ((hF19905.2.1 175 (by decide))) ((hF19905.1 176 3 (by decide))) ((hF19905.1 176 4 (by decide))) ((hF19905.1 176 5 (by decide)))] at z; exact z
      refine At.enter rfl ?_
      refine r_ifs 49 rfl (fun c19920 => ?_) (fun c19920 => ?_)
      · have c19920_ : v19915.toInt = 0 := en_k_eq_t c19920
        have i19921 := BL.no hb19919 (by omega)
        refine At.enter rfl ?_
        refine r_aload_n e19237 ?_
        refine r_iconst 2 rfl ?_
        refine r_iload_n e19238 ?_
        have zv19922 : (2 : Int32).toInt = 2 := rfl
        refine r_callV 85 rfl [.ref 176, .int 2, .int a1] [] (Nat.le_of_ble_eq_true rfl) rfl (IHJ _ (by omega) hI19913 2 (by decide) a1 (by omega) (by omega) (TKX.c q19243 (((hF19914.2.1 175 (by decide)).trans (hF19905.2.1 175 (by decide)))) (((hF19914.1 174 1 (by decide)).trans (hF19905.1 174 1 (by decide)))) (((hF19914.1 176 3 (by decide)).trans (hF19905.1 176 3 (by decide)))) (((hF19914.1 176 4 (by decide)).trans (hF19905.1 176 4 (by decide)))) (((hF19914.1 176 5 (by decide)).trans (hF19905.1 176 5 (by decide)))))) ?_
        rintro _ _ ⟨g19923, rfl, hI19924, hF19925, rfl, hr19927⟩
        refine At.stn ?_
        have hF19928 := Fr.tr hF19917 hF19925 rfl rfl
        have zv19929 : (2 : Int32).toInt = 2 := rfl
        obtain ⟨v19934, hv19934⟩ : ∃ v, gI g19231 176 2 = v := ⟨_, rfl⟩
        have tv19934 := congrArg Int32.toInt hv19934
        have x19935 := rX.e hI19913 (b := 2) ((((hF19914.1 176 2 (by decide)).trans (hF19905.1 176 2 (by decide))).trans hv19934))
        have x19936 := rX.e hI19913 (b := 4) ((((hF19914.1 176 4 (by decide)).trans (hF19905.1 176 4 (by decide))).trans hv19253))
        obtain ⟨o19930, o19931, o19932, o19933⟩ := hr19927.1
        have gx19937 := GPX.fr hr19927.2 (((hF19914.2.1 178 (by decide)).trans (hF19905.2.1 178 (by decide)))) (((hF19914.2.1 179 (by decide)).trans (hF19905.2.1 179 (by decide)))) (((hF19914.1 177 0 (by decide)).trans (hF19905.1 177 0 (by decide)))) (rX.c (b := 4) (((hF19914.1 176 4 (by decide)).trans (hF19905.1 176 4 (by decide))))) (rX.c (b := 6) (((hF19914.1 176 6 (by decide)).trans (hF19905.1 176 6 (by decide)))))
        rw [TX.ci hI19913 (((hF19914.2.1 175 (by decide)).trans ((hF19905.2.1 175 (by decide)).trans (hF19233.2.1 175 (by decide))))), nX.ci hI19913 (((hF19914.1 174 1 (by decide)).trans ((hF19905.1 174 1 (by decide)).trans (hF19233.1 174 1 (by decide)))))] at gx19937
        have o19938 := OPD.tc o19932 (((hF19914.2.1 175 (by decide)).trans ((hF19905.2.1 175 (by decide)).trans (hF19233.2.1 175 (by decide))))) (((hF19914.1 174 1 (by decide)).trans ((hF19905.1 174 1 (by decide)).trans (hF19233.1 174 1 (by decide)))))
        have o19939 := PRG0.fr o19931 (rX.c (b := 2) (((hF19914.1 176 2 (by decide)).trans (hF19905.1 176 2 (by decide))))) (rX.c (b := 4) (((hF19914.1 176 4 (by decide)).trans (hF19905.1 176 4 (by decide)))))
        have o19940 := OPD.fr o19938 (rX.c (b := 2) (((hF19914.1 176 2 (by decide)).trans (hF19905.1 176 2 (by decide))))) (rX.c (b := 4) (((hF19914.1 176 4 (by decide)).trans (hF19905.1 176 4 (by decide))))) (rX.c (b := 6) (((hF19914.1 176 6 (by decide)).trans (hF19905.1 176 6 (by decide)))))
        obtain ⟨v19941, hv19941⟩ : ∃ v, gI g19923 176 2 = v := ⟨_, rfl⟩
        have tv19941 := congrArg Int32.toInt hv19941
        have x19942 := rX.e hI19924 (b := 2) (hv19941)
        obtain ⟨v19943, hv19943⟩ : ∃ v, gI g19923 176 4 = v := ⟨_, rfl⟩
        have rv19943 := RgF.at hI19924.2.1 (p := 176) (b := 4) rfl
        rw [hv19943] at rv19943
        dsimp only at rv19943
        have tv19943 := congrArg Int32.toInt hv19943
        have x19944 := rX.e hI19924 (b := 4) (hv19943)
        refine At.enter rfl ?_
        refine r_aload_n e19237 ?_
        refine r_callV 89 rfl [.ref 176] [] (Nat.le_of_ble_eq_true rfl) rfl (T_X5_comparisonHere_176 _ hI19924 o19930) ?_
        rintro _ _ ⟨g19945, rfl, hI19946, hF19947, v19948, rfl, hr19949⟩
        refine At.sti ?_
        have hF19950 := Fr.tr hF19928 hF19947 rfl rfl
        have je19951 : v19948.toInt ≠ -1 → v19948.toInt = CDX g19923 - 18 := hr19949.2.2
        have hb19952 : BLN (24 ≤ CDX g19923 ∧ CDX g19923 ≤ 26) v19948.toInt := hr19949.2.1
        refine At.enter rfl ?_
        refine r_istore_n _ rfl ?_
        refine r_iload_n (w_e1 _ _ _) ?_
        refine r_iconst (-1) rfl ?_
        refine r_ics 95 rfl (fun c19953 => ?_) (fun c19953 => ?_)
        · have c19953_ : v19948.toInt ≠ (-1) := en_i_ne_t c19953
          have i19954 := BLN.yes hb19952 (by omega)
          refine At.enter rfl ?_
          refine r_aload_n (w_p1 (by decide) (Or.inr rfl) e19237) ?_
          refine r_callV 104 rfl [.ref 176] [] (Nat.le_of_ble_eq_true rfl) rfl (T_X5_step_176 _ hI19946 (TKX.c o19930 ((hF19947.2.1 175 (by decide))) ((hF19947.1 174 1 (by decide))) ((hF19947.1 176 3 (by decide))) ((hF19947.1 176 4 (by decide))) ((hF19947.1 176 5 (by decide)))).1 (TKX.c o19930 ((hF19947.2.1 175 (by decide))) ((hF19947.1 174 1 (by decide))) ((hF19947.1 176 3 (by decide))) ((hF19947.1 176 4 (by decide))) ((hF19947.1 176 5 (by decide)))).2.1.le.2.1) ?_
          rintro _ _ ⟨g19955, rfl, hI19956, hF19957, rfl, hr19959⟩
          refine At.stn ?_
          have hF19960 := Fr.tr hF19950 hF19957 rfl rfl
          have tok19961_ := hr19959.2
          rw [TX.c ((hF19947.2.1 175 (by decide))), nX.c ((hF19947.1 174 1 (by decide))), rX.c (b := 5) ((hF19947.1 176 5 (by decide)))] at tok19961_
          have tok19961 := TKX.tok o19930 tok19961_
          rw [TX.c (((hF19925.2.1 175 (by decide)).trans ((hF19914.2.1 175 (by decide)).trans ((hF19905.2.1 175 (by decide)).trans (hF19233.2.1 175 (by decide)))))), nX.c (((hF19925.1 174 1 (by decide)).trans ((hF19914.1 174 1 (by decide)).trans ((hF19905.1 174 1 (by decide)).trans (hF19233.1 174 1 (by decide))))))] at tok19961
          have hT19962 := hr19959.1
          have x19963 := rX.e hI19946 (b := 4) (((hF19947.1 176 4 (by decide)).trans hv19943))
          obtain ⟨v19964, hv19964⟩ : ∃ v, gI g19955 176 4 = v := ⟨_, rfl⟩
          have rv19964 := RgF.at hI19956.2.1 (p := 176) (b := 4) rfl
          rw [hv19964] at rv19964
          dsimp only at rv19964
          have tv19964 := congrArg Int32.toInt hv19964
          have x19965 := rX.e hI19956 (b := 4) (hv19964)
          refine At.enter rfl ?_
          refine r_aload_n (w_p1 (by decide) (Or.inr rfl) e19237) ?_
          refine r_iconst 2 rfl ?_
          refine r_iload_n (w_p1 (by decide) (Or.inr rfl) e19238) ?_
          have zv19966 : (2 : Int32).toInt = 2 := rfl
          refine r_callV 110 rfl [.ref 176, .int 2, .int a1] [] (Nat.le_of_ble_eq_true rfl) rfl (IHJ _ (by omega) hI19956 2 (by decide) a1 (by omega) (by omega) hT19962) ?_
          rintro _ _ ⟨g19967, rfl, hI19968, hF19969, rfl, hr19971⟩
          refine At.stn ?_
          have hF19972 := Fr.tr hF19960 hF19969 rfl rfl
          have zv19973 : (2 : Int32).toInt = 2 := rfl
          have x19978 := rX.e hI19956 (b := 2) ((((hF19957.1 176 2 (by decide)).trans (hF19947.1 176 2 (by decide))).trans hv19941))
          have x19979 := rX.e hI19956 (b := 4) (hv19964)
          obtain ⟨o19974, o19975, o19976, o19977⟩ := hr19971.1
          have gx19980 := hr19971.2
          rw [TX.ci hI19956 (((hF19957.2.1 175 (by decide)).trans ((hF19947.2.1 175 (by decide)).trans ((hF19925.2.1 175 (by decide)).trans ((hF19914.2.1 175 (by decide)).trans ((hF19905.2.1 175 (by decide)).trans (hF19233.2.1 175 (by decide)))))))), nX.ci hI19956 (((hF19957.1 174 1 (by decide)).trans ((hF19947.1 174 1 (by decide)).trans ((hF19925.1 174 1 (by decide)).trans ((hF19914.1 174 1 (by decide)).trans ((hF19905.1 174 1 (by decide)).trans (hF19233.1 174 1 (by decide))))))))] at gx19980
          have o19981 := OPD.tc o19976 (((hF19957.2.1 175 (by decide)).trans ((hF19947.2.1 175 (by decide)).trans ((hF19925.2.1 175 (by decide)).trans ((hF19914.2.1 175 (by decide)).trans ((hF19905.2.1 175 (by decide)).trans (hF19233.2.1 175 (by decide)))))))) (((hF19957.1 174 1 (by decide)).trans ((hF19947.1 174 1 (by decide)).trans ((hF19925.1 174 1 (by decide)).trans ((hF19914.1 174 1 (by decide)).trans ((hF19905.1 174 1 (by decide)).trans (hF19233.1 174 1 (by decide))))))))
          obtain ⟨v19982, hv19982⟩ : ∃ v, gI g19967 176 2 = v := ⟨_, rfl⟩
          have tv19982 := congrArg Int32.toInt hv19982
          have x19983 := rX.e hI19968 (b := 2) (hv19982)
          obtain ⟨v19984, hv19984⟩ : ∃ v, gI g19967 176 4 = v := ⟨_, rfl⟩
          have rv19984 := RgF.at hI19968.2.1 (p := 176) (b := 4) rfl
          rw [hv19984] at rv19984
          dsimp only at rv19984
          have tv19984 := congrArg Int32.toInt hv19984
          have x19985 := rX.e hI19968 (b := 4) (hv19984)
          refine At.enter rfl ?_
          refine r_aload_n (w_p1 (by decide) (Or.inr rfl) e19237) ?_
          refine q_getR (Sh.ref hI19968.1 kx_176 rfl) ?_
          refine r_iload_n (w_e1 _ _ _) ?_
          refine r_iconst 0 rfl ?_
          refine r_callV 119 rfl [.ref 177, .int v19948, .int 0] [] (Nat.le_of_ble_eq_true rfl) rfl (T_X4_add_177 _ hI19968 v19948 0) ?_
          rintro _ _ ⟨g19986, rfl, hI19987, hF19988, v19989, rfl, hr19990⟩
          refine At.sti ?_
          have hF19991 := Fr.tr hF19972 hF19988 rfl rfl
          have zv19992 : (0 : Int32).toInt = 0 := rfl
          refine At.enter rfl ?_
          refine r_pop rfl ?_
          refine Ar.fall 120 rfl ?_
          refine At.enter rfl ?_
          refine r_iload_n (w_p1 (by decide) (Or.inr rfl) e19239) ?_
          refine r_ifs 124 rfl (fun c19993 => ?_) (fun c19993 => ?_)
          · have c19993_ : x19229.toInt = 0 := en_k_eq_t c19993
            refine At.enter rfl ?_
            refine r_vret ?_
            have x19994 := rX.e hI19987 (b := 2) (((hF19988.1 176 2 (by decide)).trans hv19982))
            have x19995 := rX.e hI19987 (b := 4) (((hF19988.1 176 4 (by decide)).trans hv19984))
            obtain ⟨v19996, hv19996⟩ : ∃ v, gI g19967 176 6 = v := ⟨_, rfl⟩
            have tv19996 := congrArg Int32.toInt hv19996
            have x19997 := rX.e hI19987 (b := 6) (((hF19988.1 176 6 (by decide)).trans hv19996))
            obtain ⟨v19998, hv19998⟩ : ∃ v, gI g0 176 2 = v := ⟨_, rfl⟩
            have tv19998 := congrArg Int32.toInt hv19998
            have x19999 := rX.e hI0 (b := 2) (hv19998)
            have x20000 := rX.e hI0 (b := 4) (hv19250)
            have x20001 := rX.e hI19232 (b := 2) (hv19934)
            have x20002 := rX.e hI19232 (b := 4) (hv19253)
            have x20003 := rX.e hI19924 (b := 2) (hv19941)
            have x20004 := rX.e hI19924 (b := 4) (hv19943)
            obtain ⟨v20005, hv20005⟩ : ∃ v, gI g19923 176 6 = v := ⟨_, rfl⟩
            have tv20005 := congrArg Int32.toInt hv20005
            have x20006 := rX.e hI19924 (b := 6) (hv20005)
            have x20007 := rX.e hI19956 (b := 2) ((((hF19957.1 176 2 (by decide)).trans (hF19947.1 176 2 (by decide))).trans hv19941))
            have x20008 := rX.e hI19956 (b := 4) (hv19964)
            have x20009 := rX.e hI19956 (b := 6) ((((hF19957.1 176 6 (by decide)).trans (hF19947.1 176 6 (by decide))).trans hv20005))
            have x20010 := rX.e hI19968 (b := 2) (hv19982)
            have x20011 := rX.e hI19968 (b := 4) (hv19984)
            have x20012 := rX.e hI19968 (b := 6) (hv19996)
            have pr20013 : _ ∧ _ ∧ _ := o19939
            have pr20014 : _ ∧ _ ∧ _ := o19975
            have x20015 := rX.e hI19232 (b := 2) (hv19934)
            have x20016 := rX.e hI19232 (b := 4) (hv19253)
            have x20017 := rX.e hI19924 (b := 2) (hv19941)
            have x20018 := rX.e hI19924 (b := 4) (hv19943)
            have x20019 := rX.e hI19956 (b := 2) ((((hF19957.1 176 2 (by decide)).trans (hF19947.1 176 2 (by decide))).trans hv19941))
            have x20020 := rX.e hI19956 (b := 4) (hv19964)
            have x20021 := rX.e hI19968 (b := 2) (hv19982)
            have x20022 := rX.e hI19968 (b := 4) (hv19984)
            have x20023 := rX.e hI19987 (b := 2) (((hF19988.1 176 2 (by decide)).trans hv19982))
            have x20024 := rX.e hI19987 (b := 4) (((hF19988.1 176 4 (by decide)).trans hv19984))
            exact ⟨_, rfl, hI19987, hF19991, rfl, ⟨⟨(TKX.c o19974 ((hF19988.2.1 175 (by decide))) ((hF19988.1 174 1 (by decide))) ((hF19988.1 176 3 (by decide))) ((hF19988.1 176 4 (by decide))) ((hF19988.1 176 5 (by decide)))), ((PRG0.tr ((PRG0.tr ((PRG0.tr ((PRG0.tr (q19245) (o19939))) (PRG0.step o19930 tok19961_ (rX.c (b := 2) (((hF19957.1 176 2 (by decide)).trans (hF19947.1 176 2 (by decide))))) (by omega)))) (o19975))) (PRG0.eq (rX.c (b := 4) ((hF19988.1 176 4 (by decide)))) (rX.c (b := 2) ((hF19988.1 176 2 (by decide))))))).le (by omega), PLO.cmp q19244 (TKX.someC q19243 ((hF19233.2.1 175 (by decide))) ((hF19233.1 174 1 (by decide)))).choose_spec (by omega) o19940 tok19961 (by omega) (rX.c (b := 2) (((hF19957.1 176 2 (by decide)).trans (hF19947.1 176 2 (by decide))))) (rX.c (b := 6) (((hF19957.1 176 6 (by decide)).trans (hF19947.1 176 6 (by decide))))) o19981 (TKX.someC o19974 (((hF19969.2.1 175 (by decide)).trans ((hF19957.2.1 175 (by decide)).trans ((hF19947.2.1 175 (by decide)).trans ((hF19925.2.1 175 (by decide)).trans ((hF19914.2.1 175 (by decide)).trans ((hF19905.2.1 175 (by decide)).trans (hF19233.2.1 175 (by decide))))))))) (((hF19969.1 174 1 (by decide)).trans ((hF19957.1 174 1 (by decide)).trans ((hF19947.1 174 1 (by decide)).trans ((hF19925.1 174 1 (by decide)).trans ((hF19914.1 174 1 (by decide)).trans ((hF19905.1 174 1 (by decide)).trans (hF19233.1 174 1 (by decide)))))))))).choose_spec o19977 (rX.c (b := 2) ((hF19988.1 176 2 (by decide)))) (rX.c (b := 4) ((hF19988.1 176 4 (by decide)))) (rX.c (b := 6) ((hF19988.1 176 6 (by decide))))⟩, (by first | exact (fun hz => absurd hz (by omega)) | exact PLG.cmp q19247 (TKX.someC q19243 ((hF19233.2.1 175 (by decide))) ((hF19233.1 174 1 (by decide)))).choose_spec (by omega) (GPX.k gx19937 (by decide) (by decide) (by decide) (by decide)) tok19961 (by omega) (TOK_lt tok19961 (by omega)) (SCX.x (SCX.mk (((hF19957.2.1 178 (by decide)).trans (hF19947.2.1 178 (by decide)))) (((hF19957.2.1 179 (by decide)).trans (hF19947.2.1 179 (by decide)))) (((hF19957.1 177 0 (by decide)).trans (hF19947.1 177 0 (by decide))))) (rX.c (b := 6) (((hF19957.1 176 6 (by decide)).trans (hF19947.1 176 6 (by decide)))))) (GPX.k gx19980 (by decide) (by decide) (by decide) (by decide)) (TKX.someC o19974 (((hF19969.2.1 175 (by decide)).trans ((hF19957.2.1 175 (by decide)).trans ((hF19947.2.1 175 (by decide)).trans ((hF19925.2.1 175 (by decide)).trans ((hF19914.2.1 175 (by decide)).trans ((hF19905.2.1 175 (by decide)).trans (hF19233.2.1 175 (by decide))))))))) (((hF19969.1 174 1 (by decide)).trans ((hF19957.1 174 1 (by decide)).trans ((hF19947.1 174 1 (by decide)).trans ((hF19925.1 174 1 (by decide)).trans ((hF19914.1 174 1 (by decide)).trans ((hF19905.1 174 1 (by decide)).trans (hF19233.1 174 1 (by decide)))))))))).choose_spec (fun hz => (o19977 hz).2.2.1 rfl) (by omega) (fun _ hl => ADP.x (ADP.fr hr19990.2 SCX.rf SCX.rf) (by omega) (rX.c (b := 6) ((hF19988.1 176 6 (by decide))))) (rX.c (b := 4) ((hF19988.1 176 4 (by decide)))) (fun _ _ => Or.inl ⟨by omega, (SCX.x SCX.rf rfl)⟩) rfl (fun z => by omega) (fun z => by omega) (fun z => by omega) (fun z => by omega))⟩⟩
          · have c19993_ : x19229.toInt ≠ 0 := en_k_eq_f c19993
            refine At.enter rfl ?_
            refine r_aload_n (w_p1 (by decide) (Or.inr rfl) e19237) ?_
            refine q_getR (Sh.ref hI19987.1 kx_176 rfl) ?_
            refine r_bipush 9 rfl ?_
            refine r_iconst 0 rfl ?_
            refine r_callV 134 rfl [.ref 177, .int 9, .int 0] [] (Nat.le_of_ble_eq_true rfl) rfl (T_X4_add_177 _ hI19987 9 0) ?_
            rintro _ _ ⟨g20025, rfl, hI20026, hF20027, v20028, rfl, hr20029⟩
            refine At.sti ?_
            have hF20030 := Fr.tr hF19991 hF20027 rfl rfl
            have zv20031 : (9 : Int32).toInt = 9 := rfl
            have zv20032 : (0 : Int32).toInt = 0 := rfl
            refine At.enter rfl ?_
            refine r_pop rfl ?_
            refine Ar.fall 135 rfl ?_
            refine At.enter rfl ?_
            refine r_vret ?_
            have x20033 := rX.e hI20026 (b := 2) ((((hF20027.1 176 2 (by decide)).trans (hF19988.1 176 2 (by decide))).trans hv19982))
            have x20034 := rX.e hI20026 (b := 4) ((((hF20027.1 176 4 (by decide)).trans (hF19988.1 176 4 (by decide))).trans hv19984))
            obtain ⟨v20035, hv20035⟩ : ∃ v, gI g19967 176 6 = v := ⟨_, rfl⟩
            have tv20035 := congrArg Int32.toInt hv20035
            have x20036 := rX.e hI20026 (b := 6) ((((hF20027.1 176 6 (by decide)).trans (hF19988.1 176 6 (by decide))).trans hv20035))
            obtain ⟨v20037, hv20037⟩ : ∃ v, gI g0 176 2 = v := ⟨_, rfl⟩
            have tv20037 := congrArg Int32.toInt hv20037
            have x20038 := rX.e hI0 (b := 2) (hv20037)
            have x20039 := rX.e hI0 (b := 4) (hv19250)
            have x20040 := rX.e hI19232 (b := 2) (hv19934)
            have x20041 := rX.e hI19232 (b := 4) (hv19253)
            have x20042 := rX.e hI19924 (b := 2) (hv19941)
            have x20043 := rX.e hI19924 (b := 4) (hv19943)
            obtain ⟨v20044, hv20044⟩ : ∃ v, gI g19923 176 6 = v := ⟨_, rfl⟩
            have tv20044 := congrArg Int32.toInt hv20044
            have x20045 := rX.e hI19924 (b := 6) (hv20044)
            have x20046 := rX.e hI19956 (b := 2) ((((hF19957.1 176 2 (by decide)).trans (hF19947.1 176 2 (by decide))).trans hv19941))
            have x20047 := rX.e hI19956 (b := 4) (hv19964)
            have x20048 := rX.e hI19956 (b := 6) ((((hF19957.1 176 6 (by decide)).trans (hF19947.1 176 6 (by decide))).trans hv20044))
            have x20049 := rX.e hI19968 (b := 2) (hv19982)
            have x20050 := rX.e hI19968 (b := 4) (hv19984)
            have x20051 := rX.e hI19968 (b := 6) (hv20035)
            have pr20052 : _ ∧ _ ∧ _ := o19939
            have pr20053 : _ ∧ _ ∧ _ := o19975
            have x20054 := rX.e hI19232 (b := 2) (hv19934)
            have x20055 := rX.e hI19232 (b := 4) (hv19253)
            have x20056 := rX.e hI19924 (b := 2) (hv19941)
            have x20057 := rX.e hI19924 (b := 4) (hv19943)
            have x20058 := rX.e hI19956 (b := 2) ((((hF19957.1 176 2 (by decide)).trans (hF19947.1 176 2 (by decide))).trans hv19941))
            have x20059 := rX.e hI19956 (b := 4) (hv19964)
            have x20060 := rX.e hI19968 (b := 2) (hv19982)
            have x20061 := rX.e hI19968 (b := 4) (hv19984)
            have x20062 := rX.e hI19987 (b := 2) (((hF19988.1 176 2 (by decide)).trans hv19982))
            have x20063 := rX.e hI19987 (b := 4) (((hF19988.1 176 4 (by decide)).trans hv19984))
            exact ⟨_, rfl, hI20026, hF20030, rfl, ⟨⟨(TKX.c o19974 (((hF20027.2.1 175 (by decide)).trans (hF19988.2.1 175 (by decide)))) (((hF20027.1 174 1 (by decide)).trans (hF19988.1 174 1 (by decide)))) (((hF20027.1 176 3 (by decide)).trans (hF19988.1 176 3 (by decide)))) (((hF20027.1 176 4 (by decide)).trans (hF19988.1 176 4 (by decide)))) (((hF20027.1 176 5 (by decide)).trans (hF19988.1 176 5 (by decide))))), ((PRG0.tr ((PRG0.tr ((PRG0.tr ((PRG0.tr (q19245) (o19939))) (PRG0.step o19930 tok19961_ (rX.c (b := 2) (((hF19957.1 176 2 (by decide)).trans (hF19947.1 176 2 (by decide))))) (by omega)))) (o19975))) (PRG0.eq (rX.c (b := 4) (((hF20027.1 176 4 (by decide)).trans (hF19988.1 176 4 (by decide))))) (rX.c (b := 2) (((hF20027.1 176 2 (by decide)).trans (hF19988.1 176 2 (by decide)))))))).le (by omega), PLO.cmp q19244 (TKX.someC q19243 ((hF19233.2.1 175 (by decide))) ((hF19233.1 174 1 (by decide)))).choose_spec (by omega) o19940 tok19961 (by omega) (rX.c (b := 2) (((hF19957.1 176 2 (by decide)).trans (hF19947.1 176 2 (by decide))))) (rX.c (b := 6) (((hF19957.1 176 6 (by decide)).trans (hF19947.1 176 6 (by decide))))) o19981 (TKX.someC o19974 (((hF19969.2.1 175 (by decide)).trans ((hF19957.2.1 175 (by decide)).trans ((hF19947.2.1 175 (by decide)).trans ((hF19925.2.1 175 (by decide)).trans ((hF19914.2.1 175 (by decide)).trans ((hF19905.2.1 175 (by decide)).trans (hF19233.2.1 175 (by decide))))))))) (((hF19969.1 174 1 (by decide)).trans ((hF19957.1 174 1 (by decide)).trans ((hF19947.1 174 1 (by decide)).trans ((hF19925.1 174 1 (by decide)).trans ((hF19914.1 174 1 (by decide)).trans ((hF19905.1 174 1 (by decide)).trans (hF19233.1 174 1 (by decide)))))))))).choose_spec o19977 (rX.c (b := 2) (((hF20027.1 176 2 (by decide)).trans (hF19988.1 176 2 (by decide))))) (rX.c (b := 4) (((hF20027.1 176 4 (by decide)).trans (hF19988.1 176 4 (by decide))))) (rX.c (b := 6) (((hF20027.1 176 6 (by decide)).trans (hF19988.1 176 6 (by decide)))))⟩, (by first | exact (fun hz => absurd hz (by omega)) | exact PLG.cmp q19247 (TKX.someC q19243 ((hF19233.2.1 175 (by decide))) ((hF19233.1 174 1 (by decide)))).choose_spec (by omega) (GPX.k gx19937 (by decide) (by decide) (by decide) (by decide)) tok19961 (by omega) (TOK_lt tok19961 (by omega)) (SCX.x (SCX.mk (((hF19957.2.1 178 (by decide)).trans (hF19947.2.1 178 (by decide)))) (((hF19957.2.1 179 (by decide)).trans (hF19947.2.1 179 (by decide)))) (((hF19957.1 177 0 (by decide)).trans (hF19947.1 177 0 (by decide))))) (rX.c (b := 6) (((hF19957.1 176 6 (by decide)).trans (hF19947.1 176 6 (by decide)))))) (GPX.k gx19980 (by decide) (by decide) (by decide) (by decide)) (TKX.someC o19974 (((hF19969.2.1 175 (by decide)).trans ((hF19957.2.1 175 (by decide)).trans ((hF19947.2.1 175 (by decide)).trans ((hF19925.2.1 175 (by decide)).trans ((hF19914.2.1 175 (by decide)).trans ((hF19905.2.1 175 (by decide)).trans (hF19233.2.1 175 (by decide))))))))) (((hF19969.1 174 1 (by decide)).trans ((hF19957.1 174 1 (by decide)).trans ((hF19947.1 174 1 (by decide)).trans ((hF19925.1 174 1 (by decide)).trans ((hF19914.1 174 1 (by decide)).trans ((hF19905.1 174 1 (by decide)).trans (hF19233.1 174 1 (by decide)))))))))).choose_spec (fun hz => (o19977 hz).2.2.1 rfl) (by omega) (fun _ hl => ADP.x (ADP.fr hr19990.2 SCX.rf SCX.rf) (by omega) (rX.c (b := 6) ((hF19988.1 176 6 (by decide))))) (rX.c (b := 4) ((hF19988.1 176 4 (by decide)))) (fun _ hl => Or.inr ⟨by omega, ADP.x (ADP.fr hr20029.2 SCX.rf SCX.rf) (by have hl2 := hl (by omega); omega) (rX.c (b := 6) ((hF20027.1 176 6 (by decide))))⟩) (rX.c (b := 4) ((hF20027.1 176 4 (by decide)))) (fun z => by omega) (fun z => by omega) (fun z => by omega) (fun z => by omega))⟩⟩
        · have c19953_ : v19948.toInt = (-1) := en_i_ne_f c19953
          have i20064 := BLN.no hb19952 (by omega)
          refine At.enter rfl ?_
          refine r_aload_n (w_p1 (by decide) (Or.inr rfl) e19237) ?_
          refine q_inlV 99 rfl [.ref 176] [] (Nat.le_of_ble_eq_true rfl) rfl ?_
          refine Ev.mk rfl rfl ⟨Nat.le_of_ble_eq_true rfl, Or.inr (q_rc hI19946.1 kx_176 rfl)⟩ ?_
          show At _ none _ _ (0, [(0, .ref 176)], [], (_, _)) _
          refine At.enter rfl ?_
          refine r_aload_n rfl ?_
          refine q_getI (Sh.int hI19946.1 kx_176 rfl) v19941 ((hF19947.1 176 2 (by decide)).trans hv19941) ?_
          refine r_iconst (-1) rfl ?_
          refine r_ics 8 rfl (fun c20065 => ?_) (fun c20065 => ?_)
          · have c20065_ : v19941.toInt ≠ (-1) := en_i_ne_t c20065
            refine At.enter rfl ?_
            refine q_vret ?_
            refine At.enter rfl ?_
            refine r_vret ?_
            have x20066 := rX.e hI19946 (b := 2) (((hF19947.1 176 2 (by decide)).trans hv19941))
            have x20067 := rX.e hI19946 (b := 4) (((hF19947.1 176 4 (by decide)).trans hv19943))
            obtain ⟨v20068, hv20068⟩ : ∃ v, gI g19923 176 6 = v := ⟨_, rfl⟩
            have tv20068 := congrArg Int32.toInt hv20068
            have x20069 := rX.e hI19946 (b := 6) (((hF19947.1 176 6 (by decide)).trans hv20068))
            obtain ⟨v20070, hv20070⟩ : ∃ v, gI g0 176 2 = v := ⟨_, rfl⟩
            have tv20070 := congrArg Int32.toInt hv20070
            have x20071 := rX.e hI0 (b := 2) (hv20070)
            have x20072 := rX.e hI0 (b := 4) (hv19250)
            have x20073 := rX.e hI19232 (b := 2) (hv19934)
            have x20074 := rX.e hI19232 (b := 4) (hv19253)
            have x20075 := rX.e hI19924 (b := 2) (hv19941)
            have x20076 := rX.e hI19924 (b := 4) (hv19943)
            have x20077 := rX.e hI19924 (b := 6) (hv20068)
            have pr20078 : _ ∧ _ ∧ _ := o19939
            exact ⟨_, rfl, hI19946, hF19950, rfl, ⟨⟨(TKX.c o19930 ((hF19947.2.1 175 (by decide))) ((hF19947.1 174 1 (by decide))) ((hF19947.1 176 3 (by decide))) ((hF19947.1 176 4 (by decide))) ((hF19947.1 176 5 (by decide)))), ((PRG0.tr ((PRG0.tr (q19245) (o19939))) (PRG0.fail 1 (rX.c (b := 4) ((hF19947.1 176 4 (by decide)))) (fun _ => by omega) (fun _ => by omega) (by omega)))).le (by omega), PLO.cmpF q19244 (TKX.someC q19243 ((hF19233.2.1 175 (by decide))) ((hF19233.1 174 1 (by decide)))).choose_spec (by omega) o19940 (TKX.someC o19930 (((hF19925.2.1 175 (by decide)).trans ((hF19914.2.1 175 (by decide)).trans ((hF19905.2.1 175 (by decide)).trans (hF19233.2.1 175 (by decide)))))) (((hF19925.1 174 1 (by decide)).trans ((hF19914.1 174 1 (by decide)).trans ((hF19905.1 174 1 (by decide)).trans (hF19233.1 174 1 (by decide))))))).choose_spec o19933 (by omega) (fun _ => by omega) (fun _ => by omega) (by omega)⟩, (fun hz => absurd hz (by omega))⟩⟩
          · have c20065_ : v19941.toInt = (-1) := en_i_ne_f c20065
            refine At.enter rfl ?_
            refine r_aload_n rfl ?_
            refine r_aload_n rfl ?_
            refine q_getI (Sh.int hI19946.1 kx_176 rfl) v19943 ((hF19947.1 176 4 (by decide)).trans hv19943) ?_
            refine q_putI (Sh.int hI19946.1 kx_176 rfl) rfl ?_
            have hI20079 := HI.wI0 hI19946 kx_176 rfl (p := 176) (b := 2) (v := v19943) rfl
            have hF20080 := Fr.wI (p := 176) (b := 2) (v := v19943) hF19950 rfl
            refine Ar.fall 16 rfl ?_
            refine At.enter rfl ?_
            refine q_vret ?_
            refine At.enter rfl ?_
            refine r_vret ?_
            have x20081 := rX.e hI20079 (b := 2) ((gI_sI_eq hI19946.1 kx_176 rfl _))
            have x20082 := rX.e hI20079 (b := 4) ((((gI_sI_ne (by decide)).trans (hF19947.1 176 4 (by decide))).trans hv19943))
            obtain ⟨v20083, hv20083⟩ : ∃ v, gI g19923 176 6 = v := ⟨_, rfl⟩
            have tv20083 := congrArg Int32.toInt hv20083
            have x20084 := rX.e hI20079 (b := 6) ((((gI_sI_ne (by decide)).trans (hF19947.1 176 6 (by decide))).trans hv20083))
            obtain ⟨v20085, hv20085⟩ : ∃ v, gI g0 176 2 = v := ⟨_, rfl⟩
            have tv20085 := congrArg Int32.toInt hv20085
            have x20086 := rX.e hI0 (b := 2) (hv20085)
            have x20087 := rX.e hI0 (b := 4) (hv19250)
            have x20088 := rX.e hI19232 (b := 2) (hv19934)
            have x20089 := rX.e hI19232 (b := 4) (hv19253)
            have x20090 := rX.e hI19924 (b := 2) (hv19941)
            have x20091 := rX.e hI19924 (b := 4) (hv19943)
            have x20092 := rX.e hI19924 (b := 6) (hv20083)
            have pr20093 : _ ∧ _ ∧ _ := o19939
            exact ⟨_, rfl, hI20079, hF20080, rfl, ⟨⟨(TKX.c o19930 (((gA_sI).trans (hF19947.2.1 175 (by decide)))) (((gI_sI_ne (by decide)).trans (hF19947.1 174 1 (by decide)))) (((gI_sI_ne (by decide)).trans (hF19947.1 176 3 (by decide)))) (((gI_sI_ne (by decide)).trans (hF19947.1 176 4 (by decide)))) (((gI_sI_ne (by decide)).trans (hF19947.1 176 5 (by decide))))), ((PRG0.tr ((PRG0.tr (q19245) (o19939))) (PRG0.fail 1 (rX.c (b := 4) (((gI_sI_ne (by decide)).trans (hF19947.1 176 4 (by decide))))) (fun _ => by omega) (fun _ => by omega) (by omega)))).le (by omega), PLO.cmpF q19244 (TKX.someC q19243 ((hF19233.2.1 175 (by decide))) ((hF19233.1 174 1 (by decide)))).choose_spec (by omega) o19940 (TKX.someC o19930 (((hF19925.2.1 175 (by decide)).trans ((hF19914.2.1 175 (by decide)).trans ((hF19905.2.1 175 (by decide)).trans (hF19233.2.1 175 (by decide)))))) (((hF19925.1 174 1 (by decide)).trans ((hF19914.1 174 1 (by decide)).trans ((hF19905.1 174 1 (by decide)).trans (hF19233.1 174 1 (by decide))))))).choose_spec o19933 (by omega) (fun _ => by omega) (fun _ => by omega) (by omega)⟩, (fun hz => absurd hz (by omega))⟩⟩
      · have c19920_ : v19915.toInt ≠ 0 := en_k_eq_f c19920
        have i20094 := BL.yes hb19919 (by omega)
        refine At.enter rfl ?_
        refine r_aload_n e19237 ?_
        refine r_iload_n e19238 ?_
        refine q_inlV 54 rfl [.ref 176, .int a1] [] (Nat.le_of_ble_eq_true rfl) rfl ?_
        refine Ev.mk rfl rfl ⟨Nat.le_of_ble_eq_true rfl, Or.inr (q_rc hI19913.1 kx_176 rfl)⟩ ?_
        show At _ none _ _ (0, [(0, .ref 176), (1, .int a1)], [], (_, _)) _
        refine At.enter rfl ?_
        refine r_iload_n rfl ?_
        refine r_bipush 8 rfl ?_
        refine r_ics 6 rfl (fun c20095 => ?_) (fun c20095 => ?_)
        · have c20095_ : a1.toInt < 8 := en_i_lt_t c20095
          refine At.enter rfl ?_
          refine r_aload_n rfl ?_
          refine r_callV 17 rfl [.ref 176] [] (Nat.le_of_ble_eq_true rfl) rfl (T_X5_step_176 _ hI19913 (TKX.c q19243 (((hF19914.2.1 175 (by decide)).trans (hF19905.2.1 175 (by decide)))) (((hF19914.1 174 1 (by decide)).trans (hF19905.1 174 1 (by decide)))) (((hF19914.1 176 3 (by decide)).trans (hF19905.1 176 3 (by decide)))) (((hF19914.1 176 4 (by decide)).trans (hF19905.1 176 4 (by decide)))) (((hF19914.1 176 5 (by decide)).trans (hF19905.1 176 5 (by decide))))).1 (TKX.c q19243 (((hF19914.2.1 175 (by decide)).trans (hF19905.2.1 175 (by decide)))) (((hF19914.1 174 1 (by decide)).trans (hF19905.1 174 1 (by decide)))) (((hF19914.1 176 3 (by decide)).trans (hF19905.1 176 3 (by decide)))) (((hF19914.1 176 4 (by decide)).trans (hF19905.1 176 4 (by decide)))) (((hF19914.1 176 5 (by decide)).trans (hF19905.1 176 5 (by decide))))).2.1.le.2.1) ?_
          rintro _ _ ⟨g20096, rfl, hI20097, hF20098, rfl, hr20100⟩
          refine At.stn ?_
          have hF20101 := Fr.tr hF19917 hF20098 rfl rfl
          have tok20102_ := hr20100.2
          rw [TX.c (((hF19914.2.1 175 (by decide)).trans (hF19905.2.1 175 (by decide)))), nX.c (((hF19914.1 174 1 (by decide)).trans (hF19905.1 174 1 (by decide)))), rX.c (b := 5) (((hF19914.1 176 5 (by decide)).trans (hF19905.1 176 5 (by decide))))] at tok20102_
          have tok20102 := TKX.tok q19243 tok20102_
          rw [TX.c ((hF19233.2.1 175 (by decide))), nX.c ((hF19233.1 174 1 (by decide)))] at tok20102
          have hT20103 := hr20100.1
          have x20104 := rX.e hI19913 (b := 4) ((((hF19914.1 176 4 (by decide)).trans (hF19905.1 176 4 (by decide))).trans hv19253))
          obtain ⟨v20105, hv20105⟩ : ∃ v, gI g20096 176 4 = v := ⟨_, rfl⟩
          have rv20105 := RgF.at hI20097.2.1 (p := 176) (b := 4) rfl
          rw [hv20105] at rv20105
          dsimp only at rv20105
          have tv20105 := congrArg Int32.toInt hv20105
          have x20106 := rX.e hI20097 (b := 4) (hv20105)
          refine At.enter rfl ?_
          refine q_vret ?_
          refine At.enter rfl ?_
          refine r_aload_n e19237 ?_
          obtain ⟨v20107, hv20107⟩ : ∃ v, gI g19231 176 2 = v := ⟨_, rfl⟩
          refine q_getI (Sh.int hI20097.1 kx_176 rfl) v20107 (((hF20098.1 176 2 (by decide)).trans ((hF19914.1 176 2 (by decide)).trans (hF19905.1 176 2 (by decide)))).trans hv20107) ?_
          refine r_iconst (-1) rfl ?_
          refine r_ics 62 rfl (fun c20108 => ?_) (fun c20108 => ?_)
          · have c20108_ : v20107.toInt ≠ (-1) := en_i_ne_t c20108
            refine At.enter rfl ?_
            refine r_iload_n e19239 ?_
            refine r_ifs 124 rfl (fun c20109 => ?_) (fun c20109 => ?_)
            · have c20109_ : x19229.toInt = 0 := en_k_eq_t c20109
              refine At.enter rfl ?_
              refine r_vret ?_
              have x20110 := rX.e hI20097 (b := 2) ((((hF20098.1 176 2 (by decide)).trans ((hF19914.1 176 2 (by decide)).trans (hF19905.1 176 2 (by decide)))).trans hv20107))
              have x20111 := rX.e hI20097 (b := 4) (hv20105)
              obtain ⟨v20112, hv20112⟩ : ∃ v, gI g19231 176 6 = v := ⟨_, rfl⟩
              have tv20112 := congrArg Int32.toInt hv20112
              have x20113 := rX.e hI20097 (b := 6) ((((hF20098.1 176 6 (by decide)).trans ((hF19914.1 176 6 (by decide)).trans (hF19905.1 176 6 (by decide)))).trans hv20112))
              obtain ⟨v20114, hv20114⟩ : ∃ v, gI g0 176 2 = v := ⟨_, rfl⟩
              have tv20114 := congrArg Int32.toInt hv20114
              have x20115 := rX.e hI0 (b := 2) (hv20114)
              have x20116 := rX.e hI0 (b := 4) (hv19250)
              have x20117 := rX.e hI19232 (b := 2) (hv20107)
              have x20118 := rX.e hI19232 (b := 4) (hv19253)
              have x20119 := rX.e hI20097 (b := 2) ((((hF20098.1 176 2 (by decide)).trans ((hF19914.1 176 2 (by decide)).trans (hF19905.1 176 2 (by decide)))).trans hv20107))
              have x20120 := rX.e hI20097 (b := 4) (hv20105)
              have x20121 := rX.e hI20097 (b := 6) ((((hF20098.1 176 6 (by decide)).trans ((hF19914.1 176 6 (by decide)).trans (hF19905.1 176 6 (by decide)))).trans hv20112))
              exact ⟨_, rfl, hI20097, hF20101, rfl, ⟨⟨hT20103, ((PRG0.tr ((PRG0.tr (q19245) (PRG0.step q19243 tok20102_ (rX.c (b := 2) (((hF20098.1 176 2 (by decide)).trans ((hF19914.1 176 2 (by decide)).trans (hF19905.1 176 2 (by decide)))))) (by omega)))) (PRG0.eq rfl rfl))).le (by omega), PLO.bad (g1 := g19231) q19244 (by omega) (rX.c (b := 2) (((hF20098.1 176 2 (by decide)).trans ((hF19914.1 176 2 (by decide)).trans (hF19905.1 176 2 (by decide))))))⟩, (fun hz => absurd hz (by omega))⟩⟩
            · have c20109_ : x19229.toInt ≠ 0 := en_k_eq_f c20109
              refine At.enter rfl ?_
              refine r_aload_n e19237 ?_
              refine q_getR (Sh.ref hI20097.1 kx_176 rfl) ?_
              refine r_bipush 9 rfl ?_
              refine r_iconst 0 rfl ?_
              refine r_callV 134 rfl [.ref 177, .int 9, .int 0] [] (Nat.le_of_ble_eq_true rfl) rfl (T_X4_add_177 _ hI20097 9 0) ?_
              rintro _ _ ⟨g20122, rfl, hI20123, hF20124, v20125, rfl, hr20126⟩
              refine At.sti ?_
              have hF20127 := Fr.tr hF20101 hF20124 rfl rfl
              have zv20128 : (9 : Int32).toInt = 9 := rfl
              have zv20129 : (0 : Int32).toInt = 0 := rfl
              refine At.enter rfl ?_
              refine r_pop rfl ?_
              refine Ar.fall 135 rfl ?_
              refine At.enter rfl ?_
              refine r_vret ?_
              have x20130 := rX.e hI20123 (b := 2) ((((hF20124.1 176 2 (by decide)).trans ((hF20098.1 176 2 (by decide)).trans ((hF19914.1 176 2 (by decide)).trans (hF19905.1 176 2 (by decide))))).trans hv20107))
              have x20131 := rX.e hI20123 (b := 4) (((hF20124.1 176 4 (by decide)).trans hv20105))
              obtain ⟨v20132, hv20132⟩ : ∃ v, gI g19231 176 6 = v := ⟨_, rfl⟩
              have tv20132 := congrArg Int32.toInt hv20132
              have x20133 := rX.e hI20123 (b := 6) ((((hF20124.1 176 6 (by decide)).trans ((hF20098.1 176 6 (by decide)).trans ((hF19914.1 176 6 (by decide)).trans (hF19905.1 176 6 (by decide))))).trans hv20132))
              obtain ⟨v20134, hv20134⟩ : ∃ v, gI g0 176 2 = v := ⟨_, rfl⟩
              have tv20134 := congrArg Int32.toInt hv20134
              have x20135 := rX.e hI0 (b := 2) (hv20134)
              have x20136 := rX.e hI0 (b := 4) (hv19250)
              have x20137 := rX.e hI19232 (b := 2) (hv20107)
              have x20138 := rX.e hI19232 (b := 4) (hv19253)
              have x20139 := rX.e hI20097 (b := 2) ((((hF20098.1 176 2 (by decide)).trans ((hF19914.1 176 2 (by decide)).trans (hF19905.1 176 2 (by decide)))).trans hv20107))
              have x20140 := rX.e hI20097 (b := 4) (hv20105)
              have x20141 := rX.e hI20097 (b := 6) ((((hF20098.1 176 6 (by decide)).trans ((hF19914.1 176 6 (by decide)).trans (hF19905.1 176 6 (by decide)))).trans hv20132))
              exact ⟨_, rfl, hI20123, hF20127, rfl, ⟨⟨(TKX.c hT20103 ((hF20124.2.1 175 (by decide))) ((hF20124.1 174 1 (by decide))) ((hF20124.1 176 3 (by decide))) ((hF20124.1 176 4 (by decide))) ((hF20124.1 176 5 (by decide)))), ((PRG0.tr ((PRG0.tr (q19245) (PRG0.step q19243 tok20102_ (rX.c (b := 2) (((hF20098.1 176 2 (by decide)).trans ((hF19914.1 176 2 (by decide)).trans (hF19905.1 176 2 (by decide)))))) (by omega)))) (PRG0.eq (rX.c (b := 4) ((hF20124.1 176 4 (by decide)))) (rX.c (b := 2) ((hF20124.1 176 2 (by decide))))))).le (by omega), PLO.bad (g1 := g19231) q19244 (by omega) (rX.c (b := 2) (((hF20124.1 176 2 (by decide)).trans ((hF20098.1 176 2 (by decide)).trans ((hF19914.1 176 2 (by decide)).trans (hF19905.1 176 2 (by decide)))))))⟩, (fun hz => absurd hz (by omega))⟩⟩
          · have c20108_ : v20107.toInt = (-1) := en_i_ne_f c20108
            refine At.enter rfl ?_
            refine r_aload_n e19237 ?_
            refine r_iconst 0 rfl ?_
            refine r_iload_n e19238 ?_
            refine r_iconst 1 rfl ?_
            refine q_iadd (a1.toInt + 1) rfl (by omega) (fun v20142 hv20142 => ?_)
            have zv20143 : (0 : Int32).toInt = 0 := rfl
            refine r_callV 70 rfl [.ref 176, .int 0, .int v20142] [] (Nat.le_of_ble_eq_true rfl) rfl (IHJ _ (by omega) hI20097 0 (by decide) v20142 (by omega) (by omega) hT20103) ?_
            rintro _ _ ⟨g20144, rfl, hI20145, hF20146, rfl, hr20148⟩
            refine At.stn ?_
            have hF20149 := Fr.tr hF20101 hF20146 rfl rfl
            have zv20150 : (0 : Int32).toInt = 0 := rfl
            have x20155 := rX.e hI20097 (b := 2) ((((hF20098.1 176 2 (by decide)).trans ((hF19914.1 176 2 (by decide)).trans (hF19905.1 176 2 (by decide)))).trans hv20107))
            have x20156 := rX.e hI20097 (b := 4) (hv20105)
            obtain ⟨o20151, o20152, o20153, o20154⟩ := hr20148.1
            have gx20157 := hr20148.2
            rw [TX.ci hI20097 (((hF20098.2.1 175 (by decide)).trans ((hF19914.2.1 175 (by decide)).trans ((hF19905.2.1 175 (by decide)).trans (hF19233.2.1 175 (by decide)))))), nX.ci hI20097 (((hF20098.1 174 1 (by decide)).trans ((hF19914.1 174 1 (by decide)).trans ((hF19905.1 174 1 (by decide)).trans (hF19233.1 174 1 (by decide))))))] at gx20157
            have o20158 := OPD.tc o20153 (((hF20098.2.1 175 (by decide)).trans ((hF19914.2.1 175 (by decide)).trans ((hF19905.2.1 175 (by decide)).trans (hF19233.2.1 175 (by decide)))))) (((hF20098.1 174 1 (by decide)).trans ((hF19914.1 174 1 (by decide)).trans ((hF19905.1 174 1 (by decide)).trans (hF19233.1 174 1 (by decide))))))
            obtain ⟨v20159, hv20159⟩ : ∃ v, gI g20144 176 2 = v := ⟨_, rfl⟩
            have tv20159 := congrArg Int32.toInt hv20159
            have x20160 := rX.e hI20145 (b := 2) (hv20159)
            obtain ⟨v20161, hv20161⟩ : ∃ v, gI g20144 176 4 = v := ⟨_, rfl⟩
            have rv20161 := RgF.at hI20145.2.1 (p := 176) (b := 4) rfl
            rw [hv20161] at rv20161
            dsimp only at rv20161
            have tv20161 := congrArg Int32.toInt hv20161
            have x20162 := rX.e hI20145 (b := 4) (hv20161)
            refine At.enter rfl ?_
            refine r_aload_n e19237 ?_
            refine r_bipush 41 rfl ?_
            refine q_inlV 76 rfl [.ref 176, .int 41] [] (Nat.le_of_ble_eq_true rfl) rfl ?_
            refine Ev.mk rfl rfl ⟨Nat.le_of_ble_eq_true rfl, Or.inr (q_rc hI20145.1 kx_176 rfl)⟩ ?_
            show At _ none _ _ (0, [(0, .ref 176), (1, .int 41)], [], (_, _)) _
            refine At.enter rfl ?_
            refine r_aload_n rfl ?_
            refine r_iload_n rfl ?_
            refine r_callV 5 rfl [.ref 176, .int 41] [] (Nat.le_of_ble_eq_true rfl) rfl (T_X5_isSingle_176 _ hI20145 41 (by decide)) ?_
            rintro _ _ ⟨g20163, rfl, hI20164, hF20165, v20166, rfl, hr20167⟩
            refine At.sti ?_
            have hF20168 := Fr.tr hF20149 hF20165 rfl rfl
            have zv20169 : (41 : Int32).toInt = 41 := rfl
            have hb20170 : BL (CDX g20144 = 9) v20166.toInt := ISX.code (c := 9) hr20167.2 o20151 (isSC_d (by omega)) (by decide)
            refine At.enter rfl ?_
            refine r_ifs 8 rfl (fun c20171 => ?_) (fun c20171 => ?_)
            · have c20171_ : v20166.toInt = 0 := en_k_eq_t c20171
              have i20172 := BL.no hb20170 (by omega)
              refine At.enter rfl ?_
              refine r_aload_n rfl ?_
              refine q_inlV 19 rfl [.ref 176] [] (Nat.le_of_ble_eq_true rfl) rfl ?_
              refine Ev.mk rfl rfl ⟨Nat.le_of_ble_eq_true rfl, Or.inr (q_rc hI20164.1 kx_176 rfl)⟩ ?_
              show At _ none _ _ (0, [(0, .ref 176)], [], (_, _)) _
              refine At.enter rfl ?_
              refine r_aload_n rfl ?_
              refine q_getI (Sh.int hI20164.1 kx_176 rfl) v20159 ((hF20165.1 176 2 (by decide)).trans hv20159) ?_
              refine r_iconst (-1) rfl ?_
              refine r_ics 8 rfl (fun c20173 => ?_) (fun c20173 => ?_)
              · have c20173_ : v20159.toInt ≠ (-1) := en_i_ne_t c20173
                refine At.enter rfl ?_
                refine q_vret ?_
                refine At.enter rfl ?_
                refine q_vret ?_
                refine At.enter rfl ?_
                refine r_goto ?_
                refine At.enter rfl ?_
                refine r_iload_n e19239 ?_
                refine r_ifs 124 rfl (fun c20174 => ?_) (fun c20174 => ?_)
                · have c20174_ : x19229.toInt = 0 := en_k_eq_t c20174
                  refine At.enter rfl ?_
                  refine r_vret ?_
                  have x20175 := rX.e hI20164 (b := 2) (((hF20165.1 176 2 (by decide)).trans hv20159))
                  have x20176 := rX.e hI20164 (b := 4) (((hF20165.1 176 4 (by decide)).trans hv20161))
                  obtain ⟨v20177, hv20177⟩ : ∃ v, gI g20144 176 6 = v := ⟨_, rfl⟩
                  have tv20177 := congrArg Int32.toInt hv20177
                  have x20178 := rX.e hI20164 (b := 6) (((hF20165.1 176 6 (by decide)).trans hv20177))
                  obtain ⟨v20179, hv20179⟩ : ∃ v, gI g0 176 2 = v := ⟨_, rfl⟩
                  have tv20179 := congrArg Int32.toInt hv20179
                  have x20180 := rX.e hI0 (b := 2) (hv20179)
                  have x20181 := rX.e hI0 (b := 4) (hv19250)
                  have x20182 := rX.e hI19232 (b := 2) (hv20107)
                  have x20183 := rX.e hI19232 (b := 4) (hv19253)
                  have x20184 := rX.e hI20097 (b := 2) ((((hF20098.1 176 2 (by decide)).trans ((hF19914.1 176 2 (by decide)).trans (hF19905.1 176 2 (by decide)))).trans hv20107))
                  have x20185 := rX.e hI20097 (b := 4) (hv20105)
                  obtain ⟨v20186, hv20186⟩ : ∃ v, gI g19231 176 6 = v := ⟨_, rfl⟩
                  have tv20186 := congrArg Int32.toInt hv20186
                  have x20187 := rX.e hI20097 (b := 6) ((((hF20098.1 176 6 (by decide)).trans ((hF19914.1 176 6 (by decide)).trans (hF19905.1 176 6 (by decide)))).trans hv20186))
                  have x20188 := rX.e hI20145 (b := 2) (hv20159)
                  have x20189 := rX.e hI20145 (b := 4) (hv20161)
                  have x20190 := rX.e hI20145 (b := 6) (hv20177)
                  have pr20191 : _ ∧ _ ∧ _ := o20152
                  exact ⟨_, rfl, hI20164, hF20168, rfl, ⟨⟨(TKX.c o20151 ((hF20165.2.1 175 (by decide))) ((hF20165.1 174 1 (by decide))) ((hF20165.1 176 3 (by decide))) ((hF20165.1 176 4 (by decide))) ((hF20165.1 176 5 (by decide)))), ((PRG0.tr ((PRG0.tr ((PRG0.tr (q19245) (PRG0.step q19243 tok20102_ (rX.c (b := 2) (((hF20098.1 176 2 (by decide)).trans ((hF19914.1 176 2 (by decide)).trans (hF19905.1 176 2 (by decide)))))) (by omega)))) (o20152))) (PRG0.fail 1 (rX.c (b := 4) ((hF20165.1 176 4 (by decide)))) (fun _ => by omega) (fun _ => by omega) (by omega)))).le (by omega), PLO.rndF q19244 tok20102 (by omega) (by omega) (rX.c (b := 2) (((hF20098.1 176 2 (by decide)).trans ((hF19914.1 176 2 (by decide)).trans (hF19905.1 176 2 (by decide)))))) (rX.c (b := 6) (((hF20098.1 176 6 (by decide)).trans ((hF19914.1 176 6 (by decide)).trans (hF19905.1 176 6 (by decide)))))) (OPD.cast o20158 rfl (by omega)) (TKX.someC o20151 (((hF20146.2.1 175 (by decide)).trans ((hF20098.2.1 175 (by decide)).trans ((hF19914.2.1 175 (by decide)).trans ((hF19905.2.1 175 (by decide)).trans (hF19233.2.1 175 (by decide))))))) (((hF20146.1 174 1 (by decide)).trans ((hF20098.1 174 1 (by decide)).trans ((hF19914.1 174 1 (by decide)).trans ((hF19905.1 174 1 (by decide)).trans (hF19233.1 174 1 (by decide)))))))).choose_spec o20154 (by omega) (fun _ => by omega) (fun _ => by omega) (by omega)⟩, (fun hz => absurd hz (by omega))⟩⟩
                · have c20174_ : x19229.toInt ≠ 0 := en_k_eq_f c20174
                  refine At.enter rfl ?_
                  refine r_aload_n e19237 ?_
                  refine q_getR (Sh.ref hI20164.1 kx_176 rfl) ?_
                  refine r_bipush 9 rfl ?_
                  refine r_iconst 0 rfl ?_
                  refine r_callV 134 rfl [.ref 177, .int 9, .int 0] [] (Nat.le_of_ble_eq_true rfl) rfl (T_X4_add_177 _ hI20164 9 0) ?_
                  rintro _ _ ⟨g20192, rfl, hI20193, hF20194, v20195, rfl, hr20196⟩
                  refine At.sti ?_
                  have hF20197 := Fr.tr hF20168 hF20194 rfl rfl
                  have zv20198 : (9 : Int32).toInt = 9 := rfl
                  have zv20199 : (0 : Int32).toInt = 0 := rfl
                  refine At.enter rfl ?_
                  refine r_pop rfl ?_
                  refine Ar.fall 135 rfl ?_
                  refine At.enter rfl ?_
                  refine r_vret ?_
                  have x20200 := rX.e hI20193 (b := 2) ((((hF20194.1 176 2 (by decide)).trans (hF20165.1 176 2 (by decide))).trans hv20159))
                  have x20201 := rX.e hI20193 (b := 4) ((((hF20194.1 176 4 (by decide)).trans (hF20165.1 176 4 (by decide))).trans hv20161))
                  obtain ⟨v20202, hv20202⟩ : ∃ v, gI g20144 176 6 = v := ⟨_, rfl⟩
                  have tv20202 := congrArg Int32.toInt hv20202
                  have x20203 := rX.e hI20193 (b := 6) ((((hF20194.1 176 6 (by decide)).trans (hF20165.1 176 6 (by decide))).trans hv20202))
                  obtain ⟨v20204, hv20204⟩ : ∃ v, gI g0 176 2 = v := ⟨_, rfl⟩
                  have tv20204 := congrArg Int32.toInt hv20204
                  have x20205 := rX.e hI0 (b := 2) (hv20204)
                  have x20206 := rX.e hI0 (b := 4) (hv19250)
                  have x20207 := rX.e hI19232 (b := 2) (hv20107)
                  have x20208 := rX.e hI19232 (b := 4) (hv19253)
                  have x20209 := rX.e hI20097 (b := 2) ((((hF20098.1 176 2 (by decide)).trans ((hF19914.1 176 2 (by decide)).trans (hF19905.1 176 2 (by decide)))).trans hv20107))
                  have x20210 := rX.e hI20097 (b := 4) (hv20105)
                  obtain ⟨v20211, hv20211⟩ : ∃ v, gI g19231 176 6 = v := ⟨_, rfl⟩
                  have tv20211 := congrArg Int32.toInt hv20211
                  have x20212 := rX.e hI20097 (b := 6) ((((hF20098.1 176 6 (by decide)).trans ((hF19914.1 176 6 (by decide)).trans (hF19905.1 176 6 (by decide)))).trans hv20211))
                  have x20213 := rX.e hI20145 (b := 2) (hv20159)
                  have x20214 := rX.e hI20145 (b := 4) (hv20161)
                  have x20215 := rX.e hI20145 (b := 6) (hv20202)
                  have pr20216 : _ ∧ _ ∧ _ := o20152
                  exact ⟨_, rfl, hI20193, hF20197, rfl, ⟨⟨(TKX.c o20151 (((hF20194.2.1 175 (by decide)).trans (hF20165.2.1 175 (by decide)))) (((hF20194.1 174 1 (by decide)).trans (hF20165.1 174 1 (by decide)))) (((hF20194.1 176 3 (by decide)).trans (hF20165.1 176 3 (by decide)))) (((hF20194.1 176 4 (by decide)).trans (hF20165.1 176 4 (by decide)))) (((hF20194.1 176 5 (by decide)).trans (hF20165.1 176 5 (by decide))))), ((PRG0.tr ((PRG0.tr ((PRG0.tr (q19245) (PRG0.step q19243 tok20102_ (rX.c (b := 2) (((hF20098.1 176 2 (by decide)).trans ((hF19914.1 176 2 (by decide)).trans (hF19905.1 176 2 (by decide)))))) (by omega)))) (o20152))) (PRG0.fail 1 (rX.c (b := 4) (((hF20194.1 176 4 (by decide)).trans (hF20165.1 176 4 (by decide))))) (fun _ => by omega) (fun _ => by omega) (by omega)))).le (by omega), PLO.rndF q19244 tok20102 (by omega) (by omega) (rX.c (b := 2) (((hF20098.1 176 2 (by decide)).trans ((hF19914.1 176 2 (by decide)).trans (hF19905.1 176 2 (by decide)))))) (rX.c (b := 6) (((hF20098.1 176 6 (by decide)).trans ((hF19914.1 176 6 (by decide)).trans (hF19905.1 176 6 (by decide)))))) (OPD.cast o20158 rfl (by omega)) (TKX.someC o20151 (((hF20146.2.1 175 (by decide)).trans ((hF20098.2.1 175 (by decide)).trans ((hF19914.2.1 175 (by decide)).trans ((hF19905.2.1 175 (by decide)).trans (hF19233.2.1 175 (by decide))))))) (((hF20146.1 174 1 (by decide)).trans ((hF20098.1 174 1 (by decide)).trans ((hF19914.1 174 1 (by decide)).trans ((hF19905.1 174 1 (by decide)).trans (hF19233.1 174 1 (by decide)))))))).choose_spec o20154 (by omega) (fun _ => by omega) (fun _ => by omega) (by omega)⟩, (fun hz => absurd hz (by omega))⟩⟩
              · have c20173_ : v20159.toInt = (-1) := en_i_ne_f c20173
                refine At.enter rfl ?_
                refine r_aload_n rfl ?_
                refine r_aload_n rfl ?_
                refine q_getI (Sh.int hI20164.1 kx_176 rfl) v20161 ((hF20165.1 176 4 (by decide)).trans hv20161) ?_
                refine q_putI (Sh.int hI20164.1 kx_176 rfl) rfl ?_
                have hI20217 := HI.wI0 hI20164 kx_176 rfl (p := 176) (b := 2) (v := v20161) rfl
                have hF20218 := Fr.wI (p := 176) (b := 2) (v := v20161) hF20168 rfl
                refine Ar.fall 16 rfl ?_
                refine At.enter rfl ?_
                refine q_vret ?_
                refine At.enter rfl ?_
                refine q_vret ?_
                refine At.enter rfl ?_
                refine r_goto ?_
                refine At.enter rfl ?_
                refine r_iload_n e19239 ?_
                refine r_ifs 124 rfl (fun c20219 => ?_) (fun c20219 => ?_)
                · have c20219_ : x19229.toInt = 0 := en_k_eq_t c20219
                  refine At.enter rfl ?_
                  refine r_vret ?_
                  have x20220 := rX.e hI20217 (b := 2) ((gI_sI_eq hI20164.1 kx_176 rfl _))
                  have x20221 := rX.e hI20217 (b := 4) ((((gI_sI_ne (by decide)).trans (hF20165.1 176 4 (by decide))).trans hv20161))
                  obtain ⟨v20222, hv20222⟩ : ∃ v, gI g20144 176 6 = v := ⟨_, rfl⟩
                  have tv20222 := congrArg Int32.toInt hv20222
                  have x20223 := rX.e hI20217 (b := 6) ((((gI_sI_ne (by decide)).trans (hF20165.1 176 6 (by decide))).trans hv20222))
                  obtain ⟨v20224, hv20224⟩ : ∃ v, gI g0 176 2 = v := ⟨_, rfl⟩
                  have tv20224 := congrArg Int32.toInt hv20224
                  have x20225 := rX.e hI0 (b := 2) (hv20224)
                  have x20226 := rX.e hI0 (b := 4) (hv19250)
                  have x20227 := rX.e hI19232 (b := 2) (hv20107)
                  have x20228 := rX.e hI19232 (b := 4) (hv19253)
                  have x20229 := rX.e hI20097 (b := 2) ((((hF20098.1 176 2 (by decide)).trans ((hF19914.1 176 2 (by decide)).trans (hF19905.1 176 2 (by decide)))).trans hv20107))
                  have x20230 := rX.e hI20097 (b := 4) (hv20105)
                  obtain ⟨v20231, hv20231⟩ : ∃ v, gI g19231 176 6 = v := ⟨_, rfl⟩
                  have tv20231 := congrArg Int32.toInt hv20231
                  have x20232 := rX.e hI20097 (b := 6) ((((hF20098.1 176 6 (by decide)).trans ((hF19914.1 176 6 (by decide)).trans (hF19905.1 176 6 (by decide)))).trans hv20231))
                  have x20233 := rX.e hI20145 (b := 2) (hv20159)
                  have x20234 := rX.e hI20145 (b := 4) (hv20161)
                  have x20235 := rX.e hI20145 (b := 6) (hv20222)
                  have pr20236 : _ ∧ _ ∧ _ := o20152
                  exact ⟨_, rfl, hI20217, hF20218, rfl, ⟨⟨(TKX.c o20151 (((gA_sI).trans (hF20165.2.1 175 (by decide)))) (((gI_sI_ne (by decide)).trans (hF20165.1 174 1 (by decide)))) (((gI_sI_ne (by decide)).trans (hF20165.1 176 3 (by decide)))) (((gI_sI_ne (by decide)).trans (hF20165.1 176 4 (by decide)))) (((gI_sI_ne (by decide)).trans (hF20165.1 176 5 (by decide))))), ((PRG0.tr ((PRG0.tr ((PRG0.tr (q19245) (PRG0.step q19243 tok20102_ (rX.c (b := 2) (((hF20098.1 176 2 (by decide)).trans ((hF19914.1 176 2 (by decide)).trans (hF19905.1 176 2 (by decide)))))) (by omega)))) (o20152))) (PRG0.fail 1 (rX.c (b := 4) (((gI_sI_ne (by decide)).trans (hF20165.1 176 4 (by decide))))) (fun _ => by omega) (fun _ => by omega) (by omega)))).le (by omega), PLO.rndF q19244 tok20102 (by omega) (by omega) (rX.c (b := 2) (((hF20098.1 176 2 (by decide)).trans ((hF19914.1 176 2 (by decide)).trans (hF19905.1 176 2 (by decide)))))) (rX.c (b := 6) (((hF20098.1 176 6 (by decide)).trans ((hF19914.1 176 6 (by decide)).trans (hF19905.1 176 6 (by decide)))))) (OPD.cast o20158 rfl (by omega)) (TKX.someC o20151 (((hF20146.2.1 175 (by decide)).trans ((hF20098.2.1 175 (by decide)).trans ((hF19914.2.1 175 (by decide)).trans ((hF19905.2.1 175 (by decide)).trans (hF19233.2.1 175 (by decide))))))) (((hF20146.1 174 1 (by decide)).trans ((hF20098.1 174 1 (by decide)).trans ((hF19914.1 174 1 (by decide)).trans ((hF19905.1 174 1 (by decide)).trans (hF19233.1 174 1 (by decide)))))))).choose_spec o20154 (by omega) (fun _ => by omega) (fun _ => by omega) (by omega)⟩, (fun hz => absurd hz (by omega))⟩⟩
                · have c20219_ : x19229.toInt ≠ 0 := en_k_eq_f c20219
                  refine At.enter rfl ?_
                  refine r_aload_n e19237 ?_
                  refine q_getR (Sh.ref hI20217.1 kx_176 rfl) ?_
                  refine r_bipush 9 rfl ?_
                  refine r_iconst 0 rfl ?_
                  refine r_callV 134 rfl [.ref 177, .int 9, .int 0] [] (Nat.le_of_ble_eq_true rfl) rfl (T_X4_add_177 _ hI20217 9 0) ?_
                  rintro _ _ ⟨g20237, rfl, hI20238, hF20239, v20240, rfl, hr20241⟩
                  refine At.sti ?_
                  have hF20242 := Fr.tr hF20218 hF20239 rfl rfl
                  have zv20243 : (9 : Int32).toInt = 9 := rfl
                  have zv20244 : (0 : Int32).toInt = 0 := rfl
                  refine At.enter rfl ?_
                  refine r_pop rfl ?_
                  refine Ar.fall 135 rfl ?_
                  refine At.enter rfl ?_
                  refine r_vret ?_
                  have x20245 := rX.e hI20238 (b := 2) (((hF20239.1 176 2 (by decide)).trans (gI_sI_eq hI20164.1 kx_176 rfl _)))
                  have x20246 := rX.e hI20238 (b := 4) ((((hF20239.1 176 4 (by decide)).trans ((gI_sI_ne (by decide)).trans (hF20165.1 176 4 (by decide)))).trans hv20161))
                  obtain ⟨v20247, hv20247⟩ : ∃ v, gI g20144 176 6 = v := ⟨_, rfl⟩
                  have tv20247 := congrArg Int32.toInt hv20247
                  have x20248 := rX.e hI20238 (b := 6) ((((hF20239.1 176 6 (by decide)).trans ((gI_sI_ne (by decide)).trans (hF20165.1 176 6 (by decide)))).trans hv20247))
                  obtain ⟨v20249, hv20249⟩ : ∃ v, gI g0 176 2 = v := ⟨_, rfl⟩
                  have tv20249 := congrArg Int32.toInt hv20249
                  have x20250 := rX.e hI0 (b := 2) (hv20249)
                  have x20251 := rX.e hI0 (b := 4) (hv19250)
                  have x20252 := rX.e hI19232 (b := 2) (hv20107)
                  have x20253 := rX.e hI19232 (b := 4) (hv19253)
                  have x20254 := rX.e hI20097 (b := 2) ((((hF20098.1 176 2 (by decide)).trans ((hF19914.1 176 2 (by decide)).trans (hF19905.1 176 2 (by decide)))).trans hv20107))
                  have x20255 := rX.e hI20097 (b := 4) (hv20105)
                  obtain ⟨v20256, hv20256⟩ : ∃ v, gI g19231 176 6 = v := ⟨_, rfl⟩
                  have tv20256 := congrArg Int32.toInt hv20256
                  have x20257 := rX.e hI20097 (b := 6) ((((hF20098.1 176 6 (by decide)).trans ((hF19914.1 176 6 (by decide)).trans (hF19905.1 176 6 (by decide)))).trans hv20256))
                  have x20258 := rX.e hI20145 (b := 2) (hv20159)
                  have x20259 := rX.e hI20145 (b := 4) (hv20161)
                  have x20260 := rX.e hI20145 (b := 6) (hv20247)
                  have pr20261 : _ ∧ _ ∧ _ := o20152
                  exact ⟨_, rfl, hI20238, hF20242, rfl, ⟨⟨(TKX.c o20151 (((hF20239.2.1 175 (by decide)).trans ((gA_sI).trans (hF20165.2.1 175 (by decide))))) (((hF20239.1 174 1 (by decide)).trans ((gI_sI_ne (by decide)).trans (hF20165.1 174 1 (by decide))))) (((hF20239.1 176 3 (by decide)).trans ((gI_sI_ne (by decide)).trans (hF20165.1 176 3 (by decide))))) (((hF20239.1 176 4 (by decide)).trans ((gI_sI_ne (by decide)).trans (hF20165.1 176 4 (by decide))))) (((hF20239.1 176 5 (by decide)).trans ((gI_sI_ne (by decide)).trans (hF20165.1 176 5 (by decide)))))), ((PRG0.tr ((PRG0.tr ((PRG0.tr (q19245) (PRG0.step q19243 tok20102_ (rX.c (b := 2) (((hF20098.1 176 2 (by decide)).trans ((hF19914.1 176 2 (by decide)).trans (hF19905.1 176 2 (by decide)))))) (by omega)))) (o20152))) (PRG0.fail 1 (rX.c (b := 4) (((hF20239.1 176 4 (by decide)).trans ((gI_sI_ne (by decide)).trans (hF20165.1 176 4 (by decide)))))) (fun _ => by omega) (fun _ => by omega) (by omega)))).le (by omega), PLO.rndF q19244 tok20102 (by omega) (by omega) (rX.c (b := 2) (((hF20098.1 176 2 (by decide)).trans ((hF19914.1 176 2 (by decide)).trans (hF19905.1 176 2 (by decide)))))) (rX.c (b := 6) (((hF20098.1 176 6 (by decide)).trans ((hF19914.1 176 6 (by decide)).trans (hF19905.1 176 6 (by decide)))))) (OPD.cast o20158 rfl (by omega)) (TKX.someC o20151 (((hF20146.2.1 175 (by decide)).trans ((hF20098.2.1 175 (by decide)).trans ((hF19914.2.1 175 (by decide)).trans ((hF19905.2.1 175 (by decide)).trans (hF19233.2.1 175 (by decide))))))) (((hF20146.1 174 1 (by decide)).trans ((hF20098.1 174 1 (by decide)).trans ((hF19914.1 174 1 (by decide)).trans ((hF19905.1 174 1 (by decide)).trans (hF19233.1 174 1 (by decide)))))))).choose_spec o20154 (by omega) (fun _ => by omega) (fun _ => by omega) (by omega)⟩, (fun hz => absurd hz (by omega))⟩⟩
            · have c20171_ : v20166.toInt ≠ 0 := en_k_eq_f c20171
              have i20262 := BL.yes hb20170 (by omega)
              refine At.enter rfl ?_
              refine r_aload_n rfl ?_
              refine r_callV 12 rfl [.ref 176] [] (Nat.le_of_ble_eq_true rfl) rfl (T_X5_step_176 _ hI20164 (TKX.c o20151 ((hF20165.2.1 175 (by decide))) ((hF20165.1 174 1 (by decide))) ((hF20165.1 176 3 (by decide))) ((hF20165.1 176 4 (by decide))) ((hF20165.1 176 5 (by decide)))).1 (TKX.c o20151 ((hF20165.2.1 175 (by decide))) ((hF20165.1 174 1 (by decide))) ((hF20165.1 176 3 (by decide))) ((hF20165.1 176 4 (by decide))) ((hF20165.1 176 5 (by decide)))).2.1.le.2.1) ?_
              rintro _ _ ⟨g20263, rfl, hI20264, hF20265, rfl, hr20267⟩
              refine At.stn ?_
              have hF20268 := Fr.tr hF20168 hF20265 rfl rfl
              have tok20269_ := hr20267.2
              rw [TX.c ((hF20165.2.1 175 (by decide))), nX.c ((hF20165.1 174 1 (by decide))), rX.c (b := 5) ((hF20165.1 176 5 (by decide)))] at tok20269_
              have tok20269 := TKX.tok o20151 tok20269_
              rw [TX.c (((hF20146.2.1 175 (by decide)).trans ((hF20098.2.1 175 (by decide)).trans ((hF19914.2.1 175 (by decide)).trans ((hF19905.2.1 175 (by decide)).trans (hF19233.2.1 175 (by decide))))))), nX.c (((hF20146.1 174 1 (by decide)).trans ((hF20098.1 174 1 (by decide)).trans ((hF19914.1 174 1 (by decide)).trans ((hF19905.1 174 1 (by decide)).trans (hF19233.1 174 1 (by decide)))))))] at tok20269
              have hT20270 := hr20267.1
              have x20271 := rX.e hI20164 (b := 4) (((hF20165.1 176 4 (by decide)).trans hv20161))
              obtain ⟨v20272, hv20272⟩ : ∃ v, gI g20263 176 4 = v := ⟨_, rfl⟩
              have rv20272 := RgF.at hI20264.2.1 (p := 176) (b := 4) rfl
              rw [hv20272] at rv20272
              dsimp only at rv20272
              have tv20272 := congrArg Int32.toInt hv20272
              have x20273 := rX.e hI20264 (b := 4) (hv20272)
              refine At.enter rfl ?_
              refine r_goto ?_
              refine At.enter rfl ?_
              refine q_vret ?_
              refine At.enter rfl ?_
              refine r_goto ?_
              refine At.enter rfl ?_
              refine r_iload_n e19239 ?_
              refine r_ifs 124 rfl (fun c20274 => ?_) (fun c20274 => ?_)
              · have c20274_ : x19229.toInt = 0 := en_k_eq_t c20274
                refine At.enter rfl ?_
                refine r_vret ?_
                have x20275 := rX.e hI20264 (b := 2) ((((hF20265.1 176 2 (by decide)).trans (hF20165.1 176 2 (by decide))).trans hv20159))
                have x20276 := rX.e hI20264 (b := 4) (hv20272)
                obtain ⟨v20277, hv20277⟩ : ∃ v, gI g20144 176 6 = v := ⟨_, rfl⟩
                have tv20277 := congrArg Int32.toInt hv20277
                have x20278 := rX.e hI20264 (b := 6) ((((hF20265.1 176 6 (by decide)).trans (hF20165.1 176 6 (by decide))).trans hv20277))
                obtain ⟨v20279, hv20279⟩ : ∃ v, gI g0 176 2 = v := ⟨_, rfl⟩
                have tv20279 := congrArg Int32.toInt hv20279
                have x20280 := rX.e hI0 (b := 2) (hv20279)
                have x20281 := rX.e hI0 (b := 4) (hv19250)
                have x20282 := rX.e hI19232 (b := 2) (hv20107)
                have x20283 := rX.e hI19232 (b := 4) (hv19253)
                have x20284 := rX.e hI20097 (b := 2) ((((hF20098.1 176 2 (by decide)).trans ((hF19914.1 176 2 (by decide)).trans (hF19905.1 176 2 (by decide)))).trans hv20107))
                have x20285 := rX.e hI20097 (b := 4) (hv20105)
                obtain ⟨v20286, hv20286⟩ : ∃ v, gI g19231 176 6 = v := ⟨_, rfl⟩
                have tv20286 := congrArg Int32.toInt hv20286
                have x20287 := rX.e hI20097 (b := 6) ((((hF20098.1 176 6 (by decide)).trans ((hF19914.1 176 6 (by decide)).trans (hF19905.1 176 6 (by decide)))).trans hv20286))
                have x20288 := rX.e hI20145 (b := 2) (hv20159)
                have x20289 := rX.e hI20145 (b := 4) (hv20161)
                have x20290 := rX.e hI20145 (b := 6) (hv20277)
                have x20291 := rX.e hI20264 (b := 2) ((((hF20265.1 176 2 (by decide)).trans (hF20165.1 176 2 (by decide))).trans hv20159))
                have x20292 := rX.e hI20264 (b := 4) (hv20272)
                have x20293 := rX.e hI20264 (b := 6) ((((hF20265.1 176 6 (by decide)).trans (hF20165.1 176 6 (by decide))).trans hv20277))
                have pr20294 : _ ∧ _ ∧ _ := o20152
                have x20295 := rX.e hI19232 (b := 2) (hv20107)
                have x20296 := rX.e hI19232 (b := 4) (hv19253)
                have x20297 := rX.e hI20097 (b := 2) ((((hF20098.1 176 2 (by decide)).trans ((hF19914.1 176 2 (by decide)).trans (hF19905.1 176 2 (by decide)))).trans hv20107))
                have x20298 := rX.e hI20097 (b := 4) (hv20105)
                have x20299 := rX.e hI20145 (b := 2) (hv20159)
                have x20300 := rX.e hI20145 (b := 4) (hv20161)
                have x20301 := rX.e hI20264 (b := 2) ((((hF20265.1 176 2 (by decide)).trans (hF20165.1 176 2 (by decide))).trans hv20159))
                have x20302 := rX.e hI20264 (b := 4) (hv20272)
                exact ⟨_, rfl, hI20264, hF20268, rfl, ⟨⟨hT20270, ((PRG0.tr ((PRG0.tr ((PRG0.tr ((PRG0.tr (q19245) (PRG0.step q19243 tok20102_ (rX.c (b := 2) (((hF20098.1 176 2 (by decide)).trans ((hF19914.1 176 2 (by decide)).trans (hF19905.1 176 2 (by decide)))))) (by omega)))) (o20152))) (PRG0.step o20151 tok20269_ (rX.c (b := 2) (((hF20265.1 176 2 (by decide)).trans (hF20165.1 176 2 (by decide))))) (by omega)))) (PRG0.eq rfl rfl))).le (by omega), PLO.rnd q19244 tok20102 (by omega) (by omega) (rX.c (b := 2) (((hF20098.1 176 2 (by decide)).trans ((hF19914.1 176 2 (by decide)).trans (hF19905.1 176 2 (by decide)))))) (rX.c (b := 6) (((hF20098.1 176 6 (by decide)).trans ((hF19914.1 176 6 (by decide)).trans (hF19905.1 176 6 (by decide)))))) (OPD.cast o20158 rfl (by omega)) tok20269 (by omega) (rX.c (b := 2) (((hF20265.1 176 2 (by decide)).trans (hF20165.1 176 2 (by decide))))) (rX.c (b := 6) (((hF20265.1 176 6 (by decide)).trans (hF20165.1 176 6 (by decide))))) rfl rfl rfl⟩, (by first | exact (fun hz => absurd hz (by omega)) | exact PLG.rnd q19247 tok20102 (by omega) (TOK_lt tok20102 (by omega)) (SCX.x (SCX.mk (((hF20098.2.1 178 (by decide)).trans ((hF19914.2.1 178 (by decide)).trans (hF19905.2.1 178 (by decide))))) (((hF20098.2.1 179 (by decide)).trans ((hF19914.2.1 179 (by decide)).trans (hF19905.2.1 179 (by decide))))) (((hF20098.1 177 0 (by decide)).trans ((hF19914.1 177 0 (by decide)).trans (hF19905.1 177 0 (by decide)))))) (rX.c (b := 6) (((hF20098.1 176 6 (by decide)).trans ((hF19914.1 176 6 (by decide)).trans (hF19905.1 176 6 (by decide))))))) (GPX.k gx20157 (by decide) (by decide) (by decide) (by decide)) tok20269 (by omega) (TOK_lt tok20269 (by omega)) (SCX.x (SCX.mk (((hF20265.2.1 178 (by decide)).trans (hF20165.2.1 178 (by decide)))) (((hF20265.2.1 179 (by decide)).trans (hF20165.2.1 179 (by decide)))) (((hF20265.1 177 0 (by decide)).trans (hF20165.1 177 0 (by decide))))) (rX.c (b := 6) (((hF20265.1 176 6 (by decide)).trans (hF20165.1 176 6 (by decide)))))) (TKX.someC hT20270 (((hF20265.2.1 175 (by decide)).trans ((hF20165.2.1 175 (by decide)).trans ((hF20146.2.1 175 (by decide)).trans ((hF20098.2.1 175 (by decide)).trans ((hF19914.2.1 175 (by decide)).trans ((hF19905.2.1 175 (by decide)).trans (hF19233.2.1 175 (by decide))))))))) (((hF20265.1 174 1 (by decide)).trans ((hF20165.1 174 1 (by decide)).trans ((hF20146.1 174 1 (by decide)).trans ((hF20098.1 174 1 (by decide)).trans ((hF19914.1 174 1 (by decide)).trans ((hF19905.1 174 1 (by decide)).trans (hF19233.1 174 1 (by decide)))))))))).choose_spec (fun _ _ => Or.inl ⟨by omega, (SCX.x SCX.rf rfl)⟩) rfl (fun z => by omega) (fun z => by omega))⟩⟩
              · have c20274_ : x19229.toInt ≠ 0 := en_k_eq_f c20274
                refine At.enter rfl ?_
                refine r_aload_n e19237 ?_
                refine q_getR (Sh.ref hI20264.1 kx_176 rfl) ?_
                refine r_bipush 9 rfl ?_
                refine r_iconst 0 rfl ?_
                refine r_callV 134 rfl [.ref 177, .int 9, .int 0] [] (Nat.le_of_ble_eq_true rfl) rfl (T_X4_add_177 _ hI20264 9 0) ?_
                rintro _ _ ⟨g20303, rfl, hI20304, hF20305, v20306, rfl, hr20307⟩
                refine At.sti ?_
                have hF20308 := Fr.tr hF20268 hF20305 rfl rfl
                have zv20309 : (9 : Int32).toInt = 9 := rfl
                have zv20310 : (0 : Int32).toInt = 0 := rfl
                refine At.enter rfl ?_
                refine r_pop rfl ?_
                refine Ar.fall 135 rfl ?_
                refine At.enter rfl ?_
                refine r_vret ?_
                have x20311 := rX.e hI20304 (b := 2) ((((hF20305.1 176 2 (by decide)).trans ((hF20265.1 176 2 (by decide)).trans (hF20165.1 176 2 (by decide)))).trans hv20159))
                have x20312 := rX.e hI20304 (b := 4) (((hF20305.1 176 4 (by decide)).trans hv20272))
                obtain ⟨v20313, hv20313⟩ : ∃ v, gI g20144 176 6 = v := ⟨_, rfl⟩
                have tv20313 := congrArg Int32.toInt hv20313
                have x20314 := rX.e hI20304 (b := 6) ((((hF20305.1 176 6 (by decide)).trans ((hF20265.1 176 6 (by decide)).trans (hF20165.1 176 6 (by decide)))).trans hv20313))
                obtain ⟨v20315, hv20315⟩ : ∃ v, gI g0 176 2 = v := ⟨_, rfl⟩
                have tv20315 := congrArg Int32.toInt hv20315
                have x20316 := rX.e hI0 (b := 2) (hv20315)
                have x20317 := rX.e hI0 (b := 4) (hv19250)
                have x20318 := rX.e hI19232 (b := 2) (hv20107)
                have x20319 := rX.e hI19232 (b := 4) (hv19253)
                have x20320 := rX.e hI20097 (b := 2) ((((hF20098.1 176 2 (by decide)).trans ((hF19914.1 176 2 (by decide)).trans (hF19905.1 176 2 (by decide)))).trans hv20107))
                have x20321 := rX.e hI20097 (b := 4) (hv20105)
                obtain ⟨v20322, hv20322⟩ : ∃ v, gI g19231 176 6 = v := ⟨_, rfl⟩
                have tv20322 := congrArg Int32.toInt hv20322
                have x20323 := rX.e hI20097 (b := 6) ((((hF20098.1 176 6 (by decide)).trans ((hF19914.1 176 6 (by decide)).trans (hF19905.1 176 6 (by decide)))).trans hv20322))
                have x20324 := rX.e hI20145 (b := 2) (hv20159)
                have x20325 := rX.e hI20145 (b := 4) (hv20161)
                have x20326 := rX.e hI20145 (b := 6) (hv20313)
                have x20327 := rX.e hI20264 (b := 2) ((((hF20265.1 176 2 (by decide)).trans (hF20165.1 176 2 (by decide))).trans hv20159))
                have x20328 := rX.e hI20264 (b := 4) (hv20272)
                have x20329 := rX.e hI20264 (b := 6) ((((hF20265.1 176 6 (by decide)).trans (hF20165.1 176 6 (by decide))).trans hv20313))
                have pr20330 : _ ∧ _ ∧ _ := o20152
                have x20331 := rX.e hI19232 (b := 2) (hv20107)
                have x20332 := rX.e hI19232 (b := 4) (hv19253)
                have x20333 := rX.e hI20097 (b := 2) ((((hF20098.1 176 2 (by decide)).trans ((hF19914.1 176 2 (by decide)).trans (hF19905.1 176 2 (by decide)))).trans hv20107))
                have x20334 := rX.e hI20097 (b := 4) (hv20105)
                have x20335 := rX.e hI20145 (b := 2) (hv20159)
                have x20336 := rX.e hI20145 (b := 4) (hv20161)
                have x20337 := rX.e hI20264 (b := 2) ((((hF20265.1 176 2 (by decide)).trans (hF20165.1 176 2 (by decide))).trans hv20159))
                have x20338 := rX.e hI20264 (b := 4) (hv20272)
                exact ⟨_, rfl, hI20304, hF20308, rfl, ⟨⟨(TKX.c hT20270 ((hF20305.2.1 175 (by decide))) ((hF20305.1 174 1 (by decide))) ((hF20305.1 176 3 (by decide))) ((hF20305.1 176 4 (by decide))) ((hF20305.1 176 5 (by decide)))), ((PRG0.tr ((PRG0.tr ((PRG0.tr ((PRG0.tr (q19245) (PRG0.step q19243 tok20102_ (rX.c (b := 2) (((hF20098.1 176 2 (by decide)).trans ((hF19914.1 176 2 (by decide)).trans (hF19905.1 176 2 (by decide)))))) (by omega)))) (o20152))) (PRG0.step o20151 tok20269_ (rX.c (b := 2) (((hF20265.1 176 2 (by decide)).trans (hF20165.1 176 2 (by decide))))) (by omega)))) (PRG0.eq (rX.c (b := 4) ((hF20305.1 176 4 (by decide)))) (rX.c (b := 2) ((hF20305.1 176 2 (by decide))))))).le (by omega), PLO.rnd q19244 tok20102 (by omega) (by omega) (rX.c (b := 2) (((hF20098.1 176 2 (by decide)).trans ((hF19914.1 176 2 (by decide)).trans (hF19905.1 176 2 (by decide)))))) (rX.c (b := 6) (((hF20098.1 176 6 (by decide)).trans ((hF19914.1 176 6 (by decide)).trans (hF19905.1 176 6 (by decide)))))) (OPD.cast o20158 rfl (by omega)) tok20269 (by omega) (rX.c (b := 2) (((hF20265.1 176 2 (by decide)).trans (hF20165.1 176 2 (by decide))))) (rX.c (b := 6) (((hF20265.1 176 6 (by decide)).trans (hF20165.1 176 6 (by decide))))) (rX.c (b := 2) ((hF20305.1 176 2 (by decide)))) (rX.c (b := 4) ((hF20305.1 176 4 (by decide)))) (rX.c (b := 6) ((hF20305.1 176 6 (by decide))))⟩, (by first | exact (fun hz => absurd hz (by omega)) | exact PLG.rnd q19247 tok20102 (by omega) (TOK_lt tok20102 (by omega)) (SCX.x (SCX.mk (((hF20098.2.1 178 (by decide)).trans ((hF19914.2.1 178 (by decide)).trans (hF19905.2.1 178 (by decide))))) (((hF20098.2.1 179 (by decide)).trans ((hF19914.2.1 179 (by decide)).trans (hF19905.2.1 179 (by decide))))) (((hF20098.1 177 0 (by decide)).trans ((hF19914.1 177 0 (by decide)).trans (hF19905.1 177 0 (by decide)))))) (rX.c (b := 6) (((hF20098.1 176 6 (by decide)).trans ((hF19914.1 176 6 (by decide)).trans (hF19905.1 176 6 (by decide))))))) (GPX.k gx20157 (by decide) (by decide) (by decide) (by decide)) tok20269 (by omega) (TOK_lt tok20269 (by omega)) (SCX.x (SCX.mk (((hF20265.2.1 178 (by decide)).trans (hF20165.2.1 178 (by decide)))) (((hF20265.2.1 179 (by decide)).trans (hF20165.2.1 179 (by decide)))) (((hF20265.1 177 0 (by decide)).trans (hF20165.1 177 0 (by decide))))) (rX.c (b := 6) (((hF20265.1 176 6 (by decide)).trans (hF20165.1 176 6 (by decide)))))) (TKX.someC hT20270 (((hF20265.2.1 175 (by decide)).trans ((hF20165.2.1 175 (by decide)).trans ((hF20146.2.1 175 (by decide)).trans ((hF20098.2.1 175 (by decide)).trans ((hF19914.2.1 175 (by decide)).trans ((hF19905.2.1 175 (by decide)).trans (hF19233.2.1 175 (by decide))))))))) (((hF20265.1 174 1 (by decide)).trans ((hF20165.1 174 1 (by decide)).trans ((hF20146.1 174 1 (by decide)).trans ((hF20098.1 174 1 (by decide)).trans ((hF19914.1 174 1 (by decide)).trans ((hF19905.1 174 1 (by decide)).trans (hF19233.1 174 1 (by decide)))))))))).choose_spec (fun _ hl => Or.inr ⟨by omega, ADP.x (ADP.fr hr20307.2 SCX.rf SCX.rf) (by have hl2 := hl (by omega); omega) (rX.c (b := 6) ((hF20305.1 176 6 (by decide))))⟩) (rX.c (b := 4) ((hF20305.1 176 4 (by decide)))) (fun z => by omega) (fun z => by omega))⟩⟩
        · have c20095_ : a1.toInt ≥ 8 := en_i_lt_f c20095
          refine At.enter rfl ?_
          refine r_aload_n rfl ?_
          refine q_inlV 10 rfl [.ref 176] [] (Nat.le_of_ble_eq_true rfl) rfl ?_
          refine Ev.mk rfl rfl ⟨Nat.le_of_ble_eq_true rfl, Or.inr (q_rc hI19913.1 kx_176 rfl)⟩ ?_
          show At _ none _ _ (0, [(0, .ref 176)], [], (_, _)) _
          refine At.enter rfl ?_
          refine r_aload_n rfl ?_
          obtain ⟨v20339, hv20339⟩ : ∃ v, gI g19231 176 2 = v := ⟨_, rfl⟩
          refine q_getI (Sh.int hI19913.1 kx_176 rfl) v20339 (((hF19914.1 176 2 (by decide)).trans (hF19905.1 176 2 (by decide))).trans hv20339) ?_
          refine r_iconst (-1) rfl ?_
          refine r_ics 8 rfl (fun c20340 => ?_) (fun c20340 => ?_)
          · have c20340_ : v20339.toInt ≠ (-1) := en_i_ne_t c20340
            refine At.enter rfl ?_
            refine q_vret ?_
            refine At.enter rfl ?_
            refine r_goto ?_
            refine At.enter rfl ?_
            refine q_vret ?_
            refine At.enter rfl ?_
            refine r_aload_n e19237 ?_
            refine q_getI (Sh.int hI19913.1 kx_176 rfl) v20339 (((hF19914.1 176 2 (by decide)).trans (hF19905.1 176 2 (by decide))).trans hv20339) ?_
            refine r_iconst (-1) rfl ?_
            refine r_ics 62 rfl (fun c20341 => ?_) (fun c20341 => ?_)
            · have c20341_ : v20339.toInt ≠ (-1) := en_i_ne_t c20341
              refine At.enter rfl ?_
              refine r_iload_n e19239 ?_
              refine r_ifs 124 rfl (fun c20342 => ?_) (fun c20342 => ?_)
              · have c20342_ : x19229.toInt = 0 := en_k_eq_t c20342
                refine At.enter rfl ?_
                refine r_vret ?_
                have x20343 := rX.e hI19913 (b := 2) ((((hF19914.1 176 2 (by decide)).trans (hF19905.1 176 2 (by decide))).trans hv20339))
                have x20344 := rX.e hI19913 (b := 4) ((((hF19914.1 176 4 (by decide)).trans (hF19905.1 176 4 (by decide))).trans hv19253))
                obtain ⟨v20345, hv20345⟩ : ∃ v, gI g19231 176 6 = v := ⟨_, rfl⟩
                have tv20345 := congrArg Int32.toInt hv20345
                have x20346 := rX.e hI19913 (b := 6) ((((hF19914.1 176 6 (by decide)).trans (hF19905.1 176 6 (by decide))).trans hv20345))
                obtain ⟨v20347, hv20347⟩ : ∃ v, gI g0 176 2 = v := ⟨_, rfl⟩
                have tv20347 := congrArg Int32.toInt hv20347
                have x20348 := rX.e hI0 (b := 2) (hv20347)
                have x20349 := rX.e hI0 (b := 4) (hv19250)
                have x20350 := rX.e hI19232 (b := 2) (hv20339)
                have x20351 := rX.e hI19232 (b := 4) (hv19253)
                exact ⟨_, rfl, hI19913, hF19917, rfl, ⟨⟨(TKX.c q19243 (((hF19914.2.1 175 (by decide)).trans (hF19905.2.1 175 (by decide)))) (((hF19914.1 174 1 (by decide)).trans (hF19905.1 174 1 (by decide)))) (((hF19914.1 176 3 (by decide)).trans (hF19905.1 176 3 (by decide)))) (((hF19914.1 176 4 (by decide)).trans (hF19905.1 176 4 (by decide)))) (((hF19914.1 176 5 (by decide)).trans (hF19905.1 176 5 (by decide))))), ((PRG0.tr (q19245) (PRG0.fail 1 (rX.c (b := 4) (((hF19914.1 176 4 (by decide)).trans (hF19905.1 176 4 (by decide))))) (fun _ => by omega) (fun _ => by omega) (by omega)))).le (by omega), PLO.deep q19244 (TKX.someC q19243 ((hF19233.2.1 175 (by decide))) ((hF19233.1 174 1 (by decide)))).choose_spec (by omega) (by omega) (fun _ => by omega) (fun _ => by omega) (by omega)⟩, (fun hz => absurd hz (by omega))⟩⟩
              · have c20342_ : x19229.toInt ≠ 0 := en_k_eq_f c20342
                refine At.enter rfl ?_
                refine r_aload_n e19237 ?_
                refine q_getR (Sh.ref hI19913.1 kx_176 rfl) ?_
                refine r_bipush 9 rfl ?_
                refine r_iconst 0 rfl ?_
                refine r_callV 134 rfl [.ref 177, .int 9, .int 0] [] (Nat.le_of_ble_eq_true rfl) rfl (T_X4_add_177 _ hI19913 9 0) ?_
                rintro _ _ ⟨g20352, rfl, hI20353, hF20354, v20355, rfl, hr20356⟩
                refine At.sti ?_
                have hF20357 := Fr.tr hF19917 hF20354 rfl rfl
                have zv20358 : (9 : Int32).toInt = 9 := rfl
                have zv20359 : (0 : Int32).toInt = 0 := rfl
                refine At.enter rfl ?_
                refine r_pop rfl ?_
                refine Ar.fall 135 rfl ?_
                refine At.enter rfl ?_
                refine r_vret ?_
                have x20360 := rX.e hI20353 (b := 2) ((((hF20354.1 176 2 (by decide)).trans ((hF19914.1 176 2 (by decide)).trans (hF19905.1 176 2 (by decide)))).trans hv20339))
                have x20361 := rX.e hI20353 (b := 4) ((((hF20354.1 176 4 (by decide)).trans ((hF19914.1 176 4 (by decide)).trans (hF19905.1 176 4 (by decide)))).trans hv19253))
                obtain ⟨v20362, hv20362⟩ : ∃ v, gI g19231 176 6 = v := ⟨_, rfl⟩
                have tv20362 := congrArg Int32.toInt hv20362
                have x20363 := rX.e hI20353 (b := 6) ((((hF20354.1 176 6 (by decide)).trans ((hF19914.1 176 6 (by decide)).trans (hF19905.1 176 6 (by decide)))).trans hv20362))
                obtain ⟨v20364, hv20364⟩ : ∃ v, gI g0 176 2 = v := ⟨_, rfl⟩
                have tv20364 := congrArg Int32.toInt hv20364
                have x20365 := rX.e hI0 (b := 2) (hv20364)
                have x20366 := rX.e hI0 (b := 4) (hv19250)
                have x20367 := rX.e hI19232 (b := 2) (hv20339)
                have x20368 := rX.e hI19232 (b := 4) (hv19253)
                exact ⟨_, rfl, hI20353, hF20357, rfl, ⟨⟨(TKX.c q19243 (((hF20354.2.1 175 (by decide)).trans ((hF19914.2.1 175 (by decide)).trans (hF19905.2.1 175 (by decide))))) (((hF20354.1 174 1 (by decide)).trans ((hF19914.1 174 1 (by decide)).trans (hF19905.1 174 1 (by decide))))) (((hF20354.1 176 3 (by decide)).trans ((hF19914.1 176 3 (by decide)).trans (hF19905.1 176 3 (by decide))))) (((hF20354.1 176 4 (by decide)).trans ((hF19914.1 176 4 (by decide)).trans (hF19905.1 176 4 (by decide))))) (((hF20354.1 176 5 (by decide)).trans ((hF19914.1 176 5 (by decide)).trans (hF19905.1 176 5 (by decide)))))), ((PRG0.tr (q19245) (PRG0.fail 1 (rX.c (b := 4) (((hF20354.1 176 4 (by decide)).trans ((hF19914.1 176 4 (by decide)).trans (hF19905.1 176 4 (by decide)))))) (fun _ => by omega) (fun _ => by omega) (by omega)))).le (by omega), PLO.deep q19244 (TKX.someC q19243 ((hF19233.2.1 175 (by decide))) ((hF19233.1 174 1 (by decide)))).choose_spec (by omega) (by omega) (fun _ => by omega) (fun _ => by omega) (by omega)⟩, (fun hz => absurd hz (by omega))⟩⟩
            · have c20341_ : v20339.toInt = (-1) := en_i_ne_f c20341
              refine At.enter rfl ?_
              refine r_aload_n e19237 ?_
              refine r_iconst 0 rfl ?_
              refine r_iload_n e19238 ?_
              refine r_iconst 1 rfl ?_
              refine q_iadd (a1.toInt + 1) rfl (by omega) (fun v20369 hv20369 => ?_)
              have zv20370 : (0 : Int32).toInt = 0 := rfl
              refine r_callV 70 rfl [.ref 176, .int 0, .int v20369] [] (Nat.le_of_ble_eq_true rfl) rfl (IHJ _ (by omega) hI19913 0 (by decide) v20369 (by omega) (by omega) (TKX.c q19243 (((hF19914.2.1 175 (by decide)).trans (hF19905.2.1 175 (by decide)))) (((hF19914.1 174 1 (by decide)).trans (hF19905.1 174 1 (by decide)))) (((hF19914.1 176 3 (by decide)).trans (hF19905.1 176 3 (by decide)))) (((hF19914.1 176 4 (by decide)).trans (hF19905.1 176 4 (by decide)))) (((hF19914.1 176 5 (by decide)).trans (hF19905.1 176 5 (by decide)))))) ?_
              rintro _ _ ⟨g20371, rfl, hI20372, hF20373, rfl, hr20375⟩
              refine At.stn ?_
              have hF20376 := Fr.tr hF19917 hF20373 rfl rfl
              have zv20377 : (0 : Int32).toInt = 0 := rfl
              have x20382 := rX.e hI19913 (b := 2) ((((hF19914.1 176 2 (by decide)).trans (hF19905.1 176 2 (by decide))).trans hv20339))
              have x20383 := rX.e hI19913 (b := 4) ((((hF19914.1 176 4 (by decide)).trans (hF19905.1 176 4 (by decide))).trans hv19253))
              obtain ⟨o20378, o20379, o20380, o20381⟩ := hr20375.1
              have gx20384 := GPX.fr hr20375.2 (((hF19914.2.1 178 (by decide)).trans (hF19905.2.1 178 (by decide)))) (((hF19914.2.1 179 (by decide)).trans (hF19905.2.1 179 (by decide)))) (((hF19914.1 177 0 (by decide)).trans (hF19905.1 177 0 (by decide)))) (rX.c (b := 4) (((hF19914.1 176 4 (by decide)).trans (hF19905.1 176 4 (by decide))))) (rX.c (b := 6) (((hF19914.1 176 6 (by decide)).trans (hF19905.1 176 6 (by decide)))))
              rw [TX.ci hI19913 (((hF19914.2.1 175 (by decide)).trans ((hF19905.2.1 175 (by decide)).trans (hF19233.2.1 175 (by decide))))), nX.ci hI19913 (((hF19914.1 174 1 (by decide)).trans ((hF19905.1 174 1 (by decide)).trans (hF19233.1 174 1 (by decide)))))] at gx20384
              have o20385 := OPD.tc o20380 (((hF19914.2.1 175 (by decide)).trans ((hF19905.2.1 175 (by decide)).trans (hF19233.2.1 175 (by decide))))) (((hF19914.1 174 1 (by decide)).trans ((hF19905.1 174 1 (by decide)).trans (hF19233.1 174 1 (by decide)))))
              have o20386 := PRG0.fr o20379 (rX.c (b := 2) (((hF19914.1 176 2 (by decide)).trans (hF19905.1 176 2 (by decide))))) (rX.c (b := 4) (((hF19914.1 176 4 (by decide)).trans (hF19905.1 176 4 (by decide)))))
              have o20387 := OPD.fr o20385 (rX.c (b := 2) (((hF19914.1 176 2 (by decide)).trans (hF19905.1 176 2 (by decide))))) (rX.c (b := 4) (((hF19914.1 176 4 (by decide)).trans (hF19905.1 176 4 (by decide))))) (rX.c (b := 6) (((hF19914.1 176 6 (by decide)).trans (hF19905.1 176 6 (by decide)))))
              obtain ⟨v20388, hv20388⟩ : ∃ v, gI g20371 176 2 = v := ⟨_, rfl⟩
              have tv20388 := congrArg Int32.toInt hv20388
              have x20389 := rX.e hI20372 (b := 2) (hv20388)
              obtain ⟨v20390, hv20390⟩ : ∃ v, gI g20371 176 4 = v := ⟨_, rfl⟩
              have rv20390 := RgF.at hI20372.2.1 (p := 176) (b := 4) rfl
              rw [hv20390] at rv20390
              dsimp only at rv20390
              have tv20390 := congrArg Int32.toInt hv20390
              have x20391 := rX.e hI20372 (b := 4) (hv20390)
              refine At.enter rfl ?_
              refine r_aload_n e19237 ?_
              refine r_bipush 41 rfl ?_
              refine q_inlV 76 rfl [.ref 176, .int 41] [] (Nat.le_of_ble_eq_true rfl) rfl ?_
              refine Ev.mk rfl rfl ⟨Nat.le_of_ble_eq_true rfl, Or.inr (q_rc hI20372.1 kx_176 rfl)⟩ ?_
              show At _ none _ _ (0, [(0, .ref 176), (1, .int 41)], [], (_, _)) _
              refine At.enter rfl ?_
              refine r_aload_n rfl ?_
              refine r_iload_n rfl ?_
              refine r_callV 5 rfl [.ref 176, .int 41] [] (Nat.le_of_ble_eq_true rfl) rfl (T_X5_isSingle_176 _ hI20372 41 (by decide)) ?_
              rintro _ _ ⟨g20392, rfl, hI20393, hF20394, v20395, rfl, hr20396⟩
              refine At.sti ?_
              have hF20397 := Fr.tr hF20376 hF20394 rfl rfl
              have zv20398 : (41 : Int32).toInt = 41 := rfl
              have hb20399 : BL (CDX g20371 = 9) v20395.toInt := ISX.code (c := 9) hr20396.2 o20378 (isSC_d (by omega)) (by decide)
              refine At.enter rfl ?_
              refine r_ifs 8 rfl (fun c20400 => ?_) (fun c20400 => ?_)
              · have c20400_ : v20395.toInt = 0 := en_k_eq_t c20400
                have i20401 := BL.no hb20399 (by omega)
                refine At.enter rfl ?_
                refine r_aload_n rfl ?_
                refine q_inlV 19 rfl [.ref 176] [] (Nat.le_of_ble_eq_true rfl) rfl ?_
                refine Ev.mk rfl rfl ⟨Nat.le_of_ble_eq_true rfl, Or.inr (q_rc hI20393.1 kx_176 rfl)⟩ ?_
                show At _ none _ _ (0, [(0, .ref 176)], [], (_, _)) _
                refine At.enter rfl ?_
                refine r_aload_n rfl ?_
                refine q_getI (Sh.int hI20393.1 kx_176 rfl) v20388 ((hF20394.1 176 2 (by decide)).trans hv20388) ?_
                refine r_iconst (-1) rfl ?_
                refine r_ics 8 rfl (fun c20402 => ?_) (fun c20402 => ?_)
                · have c20402_ : v20388.toInt ≠ (-1) := en_i_ne_t c20402
                  refine At.enter rfl ?_
                  refine q_vret ?_
                  refine At.enter rfl ?_
                  refine q_vret ?_
                  refine At.enter rfl ?_
                  refine r_goto ?_
                  refine At.enter rfl ?_
                  refine r_iload_n e19239 ?_
                  refine r_ifs 124 rfl (fun c20403 => ?_) (fun c20403 => ?_)
                  · have c20403_ : x19229.toInt = 0 := en_k_eq_t c20403
                    refine At.enter rfl ?_
                    refine r_vret ?_
                    have x20404 := rX.e hI20393 (b := 2) (((hF20394.1 176 2 (by decide)).trans hv20388))
                    have x20405 := rX.e hI20393 (b := 4) (((hF20394.1 176 4 (by decide)).trans hv20390))
                    obtain ⟨v20406, hv20406⟩ : ∃ v, gI g20371 176 6 = v := ⟨_, rfl⟩
                    have tv20406 := congrArg Int32.toInt hv20406
                    have x20407 := rX.e hI20393 (b := 6) (((hF20394.1 176 6 (by decide)).trans hv20406))
                    obtain ⟨v20408, hv20408⟩ : ∃ v, gI g0 176 2 = v := ⟨_, rfl⟩
                    have tv20408 := congrArg Int32.toInt hv20408
                    have x20409 := rX.e hI0 (b := 2) (hv20408)
                    have x20410 := rX.e hI0 (b := 4) (hv19250)
                    have x20411 := rX.e hI19232 (b := 2) (hv20339)
                    have x20412 := rX.e hI19232 (b := 4) (hv19253)
                    have x20413 := rX.e hI20372 (b := 2) (hv20388)
                    have x20414 := rX.e hI20372 (b := 4) (hv20390)
                    have x20415 := rX.e hI20372 (b := 6) (hv20406)
                    have pr20416 : _ ∧ _ ∧ _ := o20386
                    exact ⟨_, rfl, hI20393, hF20397, rfl, ⟨(False.elim (by omega)), (fun hz => absurd hz (by omega))⟩⟩
                  · have c20403_ : x19229.toInt ≠ 0 := en_k_eq_f c20403
                    refine At.enter rfl ?_
                    refine r_aload_n e19237 ?_
                    refine q_getR (Sh.ref hI20393.1 kx_176 rfl) ?_
                    refine r_bipush 9 rfl ?_
                    refine r_iconst 0 rfl ?_
                    refine r_callV 134 rfl [.ref 177, .int 9, .int 0] [] (Nat.le_of_ble_eq_true rfl) rfl (T_X4_add_177 _ hI20393 9 0) ?_
                    rintro _ _ ⟨g20417, rfl, hI20418, hF20419, v20420, rfl, hr20421⟩
                    refine At.sti ?_
                    have hF20422 := Fr.tr hF20397 hF20419 rfl rfl
                    have zv20423 : (9 : Int32).toInt = 9 := rfl
                    have zv20424 : (0 : Int32).toInt = 0 := rfl
                    refine At.enter rfl ?_
                    refine r_pop rfl ?_
                    refine Ar.fall 135 rfl ?_
                    refine At.enter rfl ?_
                    refine r_vret ?_
                    have x20425 := rX.e hI20418 (b := 2) ((((hF20419.1 176 2 (by decide)).trans (hF20394.1 176 2 (by decide))).trans hv20388))
                    have x20426 := rX.e hI20418 (b := 4) ((((hF20419.1 176 4 (by decide)).trans (hF20394.1 176 4 (by decide))).trans hv20390))
                    obtain ⟨v20427, hv20427⟩ : ∃ v, gI g20371 176 6 = v := ⟨_, rfl⟩
                    have tv20427 := congrArg Int32.toInt hv20427
                    have x20428 := rX.e hI20418 (b := 6) ((((hF20419.1 176 6 (by decide)).trans (hF20394.1 176 6 (by decide))).trans hv20427))
                    obtain ⟨v20429, hv20429⟩ : ∃ v, gI g0 176 2 = v := ⟨_, rfl⟩
                    have tv20429 := congrArg Int32.toInt hv20429
                    have x20430 := rX.e hI0 (b := 2) (hv20429)
                    have x20431 := rX.e hI0 (b := 4) (hv19250)
                    have x20432 := rX.e hI19232 (b := 2) (hv20339)
                    have x20433 := rX.e hI19232 (b := 4) (hv19253)
                    have x20434 := rX.e hI20372 (b := 2) (hv20388)
                    have x20435 := rX.e hI20372 (b := 4) (hv20390)
                    have x20436 := rX.e hI20372 (b := 6) (hv20427)
                    have pr20437 : _ ∧ _ ∧ _ := o20386
                    exact ⟨_, rfl, hI20418, hF20422, rfl, ⟨(False.elim (by omega)), (fun hz => absurd hz (by omega))⟩⟩
                · have c20402_ : v20388.toInt = (-1) := en_i_ne_f c20402
                  refine At.enter rfl ?_
                  refine r_aload_n rfl ?_
                  refine r_aload_n rfl ?_
                  refine q_getI (Sh.int hI20393.1 kx_176 rfl) v20390 ((hF20394.1 176 4 (by decide)).trans hv20390) ?_
                  refine q_putI (Sh.int hI20393.1 kx_176 rfl) rfl ?_
                  have hI20438 := HI.wI0 hI20393 kx_176 rfl (p := 176) (b := 2) (v := v20390) rfl
                  have hF20439 := Fr.wI (p := 176) (b := 2) (v := v20390) hF20397 rfl
                  refine Ar.fall 16 rfl ?_
                  refine At.enter rfl ?_
                  refine q_vret ?_
                  refine At.enter rfl ?_
                  refine q_vret ?_
                  refine At.enter rfl ?_
                  refine r_goto ?_
                  refine At.enter rfl ?_
                  refine r_iload_n e19239 ?_
                  refine r_ifs 124 rfl (fun c20440 => ?_) (fun c20440 => ?_)
                  · have c20440_ : x19229.toInt = 0 := en_k_eq_t c20440
                    refine At.enter rfl ?_
                    refine r_vret ?_
                    have x20441 := rX.e hI20438 (b := 2) ((gI_sI_eq hI20393.1 kx_176 rfl _))
                    have x20442 := rX.e hI20438 (b := 4) ((((gI_sI_ne (by decide)).trans (hF20394.1 176 4 (by decide))).trans hv20390))
                    obtain ⟨v20443, hv20443⟩ : ∃ v, gI g20371 176 6 = v := ⟨_, rfl⟩
                    have tv20443 := congrArg Int32.toInt hv20443
                    have x20444 := rX.e hI20438 (b := 6) ((((gI_sI_ne (by decide)).trans (hF20394.1 176 6 (by decide))).trans hv20443))
                    obtain ⟨v20445, hv20445⟩ : ∃ v, gI g0 176 2 = v := ⟨_, rfl⟩
                    have tv20445 := congrArg Int32.toInt hv20445
                    have x20446 := rX.e hI0 (b := 2) (hv20445)
                    have x20447 := rX.e hI0 (b := 4) (hv19250)
                    have x20448 := rX.e hI19232 (b := 2) (hv20339)
                    have x20449 := rX.e hI19232 (b := 4) (hv19253)
                    have x20450 := rX.e hI20372 (b := 2) (hv20388)
                    have x20451 := rX.e hI20372 (b := 4) (hv20390)
                    have x20452 := rX.e hI20372 (b := 6) (hv20443)
                    have pr20453 : _ ∧ _ ∧ _ := o20386
                    exact ⟨_, rfl, hI20438, hF20439, rfl, ⟨(False.elim (by omega)), (fun hz => absurd hz (by omega))⟩⟩
                  · have c20440_ : x19229.toInt ≠ 0 := en_k_eq_f c20440
                    refine At.enter rfl ?_
                    refine r_aload_n e19237 ?_
                    refine q_getR (Sh.ref hI20438.1 kx_176 rfl) ?_
                    refine r_bipush 9 rfl ?_
                    refine r_iconst 0 rfl ?_
                    refine r_callV 134 rfl [.ref 177, .int 9, .int 0] [] (Nat.le_of_ble_eq_true rfl) rfl (T_X4_add_177 _ hI20438 9 0) ?_
                    rintro _ _ ⟨g20454, rfl, hI20455, hF20456, v20457, rfl, hr20458⟩
                    refine At.sti ?_
                    have hF20459 := Fr.tr hF20439 hF20456 rfl rfl
                    have zv20460 : (9 : Int32).toInt = 9 := rfl
                    have zv20461 : (0 : Int32).toInt = 0 := rfl
                    refine At.enter rfl ?_
                    refine r_pop rfl ?_
                    refine Ar.fall 135 rfl ?_
                    refine At.enter rfl ?_
                    refine r_vret ?_
                    have x20462 := rX.e hI20455 (b := 2) (((hF20456.1 176 2 (by decide)).trans (gI_sI_eq hI20393.1 kx_176 rfl _)))
                    have x20463 := rX.e hI20455 (b := 4) ((((hF20456.1 176 4 (by decide)).trans ((gI_sI_ne (by decide)).trans (hF20394.1 176 4 (by decide)))).trans hv20390))
                    obtain ⟨v20464, hv20464⟩ : ∃ v, gI g20371 176 6 = v := ⟨_, rfl⟩
                    have tv20464 := congrArg Int32.toInt hv20464
                    have x20465 := rX.e hI20455 (b := 6) ((((hF20456.1 176 6 (by decide)).trans ((gI_sI_ne (by decide)).trans (hF20394.1 176 6 (by decide)))).trans hv20464))
                    obtain ⟨v20466, hv20466⟩ : ∃ v, gI g0 176 2 = v := ⟨_, rfl⟩
                    have tv20466 := congrArg Int32.toInt hv20466
                    have x20467 := rX.e hI0 (b := 2) (hv20466)
                    have x20468 := rX.e hI0 (b := 4) (hv19250)
                    have x20469 := rX.e hI19232 (b := 2) (hv20339)
                    have x20470 := rX.e hI19232 (b := 4) (hv19253)
                    have x20471 := rX.e hI20372 (b := 2) (hv20388)
                    have x20472 := rX.e hI20372 (b := 4) (hv20390)
                    have x20473 := rX.e hI20372 (b := 6) (hv20464)
                    have pr20474 : _ ∧ _ ∧ _ := o20386
                    exact ⟨_, rfl, hI20455, hF20459, rfl, ⟨(False.elim (by omega)), (fun hz => absurd hz (by omega))⟩⟩
              · have c20400_ : v20395.toInt ≠ 0 := en_k_eq_f c20400
                have i20475 := BL.yes hb20399 (by omega)
                refine At.enter rfl ?_
                refine r_aload_n rfl ?_
                refine r_callV 12 rfl [.ref 176] [] (Nat.le_of_ble_eq_true rfl) rfl (T_X5_step_176 _ hI20393 (TKX.c o20378 ((hF20394.2.1 175 (by decide))) ((hF20394.1 174 1 (by decide))) ((hF20394.1 176 3 (by decide))) ((hF20394.1 176 4 (by decide))) ((hF20394.1 176 5 (by decide)))).1 (TKX.c o20378 ((hF20394.2.1 175 (by decide))) ((hF20394.1 174 1 (by decide))) ((hF20394.1 176 3 (by decide))) ((hF20394.1 176 4 (by decide))) ((hF20394.1 176 5 (by decide)))).2.1.le.2.1) ?_
                rintro _ _ ⟨g20476, rfl, hI20477, hF20478, rfl, hr20480⟩
                refine At.stn ?_
                have hF20481 := Fr.tr hF20397 hF20478 rfl rfl
                have tok20482_ := hr20480.2
                rw [TX.c ((hF20394.2.1 175 (by decide))), nX.c ((hF20394.1 174 1 (by decide))), rX.c (b := 5) ((hF20394.1 176 5 (by decide)))] at tok20482_
                have tok20482 := TKX.tok o20378 tok20482_
                rw [TX.c (((hF20373.2.1 175 (by decide)).trans ((hF19914.2.1 175 (by decide)).trans ((hF19905.2.1 175 (by decide)).trans (hF19233.2.1 175 (by decide)))))), nX.c (((hF20373.1 174 1 (by decide)).trans ((hF19914.1 174 1 (by decide)).trans ((hF19905.1 174 1 (by decide)).trans (hF19233.1 174 1 (by decide))))))] at tok20482
                have hT20483 := hr20480.1
                have x20484 := rX.e hI20393 (b := 4) (((hF20394.1 176 4 (by decide)).trans hv20390))
                obtain ⟨v20485, hv20485⟩ : ∃ v, gI g20476 176 4 = v := ⟨_, rfl⟩
                have rv20485 := RgF.at hI20477.2.1 (p := 176) (b := 4) rfl
                rw [hv20485] at rv20485
                dsimp only at rv20485
                have tv20485 := congrArg Int32.toInt hv20485
                have x20486 := rX.e hI20477 (b := 4) (hv20485)
                refine At.enter rfl ?_
                refine r_goto ?_
                refine At.enter rfl ?_
                refine q_vret ?_
                refine At.enter rfl ?_
                refine r_goto ?_
                refine At.enter rfl ?_
                refine r_iload_n e19239 ?_
                refine r_ifs 124 rfl (fun c20487 => ?_) (fun c20487 => ?_)
                · have c20487_ : x19229.toInt = 0 := en_k_eq_t c20487
                  refine At.enter rfl ?_
                  refine r_vret ?_
                  have x20488 := rX.e hI20477 (b := 2) ((((hF20478.1 176 2 (by decide)).trans (hF20394.1 176 2 (by decide))).trans hv20388))
                  have x20489 := rX.e hI20477 (b := 4) (hv20485)
                  obtain ⟨v20490, hv20490⟩ : ∃ v, gI g20371 176 6 = v := ⟨_, rfl⟩
                  have tv20490 := congrArg Int32.toInt hv20490
                  have x20491 := rX.e hI20477 (b := 6) ((((hF20478.1 176 6 (by decide)).trans (hF20394.1 176 6 (by decide))).trans hv20490))
                  obtain ⟨v20492, hv20492⟩ : ∃ v, gI g0 176 2 = v := ⟨_, rfl⟩
                  have tv20492 := congrArg Int32.toInt hv20492
                  have x20493 := rX.e hI0 (b := 2) (hv20492)
                  have x20494 := rX.e hI0 (b := 4) (hv19250)
                  have x20495 := rX.e hI19232 (b := 2) (hv20339)
                  have x20496 := rX.e hI19232 (b := 4) (hv19253)
                  have x20497 := rX.e hI20372 (b := 2) (hv20388)
                  have x20498 := rX.e hI20372 (b := 4) (hv20390)
                  have x20499 := rX.e hI20372 (b := 6) (hv20490)
                  have x20500 := rX.e hI20477 (b := 2) ((((hF20478.1 176 2 (by decide)).trans (hF20394.1 176 2 (by decide))).trans hv20388))
                  have x20501 := rX.e hI20477 (b := 4) (hv20485)
                  have x20502 := rX.e hI20477 (b := 6) ((((hF20478.1 176 6 (by decide)).trans (hF20394.1 176 6 (by decide))).trans hv20490))
                  have pr20503 : _ ∧ _ ∧ _ := o20386
                  exact ⟨_, rfl, hI20477, hF20481, rfl, ⟨(False.elim (by omega)), (fun hz => absurd hz (by omega))⟩⟩
                · have c20487_ : x19229.toInt ≠ 0 := en_k_eq_f c20487
                  refine At.enter rfl ?_
                  refine r_aload_n e19237 ?_
                  refine q_getR (Sh.ref hI20477.1 kx_176 rfl) ?_
                  refine r_bipush 9 rfl ?_
                  refine r_iconst 0 rfl ?_
                  refine r_callV 134 rfl [.ref 177, .int 9, .int 0] [] (Nat.le_of_ble_eq_true rfl) rfl (T_X4_add_177 _ hI20477 9 0) ?_
                  rintro _ _ ⟨g20504, rfl, hI20505, hF20506, v20507, rfl, hr20508⟩
                  refine At.sti ?_
                  have hF20509 := Fr.tr hF20481 hF20506 rfl rfl
                  have zv20510 : (9 : Int32).toInt = 9 := rfl
                  have zv20511 : (0 : Int32).toInt = 0 := rfl
                  refine At.enter rfl ?_
                  refine r_pop rfl ?_
                  refine Ar.fall 135 rfl ?_
                  refine At.enter rfl ?_
                  refine r_vret ?_
                  have x20512 := rX.e hI20505 (b := 2) ((((hF20506.1 176 2 (by decide)).trans ((hF20478.1 176 2 (by decide)).trans (hF20394.1 176 2 (by decide)))).trans hv20388))
                  have x20513 := rX.e hI20505 (b := 4) (((hF20506.1 176 4 (by decide)).trans hv20485))
                  obtain ⟨v20514, hv20514⟩ : ∃ v, gI g20371 176 6 = v := ⟨_, rfl⟩
                  have tv20514 := congrArg Int32.toInt hv20514
                  have x20515 := rX.e hI20505 (b := 6) ((((hF20506.1 176 6 (by decide)).trans ((hF20478.1 176 6 (by decide)).trans (hF20394.1 176 6 (by decide)))).trans hv20514))
                  obtain ⟨v20516, hv20516⟩ : ∃ v, gI g0 176 2 = v := ⟨_, rfl⟩
                  have tv20516 := congrArg Int32.toInt hv20516
                  have x20517 := rX.e hI0 (b := 2) (hv20516)
                  have x20518 := rX.e hI0 (b := 4) (hv19250)
                  have x20519 := rX.e hI19232 (b := 2) (hv20339)
                  have x20520 := rX.e hI19232 (b := 4) (hv19253)
                  have x20521 := rX.e hI20372 (b := 2) (hv20388)
                  have x20522 := rX.e hI20372 (b := 4) (hv20390)
                  have x20523 := rX.e hI20372 (b := 6) (hv20514)
                  have x20524 := rX.e hI20477 (b := 2) ((((hF20478.1 176 2 (by decide)).trans (hF20394.1 176 2 (by decide))).trans hv20388))
                  have x20525 := rX.e hI20477 (b := 4) (hv20485)
                  have x20526 := rX.e hI20477 (b := 6) ((((hF20478.1 176 6 (by decide)).trans (hF20394.1 176 6 (by decide))).trans hv20514))
                  have pr20527 : _ ∧ _ ∧ _ := o20386
                  exact ⟨_, rfl, hI20505, hF20509, rfl, ⟨(False.elim (by omega)), (fun hz => absurd hz (by omega))⟩⟩
          · have c20340_ : v20339.toInt = (-1) := en_i_ne_f c20340
            refine At.enter rfl ?_
            refine r_aload_n rfl ?_
            refine r_aload_n rfl ?_
            refine q_getI (Sh.int hI19913.1 kx_176 rfl) v19253 (((hF19914.1 176 4 (by decide)).trans (hF19905.1 176 4 (by decide))).trans hv19253) ?_
            refine q_putI (Sh.int hI19913.1 kx_176 rfl) rfl ?_
            have hI20528 := HI.wI0 hI19913 kx_176 rfl (p := 176) (b := 2) (v := v19253) rfl
            have hF20529 := Fr.wI (p := 176) (b := 2) (v := v19253) hF19917 rfl
            refine Ar.fall 16 rfl ?_
            refine At.enter rfl ?_
            refine q_vret ?_
            refine At.enter rfl ?_
            refine r_goto ?_
            refine At.enter rfl ?_
            refine q_vret ?_
            refine At.enter rfl ?_
            refine r_aload_n e19237 ?_
            refine q_getI (Sh.int hI20528.1 kx_176 rfl) v19253 (gI_sI_eq hI19913.1 kx_176 rfl _) ?_
            refine r_iconst (-1) rfl ?_
            refine r_ics 62 rfl (fun c20530 => ?_) (fun c20530 => ?_)
            · have c20530_ : v19253.toInt ≠ (-1) := en_i_ne_t c20530
              refine At.enter rfl ?_
              refine r_iload_n e19239 ?_
              refine r_ifs 124 rfl (fun c20531 => ?_) (fun c20531 => ?_)
              · have c20531_ : x19229.toInt = 0 := en_k_eq_t c20531
                refine At.enter rfl ?_
                refine r_vret ?_
                have x20532 := rX.e hI20528 (b := 2) ((gI_sI_eq hI19913.1 kx_176 rfl _))
                have x20533 := rX.e hI20528 (b := 4) ((((gI_sI_ne (by decide)).trans ((hF19914.1 176 4 (by decide)).trans (hF19905.1 176 4 (by decide)))).trans hv19253))
                obtain ⟨v20534, hv20534⟩ : ∃ v, gI g19231 176 6 = v := ⟨_, rfl⟩
                have tv20534 := congrArg Int32.toInt hv20534
                have x20535 := rX.e hI20528 (b := 6) ((((gI_sI_ne (by decide)).trans ((hF19914.1 176 6 (by decide)).trans (hF19905.1 176 6 (by decide)))).trans hv20534))
                obtain ⟨v20536, hv20536⟩ : ∃ v, gI g0 176 2 = v := ⟨_, rfl⟩
                have tv20536 := congrArg Int32.toInt hv20536
                have x20537 := rX.e hI0 (b := 2) (hv20536)
                have x20538 := rX.e hI0 (b := 4) (hv19250)
                have x20539 := rX.e hI19232 (b := 2) (hv20339)
                have x20540 := rX.e hI19232 (b := 4) (hv19253)
                exact ⟨_, rfl, hI20528, hF20529, rfl, ⟨⟨(TKX.c q19243 (((gA_sI).trans ((hF19914.2.1 175 (by decide)).trans (hF19905.2.1 175 (by decide))))) (((gI_sI_ne (by decide)).trans ((hF19914.1 174 1 (by decide)).trans (hF19905.1 174 1 (by decide))))) (((gI_sI_ne (by decide)).trans ((hF19914.1 176 3 (by decide)).trans (hF19905.1 176 3 (by decide))))) (((gI_sI_ne (by decide)).trans ((hF19914.1 176 4 (by decide)).trans (hF19905.1 176 4 (by decide))))) (((gI_sI_ne (by decide)).trans ((hF19914.1 176 5 (by decide)).trans (hF19905.1 176 5 (by decide)))))), ((PRG0.tr (q19245) (PRG0.fail 1 (rX.c (b := 4) (((gI_sI_ne (by decide)).trans ((hF19914.1 176 4 (by decide)).trans (hF19905.1 176 4 (by decide)))))) (fun _ => by omega) (fun _ => by omega) (by omega)))).le (by omega), PLO.deep q19244 (TKX.someC q19243 ((hF19233.2.1 175 (by decide))) ((hF19233.1 174 1 (by decide)))).choose_spec (by omega) (by omega) (fun _ => by omega) (fun _ => by omega) (by omega)⟩, (fun hz => absurd hz (by omega))⟩⟩
              · have c20531_ : x19229.toInt ≠ 0 := en_k_eq_f c20531
                refine At.enter rfl ?_
                refine r_aload_n e19237 ?_
                refine q_getR (Sh.ref hI20528.1 kx_176 rfl) ?_
                refine r_bipush 9 rfl ?_
                refine r_iconst 0 rfl ?_
                refine r_callV 134 rfl [.ref 177, .int 9, .int 0] [] (Nat.le_of_ble_eq_true rfl) rfl (T_X4_add_177 _ hI20528 9 0) ?_
                rintro _ _ ⟨g20541, rfl, hI20542, hF20543, v20544, rfl, hr20545⟩
                refine At.sti ?_
                have hF20546 := Fr.tr hF20529 hF20543 rfl rfl
                have zv20547 : (9 : Int32).toInt = 9 := rfl
                have zv20548 : (0 : Int32).toInt = 0 := rfl
                refine At.enter rfl ?_
                refine r_pop rfl ?_
                refine Ar.fall 135 rfl ?_
                refine At.enter rfl ?_
                refine r_vret ?_
                have x20549 := rX.e hI20542 (b := 2) (((hF20543.1 176 2 (by decide)).trans (gI_sI_eq hI19913.1 kx_176 rfl _)))
                have x20550 := rX.e hI20542 (b := 4) ((((hF20543.1 176 4 (by decide)).trans ((gI_sI_ne (by decide)).trans ((hF19914.1 176 4 (by decide)).trans (hF19905.1 176 4 (by decide))))).trans hv19253))
                obtain ⟨v20551, hv20551⟩ : ∃ v, gI g19231 176 6 = v := ⟨_, rfl⟩
                have tv20551 := congrArg Int32.toInt hv20551
                have x20552 := rX.e hI20542 (b := 6) ((((hF20543.1 176 6 (by decide)).trans ((gI_sI_ne (by decide)).trans ((hF19914.1 176 6 (by decide)).trans (hF19905.1 176 6 (by decide))))).trans hv20551))
                obtain ⟨v20553, hv20553⟩ : ∃ v, gI g0 176 2 = v := ⟨_, rfl⟩
                have tv20553 := congrArg Int32.toInt hv20553
                have x20554 := rX.e hI0 (b := 2) (hv20553)
                have x20555 := rX.e hI0 (b := 4) (hv19250)
                have x20556 := rX.e hI19232 (b := 2) (hv20339)
                have x20557 := rX.e hI19232 (b := 4) (hv19253)
                exact ⟨_, rfl, hI20542, hF20546, rfl, ⟨⟨(TKX.c q19243 (((hF20543.2.1 175 (by decide)).trans ((gA_sI).trans ((hF19914.2.1 175 (by decide)).trans (hF19905.2.1 175 (by decide)))))) (((hF20543.1 174 1 (by decide)).trans ((gI_sI_ne (by decide)).trans ((hF19914.1 174 1 (by decide)).trans (hF19905.1 174 1 (by decide)))))) (((hF20543.1 176 3 (by decide)).trans ((gI_sI_ne (by decide)).trans ((hF19914.1 176 3 (by decide)).trans (hF19905.1 176 3 (by decide)))))) (((hF20543.1 176 4 (by decide)).trans ((gI_sI_ne (by decide)).trans ((hF19914.1 176 4 (by decide)).trans (hF19905.1 176 4 (by decide)))))) (((hF20543.1 176 5 (by decide)).trans ((gI_sI_ne (by decide)).trans ((hF19914.1 176 5 (by decide)).trans (hF19905.1 176 5 (by decide))))))), ((PRG0.tr (q19245) (PRG0.fail 1 (rX.c (b := 4) (((hF20543.1 176 4 (by decide)).trans ((gI_sI_ne (by decide)).trans ((hF19914.1 176 4 (by decide)).trans (hF19905.1 176 4 (by decide))))))) (fun _ => by omega) (fun _ => by omega) (by omega)))).le (by omega), PLO.deep q19244 (TKX.someC q19243 ((hF19233.2.1 175 (by decide))) ((hF19233.1 174 1 (by decide)))).choose_spec (by omega) (by omega) (fun _ => by omega) (fun _ => by omega) (by omega)⟩, (fun hz => absurd hz (by omega))⟩⟩
            · have c20530_ : v19253.toInt = (-1) := en_i_ne_f c20530
              exfalso; omega
    · have c19910_ : v19906.toInt ≠ 0 := en_k_eq_f c19910
      have i20558 := BL.yes hb19909 (by omega)
      refine At.enter rfl ?_
      refine r_aload_n e19237 ?_
      refine r_callV 24 rfl [.ref 176] [] (Nat.le_of_ble_eq_true rfl) rfl (T_X5_step_176 _ hI19904 (TKX.c q19243 ((hF19905.2.1 175 (by decide))) ((hF19905.1 174 1 (by decide))) ((hF19905.1 176 3 (by decide))) ((hF19905.1 176 4 (by decide))) ((hF19905.1 176 5 (by decide)))).1 (TKX.c q19243 ((hF19905.2.1 175 (by decide))) ((hF19905.1 174 1 (by decide))) ((hF19905.1 176 3 (by decide))) ((hF19905.1 176 4 (by decide))) ((hF19905.1 176 5 (by decide)))).2.1.le.2.1) ?_
      rintro _ _ ⟨g20559, rfl, hI20560, hF20561, rfl, hr20563⟩
      refine At.stn ?_
      have hF20564 := Fr.tr hF19908 hF20561 rfl rfl
      have tok20565_ := hr20563.2
      rw [TX.c ((hF19905.2.1 175 (by decide))), nX.c ((hF19905.1 174 1 (by decide))), rX.c (b := 5) ((hF19905.1 176 5 (by decide)))] at tok20565_
      have tok20565 := TKX.tok q19243 tok20565_
      rw [TX.c ((hF19233.2.1 175 (by decide))), nX.c ((hF19233.1 174 1 (by decide)))] at tok20565
      have hT20566 := hr20563.1
      have x20567 := rX.e hI19904 (b := 4) (((hF19905.1 176 4 (by decide)).trans hv19253))
      obtain ⟨v20568, hv20568⟩ : ∃ v, gI g20559 176 4 = v := ⟨_, rfl⟩
      have rv20568 := RgF.at hI20560.2.1 (p := 176) (b := 4) rfl
      rw [hv20568] at rv20568
      dsimp only at rv20568
      have tv20568 := congrArg Int32.toInt hv20568
      have x20569 := rX.e hI20560 (b := 4) (hv20568)
      refine At.enter rfl ?_
      refine r_iload_n e19239 ?_
      refine r_ifs 28 rfl (fun c20570 => ?_) (fun c20570 => ?_)
      · have c20570_ : x19229.toInt ≠ 0 := en_k_ne_t c20570
        refine At.enter rfl ?_
        refine r_iconst 0 rfl ?_
        refine Ar.fall 33 rfl ?_
        refine At.enter rfl ?_
        refine r_istore_n _ rfl ?_
        refine q_iinc (w_p1 (by decide) (Or.inr rfl) e19240) (x19230.toInt + 1) rfl (by omega) (fun v20571 hv20571 => ?_)
        refine r_goto ?_
        have y20572 := q19243.2.1.le
        have y20573 := tok20565_.1
        have y20574 : ksX (rX g19231 3) ≠ 0 := fun hz => absurd ((CDE.e (TKX.num q19243)).mp hz) (show CDX g19231 ≠ 0 from by omega)
        have x20575 := rX.e hI20560 (b := 4) (hv20568)
        have x20576 := rX.e hI19232 (b := 4) (hv19253)
        have zv20577 : (0 : Int32).toInt = 0 := rfl
        exact ih19236 (400 - v20571.toInt) _ _ ⟨0, v20571, by first | rfl | omega, hI20560, hF20564, (w_p1 (by decide) (Or.inr rfl) (w_p1 (by decide) (Or.inr rfl) e19237)), (w_p1 (by decide) (Or.inr rfl) (w_p1 (by decide) (Or.inr rfl) e19238)), (w_p1 (by decide) (Or.inr rfl) (w_e1 _ _ _)), (w_e1 _ _ _), by decide, by omega, hT20566, (NLI.next q19244 tok20565 (by omega) (rX.c (b := 2) (((hF20561.1 176 2 (by decide)).trans (hF19905.1 176 2 (by decide))))) (rX.c (b := 6) (((hF20561.1 176 6 (by decide)).trans (hF19905.1 176 6 (by decide)))))), ((PRG0.tr q19245 (PRG0.step q19243 tok20565_ (rX.c (b := 2) (((hF20561.1 176 2 (by decide)).trans (hF19905.1 176 2 (by decide))))) (by omega))).le (by omega)), by omega, (NLG.next q19247 tok20565 (by omega) (TOK_lt tok20565 (by omega)) (by omega) (rX.c (b := 2) (((hF20561.1 176 2 (by decide)).trans (hF19905.1 176 2 (by decide))))) (rX.c (b := 6) (((hF20561.1 176 6 (by decide)).trans (hF19905.1 176 6 (by decide))))) (((hF20561.2.1 178 (by decide)).trans (hF19905.2.1 178 (by decide)))) (((hF20561.2.1 179 (by decide)).trans (hF19905.2.1 179 (by decide)))) (((hF20561.1 177 0 (by decide)).trans (hF19905.1 177 0 (by decide)))))⟩ ⟨by omega, by omega⟩
      · have c20570_ : x19229.toInt = 0 := en_k_ne_f c20570
        refine At.enter rfl ?_
        refine r_iconst 1 rfl ?_
        refine r_goto ?_
        refine At.enter rfl ?_
        refine r_istore_n _ rfl ?_
        refine q_iinc (w_p1 (by decide) (Or.inr rfl) e19240) (x19230.toInt + 1) rfl (by omega) (fun v20578 hv20578 => ?_)
        refine r_goto ?_
        have y20579 := q19243.2.1.le
        have y20580 := tok20565_.1
        have y20581 : ksX (rX g19231 3) ≠ 0 := fun hz => absurd ((CDE.e (TKX.num q19243)).mp hz) (show CDX g19231 ≠ 0 from by omega)
        have x20582 := rX.e hI20560 (b := 4) (hv20568)
        have x20583 := rX.e hI19232 (b := 4) (hv19253)
        have zv20584 : (1 : Int32).toInt = 1 := rfl
        exact ih19236 (400 - v20578.toInt) _ _ ⟨1, v20578, by first | rfl | omega, hI20560, hF20564, (w_p1 (by decide) (Or.inr rfl) (w_p1 (by decide) (Or.inr rfl) e19237)), (w_p1 (by decide) (Or.inr rfl) (w_p1 (by decide) (Or.inr rfl) e19238)), (w_p1 (by decide) (Or.inr rfl) (w_e1 _ _ _)), (w_e1 _ _ _), by decide, by omega, hT20566, (NLI.next q19244 tok20565 (by omega) (rX.c (b := 2) (((hF20561.1 176 2 (by decide)).trans (hF19905.1 176 2 (by decide))))) (rX.c (b := 6) (((hF20561.1 176 6 (by decide)).trans (hF19905.1 176 6 (by decide)))))), ((PRG0.tr q19245 (PRG0.step q19243 tok20565_ (rX.c (b := 2) (((hF20561.1 176 2 (by decide)).trans (hF19905.1 176 2 (by decide))))) (by omega))).le (by omega)), by omega, (NLG.next q19247 tok20565 (by omega) (TOK_lt tok20565 (by omega)) (by omega) (rX.c (b := 2) (((hF20561.1 176 2 (by decide)).trans (hF19905.1 176 2 (by decide))))) (rX.c (b := 6) (((hF20561.1 176 6 (by decide)).trans (hF19905.1 176 6 (by decide))))) (((hF20561.2.1 178 (by decide)).trans (hF19905.2.1 178 (by decide)))) (((hF20561.2.1 179 (by decide)).trans (hF19905.2.1 179 (by decide)))) (((hF20561.1 177 0 (by decide)).trans (hF19905.1 177 0 (by decide)))))⟩ ⟨by omega, by omega⟩
