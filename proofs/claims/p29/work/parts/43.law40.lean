set_option maxRecDepth 100000 in
set_option maxHeartbeats 8000000 in
theorem lq_walk (d : Nat) {N : Nat} {g0 : List en_E} (hI0 : HI g0) (hR0 : LwR g0) {ys : List Int32} {L : Nat} (hL : ys.length = L) (hL2 : L ≤ 3584) : At (d + 423) (some ys) (some .boolean) bs_L_law (18, [(3, .int 0), (2, .ref 231), (1, .ref 0), (0, .float 0)], [], (g0, N)) (fun r h' => r = some (.int 1) ∧ ∃ g', h' = (g', N) ∧ HI g') := by
  have hF0 : True := trivial
  have z_482 : (0 : Int32).toInt = 0 := rfl
  refine w_loopI (fun n_ l_ g_ => ∃ x469 : Int32, n_ = 3584 - x469.toInt ∧ HI g_ ∧ True ∧ en_get 0 l_ = some (.float 0) ∧ en_get 1 l_ = some (.ref 0) ∧ en_get 2 l_ = some (.ref 231) ∧ en_get 3 l_ = some (.int x469) ∧ (0 ≤ x469.toInt ∧ x469.toInt ≤ 3584) ∧ (LwR g_)) ?_ (3584 - 0) ⟨0, by first | rfl | omega, hI0, hF0, rfl, rfl, rfl, rfl, by decide, hR0⟩
  rintro n474 l473 g470 ⟨x469, hm483, hI471, hF472, e476, e477, e478, e479, r480, q481⟩ ih475
  refine At.enter rfl ?_
  refine r_iload_n e479 ?_
  refine r_sload_n e476 ?_
  refine q_sclen (m := L) hL (by omega) (fun v484 hv484 => ?_)
  refine r_bipush 7 rfl ?_
  refine q_isub (v484.toInt - 7) rfl (by omega) (fun v485 hv485 => ?_)
  have bv487 := q_bnd x469
  have bv488 := q_bnd v485
  refine r_ics 27 rfl (fun c486 => ?_) (fun c486 => ?_)
  · have c486_ : x469.toInt > v485.toInt := en_i_gt_t c486
    refine At.enter rfl ?_
    refine r_iconst 1 rfl ?_
    refine r_iretz (by decide) ?_
    exact ⟨rfl, _, rfl, hI471⟩
  · have c486_ : x469.toInt ≤ v485.toInt := en_i_gt_f c486
    refine At.enter rfl ?_
    refine r_sload_n e476 ?_
    refine r_iload_n e479 ?_
    refine q_scald (m := L) hL (x469.toInt) rfl (by omega) (fun v489 hv489 => ?_)
    refine r_bipush 63 rfl ?_
    refine q_iandO (fun v490 hv490 => ?_)
    by_cases c491_0 : v490.toInt = 0
    · refine r_tsw 208 (by rw [c491_0]; rfl) ?_
      refine lq_c0 d hI471 q481 hL hL2 e476 e477 e478 e479 ⟨by omega, by omega⟩ (fun g492 hI493 hR494 => ?_)
      refine At.enter rfl ?_
      refine q_iinc e479 (x469.toInt + 7) rfl (by omega) (fun v495 hv495 => ?_)
      refine r_goto ?_
      exact ih475 (3584 - v495.toInt) _ _ ⟨v495, by first | rfl | omega, hI493, hF0, (w_p1 (by decide) (Or.inr rfl) e476), (w_p1 (by decide) (Or.inr rfl) e477), (w_p1 (by decide) (Or.inr rfl) e478), (w_e1 _ _ _), by omega, hR494⟩ ⟨by omega, by omega⟩
    by_cases c491_1 : v490.toInt = 1
    · refine r_tsw 251 (by rw [c491_1]; rfl) ?_
      refine lq_c1 d hI471 q481 hL hL2 e476 e477 e478 e479 ⟨by omega, by omega⟩ (fun g496 hI497 hR498 => ?_)
      refine At.enter rfl ?_
      refine q_iinc e479 (x469.toInt + 7) rfl (by omega) (fun v499 hv499 => ?_)
      refine r_goto ?_
      exact ih475 (3584 - v499.toInt) _ _ ⟨v499, by first | rfl | omega, hI497, hF0, (w_p1 (by decide) (Or.inr rfl) e476), (w_p1 (by decide) (Or.inr rfl) e477), (w_p1 (by decide) (Or.inr rfl) e478), (w_e1 _ _ _), by omega, hR498⟩ ⟨by omega, by omega⟩
    by_cases c491_2 : v490.toInt = 2
    · refine r_tsw 294 (by rw [c491_2]; rfl) ?_
      refine lq_c2 d hI471 q481 hL hL2 e476 e477 e478 e479 ⟨by omega, by omega⟩ (fun g500 hI501 hR502 => ?_)
      refine At.enter rfl ?_
      refine q_iinc e479 (x469.toInt + 7) rfl (by omega) (fun v503 hv503 => ?_)
      refine r_goto ?_
      exact ih475 (3584 - v503.toInt) _ _ ⟨v503, by first | rfl | omega, hI501, hF0, (w_p1 (by decide) (Or.inr rfl) e476), (w_p1 (by decide) (Or.inr rfl) e477), (w_p1 (by decide) (Or.inr rfl) e478), (w_e1 _ _ _), by omega, hR502⟩ ⟨by omega, by omega⟩
    by_cases c491_3 : v490.toInt = 3
    · refine r_tsw 327 (by rw [c491_3]; rfl) ?_
      refine lq_c3 d hI471 q481 hL hL2 e476 e477 e478 e479 ⟨by omega, by omega⟩ (fun g504 hI505 hR506 => ?_)
      refine At.enter rfl ?_
      refine q_iinc e479 (x469.toInt + 7) rfl (by omega) (fun v507 hv507 => ?_)
      refine r_goto ?_
      exact ih475 (3584 - v507.toInt) _ _ ⟨v507, by first | rfl | omega, hI505, hF0, (w_p1 (by decide) (Or.inr rfl) e476), (w_p1 (by decide) (Or.inr rfl) e477), (w_p1 (by decide) (Or.inr rfl) e478), (w_e1 _ _ _), by omega, hR506⟩ ⟨by omega, by omega⟩
    by_cases c491_4 : v490.toInt = 4
    · refine r_tsw 402 (by rw [c491_4]; rfl) ?_
      refine lq_c4 d hI471 q481 hL hL2 e476 e477 e478 e479 ⟨by omega, by omega⟩ (fun g508 hI509 hR510 => ?_)
      refine At.enter rfl ?_
      refine q_iinc e479 (x469.toInt + 7) rfl (by omega) (fun v511 hv511 => ?_)
      refine r_goto ?_
      exact ih475 (3584 - v511.toInt) _ _ ⟨v511, by first | rfl | omega, hI509, hF0, (w_p1 (by decide) (Or.inr rfl) e476), (w_p1 (by decide) (Or.inr rfl) e477), (w_p1 (by decide) (Or.inr rfl) e478), (w_e1 _ _ _), by omega, hR510⟩ ⟨by omega, by omega⟩
    by_cases c491_5 : v490.toInt = 5
    · refine r_tsw 435 (by rw [c491_5]; rfl) ?_
      refine lq_c5 d hI471 q481 hL hL2 e476 e477 e478 e479 ⟨by omega, by omega⟩ (fun g512 hI513 hR514 => ?_)
      refine At.enter rfl ?_
      refine q_iinc e479 (x469.toInt + 7) rfl (by omega) (fun v515 hv515 => ?_)
      refine r_goto ?_
      exact ih475 (3584 - v515.toInt) _ _ ⟨v515, by first | rfl | omega, hI513, hF0, (w_p1 (by decide) (Or.inr rfl) e476), (w_p1 (by decide) (Or.inr rfl) e477), (w_p1 (by decide) (Or.inr rfl) e478), (w_e1 _ _ _), by omega, hR514⟩ ⟨by omega, by omega⟩
    by_cases c491_6 : v490.toInt = 6
    · refine r_tsw 458 (by rw [c491_6]; rfl) ?_
      refine lq_c6 d hI471 q481 hL hL2 e476 e477 e478 e479 ⟨by omega, by omega⟩ (fun g516 hI517 hR518 => ?_)
      refine At.enter rfl ?_
      refine q_iinc e479 (x469.toInt + 7) rfl (by omega) (fun v519 hv519 => ?_)
      refine r_goto ?_
      exact ih475 (3584 - v519.toInt) _ _ ⟨v519, by first | rfl | omega, hI517, hF0, (w_p1 (by decide) (Or.inr rfl) e476), (w_p1 (by decide) (Or.inr rfl) e477), (w_p1 (by decide) (Or.inr rfl) e478), (w_e1 _ _ _), by omega, hR518⟩ ⟨by omega, by omega⟩
    by_cases c491_7 : v490.toInt = 7
    · refine r_tsw 491 (by rw [c491_7]; rfl) ?_
      refine lq_c7 d hI471 q481 hL hL2 e476 e477 e478 e479 ⟨by omega, by omega⟩ (fun g520 hI521 hR522 => ?_)
      refine At.enter rfl ?_
      refine q_iinc e479 (x469.toInt + 7) rfl (by omega) (fun v523 hv523 => ?_)
      refine r_goto ?_
      exact ih475 (3584 - v523.toInt) _ _ ⟨v523, by first | rfl | omega, hI521, hF0, (w_p1 (by decide) (Or.inr rfl) e476), (w_p1 (by decide) (Or.inr rfl) e477), (w_p1 (by decide) (Or.inr rfl) e478), (w_e1 _ _ _), by omega, hR522⟩ ⟨by omega, by omega⟩
    by_cases c491_8 : v490.toInt = 8
    · refine r_tsw 554 (by rw [c491_8]; rfl) ?_
      refine lq_c8 d hI471 q481 hL hL2 e476 e477 e478 e479 ⟨by omega, by omega⟩ (fun g524 hI525 hR526 => ?_)
      refine At.enter rfl ?_
      refine q_iinc e479 (x469.toInt + 7) rfl (by omega) (fun v527 hv527 => ?_)
      refine r_goto ?_
      exact ih475 (3584 - v527.toInt) _ _ ⟨v527, by first | rfl | omega, hI525, hF0, (w_p1 (by decide) (Or.inr rfl) e476), (w_p1 (by decide) (Or.inr rfl) e477), (w_p1 (by decide) (Or.inr rfl) e478), (w_e1 _ _ _), by omega, hR526⟩ ⟨by omega, by omega⟩
    by_cases c491_9 : v490.toInt = 9
    · refine r_tsw 577 (by rw [c491_9]; rfl) ?_
      refine lq_c9 d hI471 q481 hL hL2 e476 e477 e478 e479 ⟨by omega, by omega⟩ (fun g528 hI529 hR530 => ?_)
      refine At.enter rfl ?_
      refine q_iinc e479 (x469.toInt + 7) rfl (by omega) (fun v531 hv531 => ?_)
      refine r_goto ?_
      exact ih475 (3584 - v531.toInt) _ _ ⟨v531, by first | rfl | omega, hI529, hF0, (w_p1 (by decide) (Or.inr rfl) e476), (w_p1 (by decide) (Or.inr rfl) e477), (w_p1 (by decide) (Or.inr rfl) e478), (w_e1 _ _ _), by omega, hR530⟩ ⟨by omega, by omega⟩
    by_cases c491_10 : v490.toInt = 10
    · refine r_tsw 590 (by rw [c491_10]; rfl) ?_
      refine lq_c10 d hI471 q481 hL hL2 e476 e477 e478 e479 ⟨by omega, by omega⟩ (fun g532 hI533 hR534 => ?_)
      refine At.enter rfl ?_
      refine q_iinc e479 (x469.toInt + 7) rfl (by omega) (fun v535 hv535 => ?_)
      refine r_goto ?_
      exact ih475 (3584 - v535.toInt) _ _ ⟨v535, by first | rfl | omega, hI533, hF0, (w_p1 (by decide) (Or.inr rfl) e476), (w_p1 (by decide) (Or.inr rfl) e477), (w_p1 (by decide) (Or.inr rfl) e478), (w_e1 _ _ _), by omega, hR534⟩ ⟨by omega, by omega⟩
    by_cases c491_11 : v490.toInt = 11
    · refine r_tsw 603 (by rw [c491_11]; rfl) ?_
      refine lq_c11 d hI471 q481 hL hL2 e476 e477 e478 e479 ⟨by omega, by omega⟩ (fun g536 hI537 hR538 => ?_)
      refine At.enter rfl ?_
      refine q_iinc e479 (x469.toInt + 7) rfl (by omega) (fun v539 hv539 => ?_)
      refine r_goto ?_
      exact ih475 (3584 - v539.toInt) _ _ ⟨v539, by first | rfl | omega, hI537, hF0, (w_p1 (by decide) (Or.inr rfl) e476), (w_p1 (by decide) (Or.inr rfl) e477), (w_p1 (by decide) (Or.inr rfl) e478), (w_e1 _ _ _), by omega, hR538⟩ ⟨by omega, by omega⟩
    by_cases c491_12 : v490.toInt = 12
    · refine r_tsw 616 (by rw [c491_12]; rfl) ?_
      refine lq_c12 d hI471 q481 hL hL2 e476 e477 e478 e479 ⟨by omega, by omega⟩ (fun g540 hI541 hR542 => ?_)
      refine At.enter rfl ?_
      refine q_iinc e479 (x469.toInt + 7) rfl (by omega) (fun v543 hv543 => ?_)
      refine r_goto ?_
      exact ih475 (3584 - v543.toInt) _ _ ⟨v543, by first | rfl | omega, hI541, hF0, (w_p1 (by decide) (Or.inr rfl) e476), (w_p1 (by decide) (Or.inr rfl) e477), (w_p1 (by decide) (Or.inr rfl) e478), (w_e1 _ _ _), by omega, hR542⟩ ⟨by omega, by omega⟩
    by_cases c491_13 : v490.toInt = 13
    · refine r_tsw 629 (by rw [c491_13]; rfl) ?_
      refine lq_c13 d hI471 q481 hL hL2 e476 e477 e478 e479 ⟨by omega, by omega⟩ (fun g544 hI545 hR546 => ?_)
      refine At.enter rfl ?_
      refine q_iinc e479 (x469.toInt + 7) rfl (by omega) (fun v547 hv547 => ?_)
      refine r_goto ?_
      exact ih475 (3584 - v547.toInt) _ _ ⟨v547, by first | rfl | omega, hI545, hF0, (w_p1 (by decide) (Or.inr rfl) e476), (w_p1 (by decide) (Or.inr rfl) e477), (w_p1 (by decide) (Or.inr rfl) e478), (w_e1 _ _ _), by omega, hR546⟩ ⟨by omega, by omega⟩
    by_cases c491_14 : v490.toInt = 14
    · refine r_tsw 652 (by rw [c491_14]; rfl) ?_
      refine lq_c14 d hI471 q481 hL hL2 e476 e477 e478 e479 ⟨by omega, by omega⟩ (fun g548 hI549 hR550 => ?_)
      refine At.enter rfl ?_
      refine q_iinc e479 (x469.toInt + 7) rfl (by omega) (fun v551 hv551 => ?_)
      refine r_goto ?_
      exact ih475 (3584 - v551.toInt) _ _ ⟨v551, by first | rfl | omega, hI549, hF0, (w_p1 (by decide) (Or.inr rfl) e476), (w_p1 (by decide) (Or.inr rfl) e477), (w_p1 (by decide) (Or.inr rfl) e478), (w_e1 _ _ _), by omega, hR550⟩ ⟨by omega, by omega⟩
    by_cases c491_15 : v490.toInt = 15
    · refine r_tsw 685 (by rw [c491_15]; rfl) ?_
      refine lq_c15 d hI471 q481 hL hL2 e476 e477 e478 e479 ⟨by omega, by omega⟩ (fun g552 hI553 hR554 => ?_)
      refine At.enter rfl ?_
      refine q_iinc e479 (x469.toInt + 7) rfl (by omega) (fun v555 hv555 => ?_)
      refine r_goto ?_
      exact ih475 (3584 - v555.toInt) _ _ ⟨v555, by first | rfl | omega, hI553, hF0, (w_p1 (by decide) (Or.inr rfl) e476), (w_p1 (by decide) (Or.inr rfl) e477), (w_p1 (by decide) (Or.inr rfl) e478), (w_e1 _ _ _), by omega, hR554⟩ ⟨by omega, by omega⟩
    by_cases c491_16 : v490.toInt = 16
    · refine r_tsw 718 (by rw [c491_16]; rfl) ?_
      refine lq_c16 d hI471 q481 hL hL2 e476 e477 e478 e479 ⟨by omega, by omega⟩ (fun g556 hI557 hR558 => ?_)
      refine At.enter rfl ?_
      refine q_iinc e479 (x469.toInt + 7) rfl (by omega) (fun v559 hv559 => ?_)
      refine r_goto ?_
      exact ih475 (3584 - v559.toInt) _ _ ⟨v559, by first | rfl | omega, hI557, hF0, (w_p1 (by decide) (Or.inr rfl) e476), (w_p1 (by decide) (Or.inr rfl) e477), (w_p1 (by decide) (Or.inr rfl) e478), (w_e1 _ _ _), by omega, hR558⟩ ⟨by omega, by omega⟩
    by_cases c491_17 : v490.toInt = 17
    · refine r_tsw 751 (by rw [c491_17]; rfl) ?_
      refine lq_c17 d hI471 q481 hL hL2 e476 e477 e478 e479 ⟨by omega, by omega⟩ (fun g560 hI561 hR562 => ?_)
      refine At.enter rfl ?_
      refine q_iinc e479 (x469.toInt + 7) rfl (by omega) (fun v563 hv563 => ?_)
      refine r_goto ?_
      exact ih475 (3584 - v563.toInt) _ _ ⟨v563, by first | rfl | omega, hI561, hF0, (w_p1 (by decide) (Or.inr rfl) e476), (w_p1 (by decide) (Or.inr rfl) e477), (w_p1 (by decide) (Or.inr rfl) e478), (w_e1 _ _ _), by omega, hR562⟩ ⟨by omega, by omega⟩
    by_cases c491_18 : v490.toInt = 18
    · refine r_tsw 784 (by rw [c491_18]; rfl) ?_
      refine lq_c18 d hI471 q481 hL hL2 e476 e477 e478 e479 ⟨by omega, by omega⟩ (fun g564 hI565 hR566 => ?_)
      refine At.enter rfl ?_
      refine q_iinc e479 (x469.toInt + 7) rfl (by omega) (fun v567 hv567 => ?_)
      refine r_goto ?_
      exact ih475 (3584 - v567.toInt) _ _ ⟨v567, by first | rfl | omega, hI565, hF0, (w_p1 (by decide) (Or.inr rfl) e476), (w_p1 (by decide) (Or.inr rfl) e477), (w_p1 (by decide) (Or.inr rfl) e478), (w_e1 _ _ _), by omega, hR566⟩ ⟨by omega, by omega⟩
    by_cases c491_19 : v490.toInt = 19
    · refine r_tsw 827 (by rw [c491_19]; rfl) ?_
      refine lq_c19 d hI471 q481 hL hL2 e476 e477 e478 e479 ⟨by omega, by omega⟩ (fun g568 hI569 hR570 => ?_)
      refine At.enter rfl ?_
      refine q_iinc e479 (x469.toInt + 7) rfl (by omega) (fun v571 hv571 => ?_)
      refine r_goto ?_
      exact ih475 (3584 - v571.toInt) _ _ ⟨v571, by first | rfl | omega, hI569, hF0, (w_p1 (by decide) (Or.inr rfl) e476), (w_p1 (by decide) (Or.inr rfl) e477), (w_p1 (by decide) (Or.inr rfl) e478), (w_e1 _ _ _), by omega, hR570⟩ ⟨by omega, by omega⟩
    by_cases c491_20 : v490.toInt = 20
    · refine r_tsw 840 (by rw [c491_20]; rfl) ?_
      refine lq_c20 d hI471 q481 hL hL2 e476 e477 e478 e479 ⟨by omega, by omega⟩ (fun g572 hI573 hR574 => ?_)
      refine At.enter rfl ?_
      refine q_iinc e479 (x469.toInt + 7) rfl (by omega) (fun v575 hv575 => ?_)
      refine r_goto ?_
      exact ih475 (3584 - v575.toInt) _ _ ⟨v575, by first | rfl | omega, hI573, hF0, (w_p1 (by decide) (Or.inr rfl) e476), (w_p1 (by decide) (Or.inr rfl) e477), (w_p1 (by decide) (Or.inr rfl) e478), (w_e1 _ _ _), by omega, hR574⟩ ⟨by omega, by omega⟩
    by_cases c491_21 : v490.toInt = 21
    · refine r_tsw 873 (by rw [c491_21]; rfl) ?_
      refine lq_c21 d hI471 q481 hL hL2 e476 e477 e478 e479 ⟨by omega, by omega⟩ (fun g576 hI577 hR578 => ?_)
      refine At.enter rfl ?_
      refine q_iinc e479 (x469.toInt + 7) rfl (by omega) (fun v579 hv579 => ?_)
      refine r_goto ?_
      exact ih475 (3584 - v579.toInt) _ _ ⟨v579, by first | rfl | omega, hI577, hF0, (w_p1 (by decide) (Or.inr rfl) e476), (w_p1 (by decide) (Or.inr rfl) e477), (w_p1 (by decide) (Or.inr rfl) e478), (w_e1 _ _ _), by omega, hR578⟩ ⟨by omega, by omega⟩
    by_cases c491_22 : v490.toInt = 22
    · refine r_tsw 906 (by rw [c491_22]; rfl) ?_
      refine lq_c22 d hI471 q481 hL hL2 e476 e477 e478 e479 ⟨by omega, by omega⟩ (fun g580 hI581 hR582 => ?_)
      refine At.enter rfl ?_
      refine q_iinc e479 (x469.toInt + 7) rfl (by omega) (fun v583 hv583 => ?_)
      refine r_goto ?_
      exact ih475 (3584 - v583.toInt) _ _ ⟨v583, by first | rfl | omega, hI581, hF0, (w_p1 (by decide) (Or.inr rfl) e476), (w_p1 (by decide) (Or.inr rfl) e477), (w_p1 (by decide) (Or.inr rfl) e478), (w_e1 _ _ _), by omega, hR582⟩ ⟨by omega, by omega⟩
    by_cases c491_23 : v490.toInt = 23
    · refine r_tsw 929 (by rw [c491_23]; rfl) ?_
      refine lq_c23 d hI471 q481 hL hL2 e476 e477 e478 e479 ⟨by omega, by omega⟩ (fun g584 hI585 hR586 => ?_)
      refine At.enter rfl ?_
      refine q_iinc e479 (x469.toInt + 7) rfl (by omega) (fun v587 hv587 => ?_)
      refine r_goto ?_
      exact ih475 (3584 - v587.toInt) _ _ ⟨v587, by first | rfl | omega, hI585, hF0, (w_p1 (by decide) (Or.inr rfl) e476), (w_p1 (by decide) (Or.inr rfl) e477), (w_p1 (by decide) (Or.inr rfl) e478), (w_e1 _ _ _), by omega, hR586⟩ ⟨by omega, by omega⟩
    by_cases c491_24 : v490.toInt = 24
    · refine r_tsw 952 (by rw [c491_24]; rfl) ?_
      refine lq_c24 d hI471 q481 hL hL2 e476 e477 e478 e479 ⟨by omega, by omega⟩ (fun g588 hI589 hR590 => ?_)
      refine At.enter rfl ?_
      refine q_iinc e479 (x469.toInt + 7) rfl (by omega) (fun v591 hv591 => ?_)
      refine r_goto ?_
      exact ih475 (3584 - v591.toInt) _ _ ⟨v591, by first | rfl | omega, hI589, hF0, (w_p1 (by decide) (Or.inr rfl) e476), (w_p1 (by decide) (Or.inr rfl) e477), (w_p1 (by decide) (Or.inr rfl) e478), (w_e1 _ _ _), by omega, hR590⟩ ⟨by omega, by omega⟩
    by_cases c491_25 : v490.toInt = 25
    · refine r_tsw 975 (by rw [c491_25]; rfl) ?_
      refine lq_c25 d hI471 q481 hL hL2 e476 e477 e478 e479 ⟨by omega, by omega⟩ (fun g592 hI593 hR594 => ?_)
      refine At.enter rfl ?_
      refine q_iinc e479 (x469.toInt + 7) rfl (by omega) (fun v595 hv595 => ?_)
      refine r_goto ?_
      exact ih475 (3584 - v595.toInt) _ _ ⟨v595, by first | rfl | omega, hI593, hF0, (w_p1 (by decide) (Or.inr rfl) e476), (w_p1 (by decide) (Or.inr rfl) e477), (w_p1 (by decide) (Or.inr rfl) e478), (w_e1 _ _ _), by omega, hR594⟩ ⟨by omega, by omega⟩
    by_cases c491_26 : v490.toInt = 26
    · refine r_tsw 998 (by rw [c491_26]; rfl) ?_
      refine lq_c26 d hI471 q481 hL hL2 e476 e477 e478 e479 ⟨by omega, by omega⟩ (fun g596 hI597 hR598 => ?_)
      refine At.enter rfl ?_
      refine q_iinc e479 (x469.toInt + 7) rfl (by omega) (fun v599 hv599 => ?_)
      refine r_goto ?_
      exact ih475 (3584 - v599.toInt) _ _ ⟨v599, by first | rfl | omega, hI597, hF0, (w_p1 (by decide) (Or.inr rfl) e476), (w_p1 (by decide) (Or.inr rfl) e477), (w_p1 (by decide) (Or.inr rfl) e478), (w_e1 _ _ _), by omega, hR598⟩ ⟨by omega, by omega⟩
    by_cases c491_27 : v490.toInt = 27
    · refine r_tsw 1031 (by rw [c491_27]; rfl) ?_
      refine lq_c27 d hI471 q481 hL hL2 e476 e477 e478 e479 ⟨by omega, by omega⟩ (fun g600 hI601 hR602 => ?_)
      refine At.enter rfl ?_
      refine q_iinc e479 (x469.toInt + 7) rfl (by omega) (fun v603 hv603 => ?_)
      refine r_goto ?_
      exact ih475 (3584 - v603.toInt) _ _ ⟨v603, by first | rfl | omega, hI601, hF0, (w_p1 (by decide) (Or.inr rfl) e476), (w_p1 (by decide) (Or.inr rfl) e477), (w_p1 (by decide) (Or.inr rfl) e478), (w_e1 _ _ _), by omega, hR602⟩ ⟨by omega, by omega⟩
    by_cases c491_28 : v490.toInt = 28
    · refine r_tsw 1044 (by rw [c491_28]; rfl) ?_
      refine lq_c28 d hI471 q481 hL hL2 e476 e477 e478 e479 ⟨by omega, by omega⟩ (fun g604 hI605 hR606 => ?_)
      refine At.enter rfl ?_
      refine q_iinc e479 (x469.toInt + 7) rfl (by omega) (fun v607 hv607 => ?_)
      refine r_goto ?_
      exact ih475 (3584 - v607.toInt) _ _ ⟨v607, by first | rfl | omega, hI605, hF0, (w_p1 (by decide) (Or.inr rfl) e476), (w_p1 (by decide) (Or.inr rfl) e477), (w_p1 (by decide) (Or.inr rfl) e478), (w_e1 _ _ _), by omega, hR606⟩ ⟨by omega, by omega⟩
    by_cases c491_29 : v490.toInt = 29
    · refine r_tsw 1067 (by rw [c491_29]; rfl) ?_
      refine lq_c29 d hI471 q481 hL hL2 e476 e477 e478 e479 ⟨by omega, by omega⟩ (fun g608 hI609 hR610 => ?_)
      refine At.enter rfl ?_
      refine q_iinc e479 (x469.toInt + 7) rfl (by omega) (fun v611 hv611 => ?_)
      refine r_goto ?_
      exact ih475 (3584 - v611.toInt) _ _ ⟨v611, by first | rfl | omega, hI609, hF0, (w_p1 (by decide) (Or.inr rfl) e476), (w_p1 (by decide) (Or.inr rfl) e477), (w_p1 (by decide) (Or.inr rfl) e478), (w_e1 _ _ _), by omega, hR610⟩ ⟨by omega, by omega⟩
    by_cases c491_30 : v490.toInt = 30
    · refine r_tsw 1090 (by rw [c491_30]; rfl) ?_
      refine lq_c30 d hI471 q481 hL hL2 e476 e477 e478 e479 ⟨by omega, by omega⟩ (fun g612 hI613 hR614 => ?_)
      refine At.enter rfl ?_
      refine q_iinc e479 (x469.toInt + 7) rfl (by omega) (fun v615 hv615 => ?_)
      refine r_goto ?_
      exact ih475 (3584 - v615.toInt) _ _ ⟨v615, by first | rfl | omega, hI613, hF0, (w_p1 (by decide) (Or.inr rfl) e476), (w_p1 (by decide) (Or.inr rfl) e477), (w_p1 (by decide) (Or.inr rfl) e478), (w_e1 _ _ _), by omega, hR614⟩ ⟨by omega, by omega⟩
    by_cases c491_31 : v490.toInt = 31
    · refine r_tsw 1123 (by rw [c491_31]; rfl) ?_
      refine lq_c31 d hI471 q481 hL hL2 e476 e477 e478 e479 ⟨by omega, by omega⟩ (fun g616 hI617 hR618 => ?_)
      refine At.enter rfl ?_
      refine q_iinc e479 (x469.toInt + 7) rfl (by omega) (fun v619 hv619 => ?_)
      refine r_goto ?_
      exact ih475 (3584 - v619.toInt) _ _ ⟨v619, by first | rfl | omega, hI617, hF0, (w_p1 (by decide) (Or.inr rfl) e476), (w_p1 (by decide) (Or.inr rfl) e477), (w_p1 (by decide) (Or.inr rfl) e478), (w_e1 _ _ _), by omega, hR618⟩ ⟨by omega, by omega⟩
    by_cases c491_32 : v490.toInt = 32
    · refine r_tsw 1136 (by rw [c491_32]; rfl) ?_
      refine lq_c32 d hI471 q481 hL hL2 e476 e477 e478 e479 ⟨by omega, by omega⟩ (fun g620 hI621 hR622 => ?_)
      refine At.enter rfl ?_
      refine q_iinc e479 (x469.toInt + 7) rfl (by omega) (fun v623 hv623 => ?_)
      refine r_goto ?_
      exact ih475 (3584 - v623.toInt) _ _ ⟨v623, by first | rfl | omega, hI621, hF0, (w_p1 (by decide) (Or.inr rfl) e476), (w_p1 (by decide) (Or.inr rfl) e477), (w_p1 (by decide) (Or.inr rfl) e478), (w_e1 _ _ _), by omega, hR622⟩ ⟨by omega, by omega⟩
    by_cases c491_33 : v490.toInt = 33
    · refine r_tsw 1149 (by rw [c491_33]; rfl) ?_
      refine lq_c33 d hI471 q481 hL hL2 e476 e477 e478 e479 ⟨by omega, by omega⟩ (fun g624 hI625 hR626 => ?_)
      refine At.enter rfl ?_
      refine q_iinc e479 (x469.toInt + 7) rfl (by omega) (fun v627 hv627 => ?_)
      refine r_goto ?_
      exact ih475 (3584 - v627.toInt) _ _ ⟨v627, by first | rfl | omega, hI625, hF0, (w_p1 (by decide) (Or.inr rfl) e476), (w_p1 (by decide) (Or.inr rfl) e477), (w_p1 (by decide) (Or.inr rfl) e478), (w_e1 _ _ _), by omega, hR626⟩ ⟨by omega, by omega⟩
    by_cases c491_34 : v490.toInt = 34
    · refine r_tsw 1192 (by rw [c491_34]; rfl) ?_
      refine lq_c34 d hI471 q481 hL hL2 e476 e477 e478 e479 ⟨by omega, by omega⟩ (fun g628 hI629 hR630 => ?_)
      refine At.enter rfl ?_
      refine q_iinc e479 (x469.toInt + 7) rfl (by omega) (fun v631 hv631 => ?_)
      refine r_goto ?_
      exact ih475 (3584 - v631.toInt) _ _ ⟨v631, by first | rfl | omega, hI629, hF0, (w_p1 (by decide) (Or.inr rfl) e476), (w_p1 (by decide) (Or.inr rfl) e477), (w_p1 (by decide) (Or.inr rfl) e478), (w_e1 _ _ _), by omega, hR630⟩ ⟨by omega, by omega⟩
    by_cases c491_35 : v490.toInt = 35
    · refine r_tsw 1215 (by rw [c491_35]; rfl) ?_
      refine lq_c35 d hI471 q481 hL hL2 e476 e477 e478 e479 ⟨by omega, by omega⟩ (fun g632 hI633 hR634 => ?_)
      refine At.enter rfl ?_
      refine q_iinc e479 (x469.toInt + 7) rfl (by omega) (fun v635 hv635 => ?_)
      refine r_goto ?_
      exact ih475 (3584 - v635.toInt) _ _ ⟨v635, by first | rfl | omega, hI633, hF0, (w_p1 (by decide) (Or.inr rfl) e476), (w_p1 (by decide) (Or.inr rfl) e477), (w_p1 (by decide) (Or.inr rfl) e478), (w_e1 _ _ _), by omega, hR634⟩ ⟨by omega, by omega⟩
    by_cases c491_36 : v490.toInt = 36
    · refine r_tsw 1248 (by rw [c491_36]; rfl) ?_
      refine lq_c36 d hI471 q481 hL hL2 e476 e477 e478 e479 ⟨by omega, by omega⟩ (fun g636 hI637 hR638 => ?_)
      refine At.enter rfl ?_
      refine q_iinc e479 (x469.toInt + 7) rfl (by omega) (fun v639 hv639 => ?_)
      refine r_goto ?_
      exact ih475 (3584 - v639.toInt) _ _ ⟨v639, by first | rfl | omega, hI637, hF0, (w_p1 (by decide) (Or.inr rfl) e476), (w_p1 (by decide) (Or.inr rfl) e477), (w_p1 (by decide) (Or.inr rfl) e478), (w_e1 _ _ _), by omega, hR638⟩ ⟨by omega, by omega⟩
    by_cases c491_37 : v490.toInt = 37
    · refine r_tsw 1271 (by rw [c491_37]; rfl) ?_
      refine lq_c37 d hI471 q481 hL hL2 e476 e477 e478 e479 ⟨by omega, by omega⟩ (fun g640 hI641 hR642 => ?_)
      refine At.enter rfl ?_
      refine q_iinc e479 (x469.toInt + 7) rfl (by omega) (fun v643 hv643 => ?_)
      refine r_goto ?_
      exact ih475 (3584 - v643.toInt) _ _ ⟨v643, by first | rfl | omega, hI641, hF0, (w_p1 (by decide) (Or.inr rfl) e476), (w_p1 (by decide) (Or.inr rfl) e477), (w_p1 (by decide) (Or.inr rfl) e478), (w_e1 _ _ _), by omega, hR642⟩ ⟨by omega, by omega⟩
    by_cases c491_38 : v490.toInt = 38
    · refine r_tsw 1294 (by rw [c491_38]; rfl) ?_
      refine lq_c38 d hI471 q481 hL hL2 e476 e477 e478 e479 ⟨by omega, by omega⟩ (fun g644 hI645 hR646 => ?_)
      refine At.enter rfl ?_
      refine q_iinc e479 (x469.toInt + 7) rfl (by omega) (fun v647 hv647 => ?_)
      refine r_goto ?_
      exact ih475 (3584 - v647.toInt) _ _ ⟨v647, by first | rfl | omega, hI645, hF0, (w_p1 (by decide) (Or.inr rfl) e476), (w_p1 (by decide) (Or.inr rfl) e477), (w_p1 (by decide) (Or.inr rfl) e478), (w_e1 _ _ _), by omega, hR646⟩ ⟨by omega, by omega⟩
    by_cases c491_39 : v490.toInt = 39
    · refine r_tsw 1317 (by rw [c491_39]; rfl) ?_
      refine lq_c39 d hI471 q481 hL hL2 e476 e477 e478 e479 ⟨by omega, by omega⟩ (fun g648 hI649 hR650 => ?_)
      refine At.enter rfl ?_
      refine q_iinc e479 (x469.toInt + 7) rfl (by omega) (fun v651 hv651 => ?_)
      refine r_goto ?_
      exact ih475 (3584 - v651.toInt) _ _ ⟨v651, by first | rfl | omega, hI649, hF0, (w_p1 (by decide) (Or.inr rfl) e476), (w_p1 (by decide) (Or.inr rfl) e477), (w_p1 (by decide) (Or.inr rfl) e478), (w_e1 _ _ _), by omega, hR650⟩ ⟨by omega, by omega⟩
    have c652 : v490.toInt < 0 ∨ 39 < v490.toInt := by omega
    refine r_tsw 1330 (by unfold en_sw; rw [if_pos c652]; rfl) ?_
    refine At.enter rfl ?_
    refine q_iinc e479 (x469.toInt + 7) rfl (by omega) (fun v653 hv653 => ?_)
    refine r_goto ?_
    exact ih475 (3584 - v653.toInt) _ _ ⟨v653, by first | rfl | omega, hI471, hF472, (w_p1 (by decide) (Or.inr rfl) e476), (w_p1 (by decide) (Or.inr rfl) e477), (w_p1 (by decide) (Or.inr rfl) e478), (w_e1 _ _ _), by omega, q481⟩ ⟨by omega, by omega⟩
