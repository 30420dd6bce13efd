set_option maxHeartbeats 4000000 in
set_option maxRecDepth 100000 in
theorem lc_setLimit {E : gE} {k n b L j : Nat} {xs : Nat → Int32} {σ : gS} {τ : gT} {o : gO} {nw nl lm : Nat} {x : Int32} {q : Nat} (A : gW E k n b L j xs) (R : RR σ τ nw nl lm) (h1 : ¬ x < 3) (h2 : x ≤ 15) (hq1 : 3 ≤ q) (hq2 : q ≤ 15) (hq3 : x = nI q) (e1 : xs (3 * j + 1) = x) (kk : gK0 E k n b j) : G E k n 402 (LV E b j) [] σ τ o := by
  obtain ⟨C, X, hN, hj, hL, hF, hLo, hk, hn⟩ := A
  have hl : (eL E).stackTraces = false := C.2.2.2.2.2.2.2.2.2
  have hIM : IM σ τ nw nl lm := RR_IM R
  have hnw := Iv_nw R.1
  have hnl := Iv_nl R.1
  have h3 : σ 3 = nI nw := Iv_h3 R.1
  have h9 : σ 9 = nI nl := Iv_h9 R.1
  obtain ⟨I, hb35, s1, s2, s3, s4, s5, s6, s7, t1, t2, t3, t4, t5, hz9⟩ := id R
  show G E k n 402 [(4, .int (nI (3 * j))), (3, .ref ((eG E).2.1 102)), (2, .ref ((eG E).2.1 101)), (1, .ref ((eG E).2.1 100)), (0, .ref b)] [] σ τ o
  refine g_aload_n C dL_law_402 rfl rfl ?_
  refine g_aload_n C dL_law_403 rfl rfl ?_
  refine g_iload C dL_law_404 rfl ?_
  refine g_iconst (v := 1) C dL_law_406 (by decide) ?_
  refine g_iadd C dL_law_407 ?_
  refine g_sld C X (3 * j + 1) dL_law_408 (nI_1 _) (by omega) hL e1 ?_
  refine g_aload_n C dL_law_409 rfl rfl ?_
  refine g_callLE (na := 3) C hN dL_law_410 (h_setLimit hl (eG E) σ τ o x h1 h2) gL_law_L_setLimit rfl rfl (by decide +kernel) rfl (Nat.le_of_ble_eq_true rfl) (by first | exact ⟨Nat.le_trans (by decide) hF, Nat.le_trans (by decide) hLo⟩) (by omega) ?_
  refine g_istore C [(5, _), (4, _), (3, _), (2, _), (1, _), (0, _)] dL_law_413 (by decide) rfl ?_
  refine g_aload_n C dL_law_415 rfl rfl ?_
  refine g_aload_n C dL_law_416 rfl rfl ?_
  refine g_iload C dL_law_417 rfl ?_
  refine g_iconst (v := 1) C dL_law_419 (by decide) ?_
  refine g_iadd C dL_law_420 ?_
  refine g_sld C X (3 * j + 1) dL_law_421 (nI_1 _) (by omega) hL e1 ?_
  refine g_callVEi (Cl := RX1) (T := TX1) (N := 16) (ci := 1) (q0 := 12) (na := 1) C dL_law_422 (m_setLimit hl (eG E) _ _ _ x h1 h2) gL_law_X1_setLimit rfl rfl (by decide +kernel) rfl rfl rfl (Nat.le_of_ble_eq_true rfl) (by first | exact ⟨Nat.le_trans (by decide) hF, Nat.le_trans (by decide) hLo⟩) (by omega) ?_
  refine g_istore C [(6, _), (5, _), (4, _), (3, _), (2, _), (1, _), (0, _)] dL_law_425 (by decide) rfl ?_
  refine g_aload_n C dL_law_427 rfl rfl ?_
  refine g_callVEi (Cl := RX1) (T := TX1) (N := 16) (ci := 1) (q0 := 12) (na := 0) C dL_law_428 (m_thrown hl (eG E) _ _ _) gL_law_X1_thrown rfl rfl (by decide +kernel) rfl rfl rfl (Nat.le_of_ble_eq_true rfl) (by first | exact ⟨Nat.le_trans (by decide) hF, Nat.le_trans (by decide) hLo⟩) (by omega) ?_
  refine g_topi (show _ = (0 : Int32) from rfl) ?_
  refine g_iload C dL_law_431 rfl ?_
  refine g_icmp_eq (tgt := 438) C dL_law_433 (by decide) (fun c_433 => ?_) (fun c_433 => absurd rfl c_433)
  refine g_iload C dL_law_438 rfl ?_
  refine g_if_ne (tgt := 455) C dL_law_440 (by decide) (fun c_440 => absurd rfl c_440) (fun c_440 => ?_)
  refine g_aload_n C dL_law_443 rfl rfl ?_
  refine g_iconst (v := 0) C dL_law_444 (by decide) ?_
  refine g_lald C dL_law_445 ?_
  refine g_iload C dL_law_446 rfl ?_
  refine g_i2l C dL_law_448 ?_
  refine g_lcmpE C (congrArg Int32.toInt64 (show σ 4 = σ 22 from s2.symm)) dL_law_449 ?_
  refine g_if_eq (tgt := 455) C dL_law_450 (by decide) (fun c_450 => ?_) (fun c_450 => absurd rfl c_450)
  refine g_goto (tgt := 1650) C dL_law_455 (by decide) ?_
  refine g_wide (k + 1) (n + 10) (by omega) (by omega) ?_
  refine g_lv [2, 3, 4, 5, 6] [(4, .int (nI (3 * j))), (3, .ref ((eG E).2.1 102)), (2, .ref ((eG E).2.1 101)), (1, .ref ((eG E).2.1 100)), (0, .ref b)] rfl ?_
  exact kk _ _ _ _ _ _ (RR_s4 R hq1 hq2 hq3)
set_option maxHeartbeats 4000000 in
set_option maxRecDepth 100000 in
theorem lc_setLimitX {E : gE} {k n b L j : Nat} {xs : Nat → Int32} {σ : gS} {τ : gT} {o : gO} {nw nl lm : Nat} {x : Int32} (A : gW E k n b L j xs) (R : RR σ τ nw nl lm) (hx : x < 3 ∨ ¬ x ≤ 15) (e1 : xs (3 * j + 1) = x) (kk : gK0 E k n b j) : G E k n 402 (LV E b j) [] σ τ o := by
  obtain ⟨C, X, hN, hj, hL, hF, hLo, hk, hn⟩ := A
  have hl : (eL E).stackTraces = false := C.2.2.2.2.2.2.2.2.2
  have hIM : IM σ τ nw nl lm := RR_IM R
  have hnw := Iv_nw R.1
  have hnl := Iv_nl R.1
  have h3 : σ 3 = nI nw := Iv_h3 R.1
  have h9 : σ 9 = nI nl := Iv_h9 R.1
  obtain ⟨I, hb35, s1, s2, s3, s4, s5, s6, s7, t1, t2, t3, t4, t5, hz9⟩ := id R
  show G E k n 402 [(4, .int (nI (3 * j))), (3, .ref ((eG E).2.1 102)), (2, .ref ((eG E).2.1 101)), (1, .ref ((eG E).2.1 100)), (0, .ref b)] [] σ τ o
  refine g_aload_n C dL_law_402 rfl rfl ?_
  refine g_aload_n C dL_law_403 rfl rfl ?_
  refine g_iload C dL_law_404 rfl ?_
  refine g_iconst (v := 1) C dL_law_406 (by decide) ?_
  refine g_iadd C dL_law_407 ?_
  refine g_sld C X (3 * j + 1) dL_law_408 (nI_1 _) (by omega) hL e1 ?_
  refine g_aload_n C dL_law_409 rfl rfl ?_
  refine g_callLE (na := 3) C hN dL_law_410 (h_setLimitX hl (eG E) σ τ o x hx) gL_law_L_setLimit rfl rfl (by decide +kernel) rfl (Nat.le_of_ble_eq_true rfl) (by first | exact ⟨Nat.le_trans (by decide) hF, Nat.le_trans (by decide) hLo⟩) (by omega) ?_
  refine g_istore C [(5, _), (4, _), (3, _), (2, _), (1, _), (0, _)] dL_law_413 (by decide) rfl ?_
  refine g_aload_n C dL_law_415 rfl rfl ?_
  refine g_aload_n C dL_law_416 rfl rfl ?_
  refine g_iload C dL_law_417 rfl ?_
  refine g_iconst (v := 1) C dL_law_419 (by decide) ?_
  refine g_iadd C dL_law_420 ?_
  refine g_sld C X (3 * j + 1) dL_law_421 (nI_1 _) (by omega) hL e1 ?_
  refine g_callVEi (Cl := RX1) (T := TX1) (N := 16) (ci := 1) (q0 := 12) (na := 1) C dL_law_422 (m_setLimitX hl (eG E) _ _ _ x hx) gL_law_X1_setLimit rfl rfl (by decide +kernel) rfl rfl rfl (Nat.le_of_ble_eq_true rfl) (by first | exact ⟨Nat.le_trans (by decide) hF, Nat.le_trans (by decide) hLo⟩) (by omega) ?_
  refine g_istore C [(6, _), (5, _), (4, _), (3, _), (2, _), (1, _), (0, _)] dL_law_425 (by decide) rfl ?_
  refine g_aload_n C dL_law_427 rfl rfl ?_
  refine g_callVEi (Cl := RX1) (T := TX1) (N := 16) (ci := 1) (q0 := 12) (na := 0) C dL_law_428 (m_thrown hl (eG E) _ _ _) gL_law_X1_thrown rfl rfl (by decide +kernel) rfl rfl rfl (Nat.le_of_ble_eq_true rfl) (by first | exact ⟨Nat.le_trans (by decide) hF, Nat.le_trans (by decide) hLo⟩) (by omega) ?_
  refine g_topi (show _ = (1 : Int32) from rfl) ?_
  refine g_iload C dL_law_431 rfl ?_
  refine g_icmp_eq (tgt := 438) C dL_law_433 (by decide) (fun c_433 => ?_) (fun c_433 => absurd rfl c_433)
  refine g_iload C dL_law_438 rfl ?_
  refine g_if_ne (tgt := 455) C dL_law_440 (by decide) (fun c_440 => ?_) (fun c_440 => absurd c_440 (by decide))
  refine g_goto (tgt := 1650) C dL_law_455 (by decide) ?_
  refine g_wide (k + 1) (n + 10) (by omega) (by omega) ?_
  refine g_lv [2, 3, 4, 5, 6] [(4, .int (nI (3 * j))), (3, .ref ((eG E).2.1 102)), (2, .ref ((eG E).2.1 101)), (1, .ref ((eG E).2.1 100)), (0, .ref b)] rfl ?_
  exact kk _ _ _ _ _ _ (RR_20 (RR_20 R 0) 1)
set_option maxHeartbeats 4000000 in
set_option maxRecDepth 100000 in
theorem lc_setLeastCount {E : gE} {k n b L j : Nat} {xs : Nat → Int32} {σ : gS} {τ : gT} {o : gO} {nw nl lm : Nat} {x : Int32} (A : gW E k n b L j xs) (R : RR σ τ nw nl lm) (h1 : ¬ x < 0) (h2 : x ≤ 20) (e1 : xs (3 * j + 1) = x) (kk : gK0 E k n b j) : G E k n 458 (LV E b j) [] σ τ o := by
  obtain ⟨C, X, hN, hj, hL, hF, hLo, hk, hn⟩ := A
  have hl : (eL E).stackTraces = false := C.2.2.2.2.2.2.2.2.2
  have hIM : IM σ τ nw nl lm := RR_IM R
  have hnw := Iv_nw R.1
  have hnl := Iv_nl R.1
  have h3 : σ 3 = nI nw := Iv_h3 R.1
  have h9 : σ 9 = nI nl := Iv_h9 R.1
  obtain ⟨I, hb35, s1, s2, s3, s4, s5, s6, s7, t1, t2, t3, t4, t5, hz9⟩ := id R
  show G E k n 458 [(4, .int (nI (3 * j))), (3, .ref ((eG E).2.1 102)), (2, .ref ((eG E).2.1 101)), (1, .ref ((eG E).2.1 100)), (0, .ref b)] [] σ τ o
  refine g_aload_n C dL_law_458 rfl rfl ?_
  refine g_aload_n C dL_law_459 rfl rfl ?_
  refine g_iload C dL_law_460 rfl ?_
  refine g_iconst (v := 1) C dL_law_462 (by decide) ?_
  refine g_iadd C dL_law_463 ?_
  refine g_sld C X (3 * j + 1) dL_law_464 (nI_1 _) (by omega) hL e1 ?_
  refine g_aload_n C dL_law_465 rfl rfl ?_
  refine g_callLE (na := 3) C hN dL_law_466 (h_setLeastCount hl (eG E) σ τ o x h1 h2) gL_law_L_setLeastCount rfl rfl (by decide +kernel) rfl (Nat.le_of_ble_eq_true rfl) (by first | exact ⟨Nat.le_trans (by decide) hF, Nat.le_trans (by decide) hLo⟩) (by omega) ?_
  refine g_istore C [(5, _), (4, _), (3, _), (2, _), (1, _), (0, _)] dL_law_469 (by decide) rfl ?_
  refine g_aload_n C dL_law_471 rfl rfl ?_
  refine g_aload_n C dL_law_472 rfl rfl ?_
  refine g_iload C dL_law_473 rfl ?_
  refine g_iconst (v := 1) C dL_law_475 (by decide) ?_
  refine g_iadd C dL_law_476 ?_
  refine g_sld C X (3 * j + 1) dL_law_477 (nI_1 _) (by omega) hL e1 ?_
  refine g_callVEi (Cl := RX1) (T := TX1) (N := 16) (ci := 1) (q0 := 12) (na := 1) C dL_law_478 (m_setLeastCount hl (eG E) _ _ _ x h1 h2) gL_law_X1_setLeastCount rfl rfl (by decide +kernel) rfl rfl rfl (Nat.le_of_ble_eq_true rfl) (by first | exact ⟨Nat.le_trans (by decide) hF, Nat.le_trans (by decide) hLo⟩) (by omega) ?_
  refine g_istore C [(6, _), (5, _), (4, _), (3, _), (2, _), (1, _), (0, _)] dL_law_481 (by decide) rfl ?_
  refine g_aload_n C dL_law_483 rfl rfl ?_
  refine g_callVEi (Cl := RX1) (T := TX1) (N := 16) (ci := 1) (q0 := 12) (na := 0) C dL_law_484 (m_thrown hl (eG E) _ _ _) gL_law_X1_thrown rfl rfl (by decide +kernel) rfl rfl rfl (Nat.le_of_ble_eq_true rfl) (by first | exact ⟨Nat.le_trans (by decide) hF, Nat.le_trans (by decide) hLo⟩) (by omega) ?_
  refine g_topi (show _ = (0 : Int32) from rfl) ?_
  refine g_iload C dL_law_487 rfl ?_
  refine g_icmp_eq (tgt := 494) C dL_law_489 (by decide) (fun c_489 => ?_) (fun c_489 => absurd rfl c_489)
  refine g_iload C dL_law_494 rfl ?_
  refine g_if_ne (tgt := 511) C dL_law_496 (by decide) (fun c_496 => absurd rfl c_496) (fun c_496 => ?_)
  refine g_aload_n C dL_law_499 rfl rfl ?_
  refine g_iconst (v := 0) C dL_law_500 (by decide) ?_
  refine g_lald C dL_law_501 ?_
  refine g_iload C dL_law_502 rfl ?_
  refine g_i2l C dL_law_504 ?_
  refine g_lcmpE C (congrArg Int32.toInt64 (show σ 5 = σ 23 from s3.symm)) dL_law_505 ?_
  refine g_if_eq (tgt := 511) C dL_law_506 (by decide) (fun c_506 => ?_) (fun c_506 => absurd rfl c_506)
  refine g_goto (tgt := 1650) C dL_law_511 (by decide) ?_
  refine g_wide (k + 1) (n + 10) (by omega) (by omega) ?_
  refine g_lv [2, 3, 4, 5, 6] [(4, .int (nI (3 * j))), (3, .ref ((eG E).2.1 102)), (2, .ref ((eG E).2.1 101)), (1, .ref ((eG E).2.1 100)), (0, .ref b)] rfl ?_
  exact kk _ _ _ _ _ _ (RR_s5 R x)
set_option maxHeartbeats 4000000 in
set_option maxRecDepth 100000 in
theorem lc_setLeastCountX {E : gE} {k n b L j : Nat} {xs : Nat → Int32} {σ : gS} {τ : gT} {o : gO} {nw nl lm : Nat} {x : Int32} (A : gW E k n b L j xs) (R : RR σ τ nw nl lm) (hx : x < 0 ∨ ¬ x ≤ 20) (e1 : xs (3 * j + 1) = x) (kk : gK0 E k n b j) : G E k n 458 (LV E b j) [] σ τ o := by
  obtain ⟨C, X, hN, hj, hL, hF, hLo, hk, hn⟩ := A
  have hl : (eL E).stackTraces = false := C.2.2.2.2.2.2.2.2.2
  have hIM : IM σ τ nw nl lm := RR_IM R
  have hnw := Iv_nw R.1
  have hnl := Iv_nl R.1
  have h3 : σ 3 = nI nw := Iv_h3 R.1
  have h9 : σ 9 = nI nl := Iv_h9 R.1
  obtain ⟨I, hb35, s1, s2, s3, s4, s5, s6, s7, t1, t2, t3, t4, t5, hz9⟩ := id R
  show G E k n 458 [(4, .int (nI (3 * j))), (3, .ref ((eG E).2.1 102)), (2, .ref ((eG E).2.1 101)), (1, .ref ((eG E).2.1 100)), (0, .ref b)] [] σ τ o
  refine g_aload_n C dL_law_458 rfl rfl ?_
  refine g_aload_n C dL_law_459 rfl rfl ?_
  refine g_iload C dL_law_460 rfl ?_
  refine g_iconst (v := 1) C dL_law_462 (by decide) ?_
  refine g_iadd C dL_law_463 ?_
  refine g_sld C X (3 * j + 1) dL_law_464 (nI_1 _) (by omega) hL e1 ?_
  refine g_aload_n C dL_law_465 rfl rfl ?_
  refine g_callLE (na := 3) C hN dL_law_466 (h_setLeastCountX hl (eG E) σ τ o x hx) gL_law_L_setLeastCount rfl rfl (by decide +kernel) rfl (Nat.le_of_ble_eq_true rfl) (by first | exact ⟨Nat.le_trans (by decide) hF, Nat.le_trans (by decide) hLo⟩) (by omega) ?_
  refine g_istore C [(5, _), (4, _), (3, _), (2, _), (1, _), (0, _)] dL_law_469 (by decide) rfl ?_
  refine g_aload_n C dL_law_471 rfl rfl ?_
  refine g_aload_n C dL_law_472 rfl rfl ?_
  refine g_iload C dL_law_473 rfl ?_
  refine g_iconst (v := 1) C dL_law_475 (by decide) ?_
  refine g_iadd C dL_law_476 ?_
  refine g_sld C X (3 * j + 1) dL_law_477 (nI_1 _) (by omega) hL e1 ?_
  refine g_callVEi (Cl := RX1) (T := TX1) (N := 16) (ci := 1) (q0 := 12) (na := 1) C dL_law_478 (m_setLeastCountX hl (eG E) _ _ _ x hx) gL_law_X1_setLeastCount rfl rfl (by decide +kernel) rfl rfl rfl (Nat.le_of_ble_eq_true rfl) (by first | exact ⟨Nat.le_trans (by decide) hF, Nat.le_trans (by decide) hLo⟩) (by omega) ?_
  refine g_istore C [(6, _), (5, _), (4, _), (3, _), (2, _), (1, _), (0, _)] dL_law_481 (by decide) rfl ?_
  refine g_aload_n C dL_law_483 rfl rfl ?_
  refine g_callVEi (Cl := RX1) (T := TX1) (N := 16) (ci := 1) (q0 := 12) (na := 0) C dL_law_484 (m_thrown hl (eG E) _ _ _) gL_law_X1_thrown rfl rfl (by decide +kernel) rfl rfl rfl (Nat.le_of_ble_eq_true rfl) (by first | exact ⟨Nat.le_trans (by decide) hF, Nat.le_trans (by decide) hLo⟩) (by omega) ?_
  refine g_topi (show _ = (1 : Int32) from rfl) ?_
  refine g_iload C dL_law_487 rfl ?_
  refine g_icmp_eq (tgt := 494) C dL_law_489 (by decide) (fun c_489 => ?_) (fun c_489 => absurd rfl c_489)
  refine g_iload C dL_law_494 rfl ?_
  refine g_if_ne (tgt := 511) C dL_law_496 (by decide) (fun c_496 => ?_) (fun c_496 => absurd c_496 (by decide))
  refine g_goto (tgt := 1650) C dL_law_511 (by decide) ?_
  refine g_wide (k + 1) (n + 10) (by omega) (by omega) ?_
  refine g_lv [2, 3, 4, 5, 6] [(4, .int (nI (3 * j))), (3, .ref ((eG E).2.1 102)), (2, .ref ((eG E).2.1 101)), (1, .ref ((eG E).2.1 100)), (0, .ref b)] rfl ?_
  exact kk _ _ _ _ _ _ (RR_20 (RR_20 R 0) 1)
set_option maxHeartbeats 4000000 in
set_option maxRecDepth 100000 in
theorem lc_setCoins {E : gE} {k n b L j : Nat} {xs : Nat → Int32} {σ : gS} {τ : gT} {o : gO} {nw nl lm : Nat} {x : Int32} (A : gW E k n b L j xs) (R : RR σ τ nw nl lm) (h1 : ¬ x < 1) (h2 : x ≤ 50) (e1 : xs (3 * j + 1) = x) (kk : gK0 E k n b j) : G E k n 514 (LV E b j) [] σ τ o := by
  obtain ⟨C, X, hN, hj, hL, hF, hLo, hk, hn⟩ := A
  have hl : (eL E).stackTraces = false := C.2.2.2.2.2.2.2.2.2
  have hIM : IM σ τ nw nl lm := RR_IM R
  have hnw := Iv_nw R.1
  have hnl := Iv_nl R.1
  have h3 : σ 3 = nI nw := Iv_h3 R.1
  have h9 : σ 9 = nI nl := Iv_h9 R.1
  obtain ⟨I, hb35, s1, s2, s3, s4, s5, s6, s7, t1, t2, t3, t4, t5, hz9⟩ := id R
  show G E k n 514 [(4, .int (nI (3 * j))), (3, .ref ((eG E).2.1 102)), (2, .ref ((eG E).2.1 101)), (1, .ref ((eG E).2.1 100)), (0, .ref b)] [] σ τ o
  refine g_aload_n C dL_law_514 rfl rfl ?_
  refine g_aload_n C dL_law_515 rfl rfl ?_
  refine g_iload C dL_law_516 rfl ?_
  refine g_iconst (v := 1) C dL_law_518 (by decide) ?_
  refine g_iadd C dL_law_519 ?_
  refine g_sld C X (3 * j + 1) dL_law_520 (nI_1 _) (by omega) hL e1 ?_
  refine g_aload_n C dL_law_521 rfl rfl ?_
  refine g_callLE (na := 3) C hN dL_law_522 (h_setCoins hl (eG E) σ τ o x h1 h2) gL_law_L_setCoins rfl rfl (by decide +kernel) rfl (Nat.le_of_ble_eq_true rfl) (by first | exact ⟨Nat.le_trans (by decide) hF, Nat.le_trans (by decide) hLo⟩) (by omega) ?_
  refine g_istore C [(5, _), (4, _), (3, _), (2, _), (1, _), (0, _)] dL_law_525 (by decide) rfl ?_
  refine g_aload_n C dL_law_527 rfl rfl ?_
  refine g_aload_n C dL_law_528 rfl rfl ?_
  refine g_iload C dL_law_529 rfl ?_
  refine g_iconst (v := 1) C dL_law_531 (by decide) ?_
  refine g_iadd C dL_law_532 ?_
  refine g_sld C X (3 * j + 1) dL_law_533 (nI_1 _) (by omega) hL e1 ?_
  refine g_callVEi (Cl := RX1) (T := TX1) (N := 16) (ci := 1) (q0 := 12) (na := 1) C dL_law_534 (m_setCoins hl (eG E) _ _ _ x h1 h2) gL_law_X1_setCoins rfl rfl (by decide +kernel) rfl rfl rfl (Nat.le_of_ble_eq_true rfl) (by first | exact ⟨Nat.le_trans (by decide) hF, Nat.le_trans (by decide) hLo⟩) (by omega) ?_
  refine g_istore C [(6, _), (5, _), (4, _), (3, _), (2, _), (1, _), (0, _)] dL_law_537 (by decide) rfl ?_
  refine g_aload_n C dL_law_539 rfl rfl ?_
  refine g_callVEi (Cl := RX1) (T := TX1) (N := 16) (ci := 1) (q0 := 12) (na := 0) C dL_law_540 (m_thrown hl (eG E) _ _ _) gL_law_X1_thrown rfl rfl (by decide +kernel) rfl rfl rfl (Nat.le_of_ble_eq_true rfl) (by first | exact ⟨Nat.le_trans (by decide) hF, Nat.le_trans (by decide) hLo⟩) (by omega) ?_
  refine g_topi (show _ = (0 : Int32) from rfl) ?_
  refine g_iload C dL_law_543 rfl ?_
  refine g_icmp_eq (tgt := 550) C dL_law_545 (by decide) (fun c_545 => ?_) (fun c_545 => absurd rfl c_545)
  refine g_iload C dL_law_550 rfl ?_
  refine g_if_ne (tgt := 567) C dL_law_552 (by decide) (fun c_552 => absurd rfl c_552) (fun c_552 => ?_)
  refine g_aload_n C dL_law_555 rfl rfl ?_
  refine g_iconst (v := 0) C dL_law_556 (by decide) ?_
  refine g_lald C dL_law_557 ?_
  refine g_iload C dL_law_558 rfl ?_
  refine g_i2l C dL_law_560 ?_
  refine g_lcmpE C (congrArg Int32.toInt64 (show σ 6 = σ 24 from s4.symm)) dL_law_561 ?_
  refine g_if_eq (tgt := 567) C dL_law_562 (by decide) (fun c_562 => ?_) (fun c_562 => absurd rfl c_562)
  refine g_goto (tgt := 1650) C dL_law_567 (by decide) ?_
  refine g_wide (k + 1) (n + 10) (by omega) (by omega) ?_
  refine g_lv [2, 3, 4, 5, 6] [(4, .int (nI (3 * j))), (3, .ref ((eG E).2.1 102)), (2, .ref ((eG E).2.1 101)), (1, .ref ((eG E).2.1 100)), (0, .ref b)] rfl ?_
  exact kk _ _ _ _ _ _ (RR_s6 R x)
set_option maxHeartbeats 4000000 in
set_option maxRecDepth 100000 in
theorem lc_setCoinsX {E : gE} {k n b L j : Nat} {xs : Nat → Int32} {σ : gS} {τ : gT} {o : gO} {nw nl lm : Nat} {x : Int32} (A : gW E k n b L j xs) (R : RR σ τ nw nl lm) (hx : x < 1 ∨ ¬ x ≤ 50) (e1 : xs (3 * j + 1) = x) (kk : gK0 E k n b j) : G E k n 514 (LV E b j) [] σ τ o := by
  obtain ⟨C, X, hN, hj, hL, hF, hLo, hk, hn⟩ := A
  have hl : (eL E).stackTraces = false := C.2.2.2.2.2.2.2.2.2
  have hIM : IM σ τ nw nl lm := RR_IM R
  have hnw := Iv_nw R.1
  have hnl := Iv_nl R.1
  have h3 : σ 3 = nI nw := Iv_h3 R.1
  have h9 : σ 9 = nI nl := Iv_h9 R.1
  obtain ⟨I, hb35, s1, s2, s3, s4, s5, s6, s7, t1, t2, t3, t4, t5, hz9⟩ := id R
  show G E k n 514 [(4, .int (nI (3 * j))), (3, .ref ((eG E).2.1 102)), (2, .ref ((eG E).2.1 101)), (1, .ref ((eG E).2.1 100)), (0, .ref b)] [] σ τ o
  refine g_aload_n C dL_law_514 rfl rfl ?_
  refine g_aload_n C dL_law_515 rfl rfl ?_
  refine g_iload C dL_law_516 rfl ?_
  refine g_iconst (v := 1) C dL_law_518 (by decide) ?_
  refine g_iadd C dL_law_519 ?_
  refine g_sld C X (3 * j + 1) dL_law_520 (nI_1 _) (by omega) hL e1 ?_
  refine g_aload_n C dL_law_521 rfl rfl ?_
  refine g_callLE (na := 3) C hN dL_law_522 (h_setCoinsX hl (eG E) σ τ o x hx) gL_law_L_setCoins rfl rfl (by decide +kernel) rfl (Nat.le_of_ble_eq_true rfl) (by first | exact ⟨Nat.le_trans (by decide) hF, Nat.le_trans (by decide) hLo⟩) (by omega) ?_
  refine g_istore C [(5, _), (4, _), (3, _), (2, _), (1, _), (0, _)] dL_law_525 (by decide) rfl ?_
  refine g_aload_n C dL_law_527 rfl rfl ?_
  refine g_aload_n C dL_law_528 rfl rfl ?_
  refine g_iload C dL_law_529 rfl ?_
  refine g_iconst (v := 1) C dL_law_531 (by decide) ?_
  refine g_iadd C dL_law_532 ?_
  refine g_sld C X (3 * j + 1) dL_law_533 (nI_1 _) (by omega) hL e1 ?_
  refine g_callVEi (Cl := RX1) (T := TX1) (N := 16) (ci := 1) (q0 := 12) (na := 1) C dL_law_534 (m_setCoinsX hl (eG E) _ _ _ x hx) gL_law_X1_setCoins rfl rfl (by decide +kernel) rfl rfl rfl (Nat.le_of_ble_eq_true rfl) (by first | exact ⟨Nat.le_trans (by decide) hF, Nat.le_trans (by decide) hLo⟩) (by omega) ?_
  refine g_istore C [(6, _), (5, _), (4, _), (3, _), (2, _), (1, _), (0, _)] dL_law_537 (by decide) rfl ?_
  refine g_aload_n C dL_law_539 rfl rfl ?_
  refine g_callVEi (Cl := RX1) (T := TX1) (N := 16) (ci := 1) (q0 := 12) (na := 0) C dL_law_540 (m_thrown hl (eG E) _ _ _) gL_law_X1_thrown rfl rfl (by decide +kernel) rfl rfl rfl (Nat.le_of_ble_eq_true rfl) (by first | exact ⟨Nat.le_trans (by decide) hF, Nat.le_trans (by decide) hLo⟩) (by omega) ?_
  refine g_topi (show _ = (1 : Int32) from rfl) ?_
  refine g_iload C dL_law_543 rfl ?_
  refine g_icmp_eq (tgt := 550) C dL_law_545 (by decide) (fun c_545 => ?_) (fun c_545 => absurd rfl c_545)
  refine g_iload C dL_law_550 rfl ?_
  refine g_if_ne (tgt := 567) C dL_law_552 (by decide) (fun c_552 => ?_) (fun c_552 => absurd c_552 (by decide))
  refine g_goto (tgt := 1650) C dL_law_567 (by decide) ?_
  refine g_wide (k + 1) (n + 10) (by omega) (by omega) ?_
  refine g_lv [2, 3, 4, 5, 6] [(4, .int (nI (3 * j))), (3, .ref ((eG E).2.1 102)), (2, .ref ((eG E).2.1 101)), (1, .ref ((eG E).2.1 100)), (0, .ref b)] rfl ?_
  exact kk _ _ _ _ _ _ (RR_20 (RR_20 R 0) 1)
set_option maxHeartbeats 4000000 in
set_option maxRecDepth 100000 in
theorem lc_addWord {E : gE} {k n b L j : Nat} {xs : Nat → Int32} {σ : gS} {τ : gT} {o : gO} {nw nl lm : Nat} {x : Int32} {q : Nat} (A : gW E k n b L j xs) (R : RR σ τ nw nl lm) (h1 : ¬ x < 1) (h2 : x ≤ 30) (hw : nw < 12) (hq1 : 1 ≤ q) (hq2 : q ≤ 30) (hq3 : x = nI q) (e1 : xs (3 * j + 1) = x) (kk : gK0 E k n b j) : G E k n 196 (LV E b j) [] σ τ o := by
  obtain ⟨C, X, hN, hj, hL, hF, hLo, hk, hn⟩ := A
  have hl : (eL E).stackTraces = false := C.2.2.2.2.2.2.2.2.2
  have hIM : IM σ τ nw nl lm := RR_IM R
  have hnw := Iv_nw R.1
  have hnl := Iv_nl R.1
  have h3 : σ 3 = nI nw := Iv_h3 R.1
  have h9 : σ 9 = nI nl := Iv_h9 R.1
  obtain ⟨I, hb35, s1, s2, s3, s4, s5, s6, s7, t1, t2, t3, t4, t5, hz9⟩ := id R
  show G E k n 196 [(4, .int (nI (3 * j))), (3, .ref ((eG E).2.1 102)), (2, .ref ((eG E).2.1 101)), (1, .ref ((eG E).2.1 100)), (0, .ref b)] [] σ τ o
  refine g_aload_n C dL_law_196 rfl rfl ?_
  refine g_aload_n C dL_law_197 rfl rfl ?_
  refine g_iload C dL_law_198 rfl ?_
  refine g_iconst (v := 1) C dL_law_200 (by decide) ?_
  refine g_iadd C dL_law_201 ?_
  refine g_sld C X (3 * j + 1) dL_law_202 (nI_1 _) (by omega) hL e1 ?_
  refine g_aload_n C dL_law_203 rfl rfl ?_
  refine g_callLE (na := 3) C hN dL_law_204 (h_addWord hl (eG E) σ τ o nw nl lm x I h1 h2 hw) gL_law_L_addWord rfl rfl (by decide +kernel) rfl (Nat.le_of_ble_eq_true rfl) (by first | exact ⟨Nat.le_trans (by decide) hF, Nat.le_trans (by decide) hLo⟩) (by omega) ?_
  refine g_istore C [(5, _), (4, _), (3, _), (2, _), (1, _), (0, _)] dL_law_207 (by decide) rfl ?_
  refine g_aload_n C dL_law_209 rfl rfl ?_
  refine g_aload_n C dL_law_210 rfl rfl ?_
  refine g_iload C dL_law_211 rfl ?_
  refine g_iconst (v := 1) C dL_law_213 (by decide) ?_
  refine g_iadd C dL_law_214 ?_
  refine g_sld C X (3 * j + 1) dL_law_215 (nI_1 _) (by omega) hL e1 ?_
  refine g_callVEi (Cl := RX1) (T := TX1) (N := 16) (ci := 1) (q0 := 12) (na := 1) C dL_law_216 (m_addWord hl (eG E) _ _ _ nw nl lm x hIM h1 h2 hw) gL_law_X1_addWord rfl rfl (by decide +kernel) rfl rfl rfl (Nat.le_of_ble_eq_true rfl) (by first | exact ⟨Nat.le_trans (by decide) hF, Nat.le_trans (by decide) hLo⟩) (by omega) ?_
  refine g_istore C [(6, _), (5, _), (4, _), (3, _), (2, _), (1, _), (0, _)] dL_law_219 (by decide) rfl ?_
  refine g_aload_n C dL_law_221 rfl rfl ?_
  refine g_callVEi (Cl := RX1) (T := TX1) (N := 16) (ci := 1) (q0 := 12) (na := 0) C dL_law_222 (m_thrown hl (eG E) _ _ _) gL_law_X1_thrown rfl rfl (by decide +kernel) rfl rfl rfl (Nat.le_of_ble_eq_true rfl) (by first | exact ⟨Nat.le_trans (by decide) hF, Nat.le_trans (by decide) hLo⟩) (by omega) ?_
  refine g_topi (show _ = (0 : Int32) from rfl) ?_
  refine g_iload C dL_law_225 rfl ?_
  refine g_icmp_eq (tgt := 232) C dL_law_227 (by decide) (fun c_227 => ?_) (fun c_227 => absurd rfl c_227)
  refine g_iload C dL_law_232 rfl ?_
  refine g_if_ne (tgt := 249) C dL_law_234 (by decide) (fun c_234 => absurd rfl c_234) (fun c_234 => ?_)
  refine g_aload_n C dL_law_237 rfl rfl ?_
  refine g_iconst (v := 0) C dL_law_238 (by decide) ?_
  refine g_lald C dL_law_239 ?_
  refine g_iload C dL_law_240 rfl ?_
  refine g_i2l C dL_law_242 ?_
  refine g_lcmpE C (congrArg Int32.toInt64 (show nI nw = nI nw from rfl)) dL_law_243 ?_
  refine g_if_eq (tgt := 249) C dL_law_244 (by decide) (fun c_244 => ?_) (fun c_244 => absurd rfl c_244)
  refine g_goto (tgt := 1650) C dL_law_249 (by decide) ?_
  refine g_wide (k + 1) (n + 10) (by omega) (by omega) ?_
  refine g_lv [2, 3, 4, 5, 6] [(4, .int (nI (3 * j))), (3, .ref ((eG E).2.1 102)), (2, .ref ((eG E).2.1 101)), (1, .ref ((eG E).2.1 100)), (0, .ref b)] rfl ?_
  exact kk _ _ _ _ _ _ (RR_add R hw hq1 hq2 hq3)
set_option maxHeartbeats 4000000 in
set_option maxRecDepth 100000 in
theorem lc_addWordX {E : gE} {k n b L j : Nat} {xs : Nat → Int32} {σ : gS} {τ : gT} {o : gO} {nw nl lm : Nat} {x : Int32} (A : gW E k n b L j xs) (R : RR σ τ nw nl lm) (hx : x < 1 ∨ ¬ x ≤ 30) (e1 : xs (3 * j + 1) = x) (kk : gK0 E k n b j) : G E k n 196 (LV E b j) [] σ τ o := by
  obtain ⟨C, X, hN, hj, hL, hF, hLo, hk, hn⟩ := A
  have hl : (eL E).stackTraces = false := C.2.2.2.2.2.2.2.2.2
  have hIM : IM σ τ nw nl lm := RR_IM R
  have hnw := Iv_nw R.1
  have hnl := Iv_nl R.1
  have h3 : σ 3 = nI nw := Iv_h3 R.1
  have h9 : σ 9 = nI nl := Iv_h9 R.1
  obtain ⟨I, hb35, s1, s2, s3, s4, s5, s6, s7, t1, t2, t3, t4, t5, hz9⟩ := id R
  show G E k n 196 [(4, .int (nI (3 * j))), (3, .ref ((eG E).2.1 102)), (2, .ref ((eG E).2.1 101)), (1, .ref ((eG E).2.1 100)), (0, .ref b)] [] σ τ o
  refine g_aload_n C dL_law_196 rfl rfl ?_
  refine g_aload_n C dL_law_197 rfl rfl ?_
  refine g_iload C dL_law_198 rfl ?_
  refine g_iconst (v := 1) C dL_law_200 (by decide) ?_
  refine g_iadd C dL_law_201 ?_
  refine g_sld C X (3 * j + 1) dL_law_202 (nI_1 _) (by omega) hL e1 ?_
  refine g_aload_n C dL_law_203 rfl rfl ?_
  refine g_callLE (na := 3) C hN dL_law_204 (h_addWordX hl (eG E) σ τ o x hx) gL_law_L_addWord rfl rfl (by decide +kernel) rfl (Nat.le_of_ble_eq_true rfl) (by first | exact ⟨Nat.le_trans (by decide) hF, Nat.le_trans (by decide) hLo⟩) (by omega) ?_
  refine g_istore C [(5, _), (4, _), (3, _), (2, _), (1, _), (0, _)] dL_law_207 (by decide) rfl ?_
  refine g_aload_n C dL_law_209 rfl rfl ?_
  refine g_aload_n C dL_law_210 rfl rfl ?_
  refine g_iload C dL_law_211 rfl ?_
  refine g_iconst (v := 1) C dL_law_213 (by decide) ?_
  refine g_iadd C dL_law_214 ?_
  refine g_sld C X (3 * j + 1) dL_law_215 (nI_1 _) (by omega) hL e1 ?_
  refine g_callVEi (Cl := RX1) (T := TX1) (N := 16) (ci := 1) (q0 := 12) (na := 1) C dL_law_216 (m_addWordX hl (eG E) _ _ _ x hx) gL_law_X1_addWord rfl rfl (by decide +kernel) rfl rfl rfl (Nat.le_of_ble_eq_true rfl) (by first | exact ⟨Nat.le_trans (by decide) hF, Nat.le_trans (by decide) hLo⟩) (by omega) ?_
  refine g_istore C [(6, _), (5, _), (4, _), (3, _), (2, _), (1, _), (0, _)] dL_law_219 (by decide) rfl ?_
  refine g_aload_n C dL_law_221 rfl rfl ?_
  refine g_callVEi (Cl := RX1) (T := TX1) (N := 16) (ci := 1) (q0 := 12) (na := 0) C dL_law_222 (m_thrown hl (eG E) _ _ _) gL_law_X1_thrown rfl rfl (by decide +kernel) rfl rfl rfl (Nat.le_of_ble_eq_true rfl) (by first | exact ⟨Nat.le_trans (by decide) hF, Nat.le_trans (by decide) hLo⟩) (by omega) ?_
  refine g_topi (show _ = (1 : Int32) from rfl) ?_
  refine g_iload C dL_law_225 rfl ?_
  refine g_icmp_eq (tgt := 232) C dL_law_227 (by decide) (fun c_227 => ?_) (fun c_227 => absurd rfl c_227)
  refine g_iload C dL_law_232 rfl ?_
  refine g_if_ne (tgt := 249) C dL_law_234 (by decide) (fun c_234 => ?_) (fun c_234 => absurd c_234 (by decide))
  refine g_goto (tgt := 1650) C dL_law_249 (by decide) ?_
  refine g_wide (k + 1) (n + 10) (by omega) (by omega) ?_
  refine g_lv [2, 3, 4, 5, 6] [(4, .int (nI (3 * j))), (3, .ref ((eG E).2.1 102)), (2, .ref ((eG E).2.1 101)), (1, .ref ((eG E).2.1 100)), (0, .ref b)] rfl ?_
  exact kk _ _ _ _ _ _ (RR_20 (RR_20 R 0) 1)
set_option maxHeartbeats 4000000 in
set_option maxRecDepth 100000 in
theorem lc_addWordY {E : gE} {k n b L j : Nat} {xs : Nat → Int32} {σ : gS} {τ : gT} {o : gO} {nw nl lm : Nat} {x : Int32} (A : gW E k n b L j xs) (R : RR σ τ nw nl lm) (h1 : ¬ x < 1) (h2 : x ≤ 30) (hw : ¬ nw < 12) (e1 : xs (3 * j + 1) = x) (kk : gK0 E k n b j) : G E k n 196 (LV E b j) [] σ τ o := by
  obtain ⟨C, X, hN, hj, hL, hF, hLo, hk, hn⟩ := A
  have hl : (eL E).stackTraces = false := C.2.2.2.2.2.2.2.2.2
  have hIM : IM σ τ nw nl lm := RR_IM R
  have hnw := Iv_nw R.1
  have hnl := Iv_nl R.1
  have h3 : σ 3 = nI nw := Iv_h3 R.1
  have h9 : σ 9 = nI nl := Iv_h9 R.1
  obtain ⟨I, hb35, s1, s2, s3, s4, s5, s6, s7, t1, t2, t3, t4, t5, hz9⟩ := id R
  show G E k n 196 [(4, .int (nI (3 * j))), (3, .ref ((eG E).2.1 102)), (2, .ref ((eG E).2.1 101)), (1, .ref ((eG E).2.1 100)), (0, .ref b)] [] σ τ o
  refine g_aload_n C dL_law_196 rfl rfl ?_
  refine g_aload_n C dL_law_197 rfl rfl ?_
  refine g_iload C dL_law_198 rfl ?_
  refine g_iconst (v := 1) C dL_law_200 (by decide) ?_
  refine g_iadd C dL_law_201 ?_
  refine g_sld C X (3 * j + 1) dL_law_202 (nI_1 _) (by omega) hL e1 ?_
  refine g_aload_n C dL_law_203 rfl rfl ?_
  refine g_callLE (na := 3) C hN dL_law_204 (h_addWordY hl (eG E) σ τ o x h1 h2 (by rw [h3]; exact nI_nlt (b := 12) (by omega) (by omega))) gL_law_L_addWord rfl rfl (by decide +kernel) rfl (Nat.le_of_ble_eq_true rfl) (by first | exact ⟨Nat.le_trans (by decide) hF, Nat.le_trans (by decide) hLo⟩) (by omega) ?_
  refine g_istore C [(5, _), (4, _), (3, _), (2, _), (1, _), (0, _)] dL_law_207 (by decide) rfl ?_
  refine g_aload_n C dL_law_209 rfl rfl ?_
  refine g_aload_n C dL_law_210 rfl rfl ?_
  refine g_iload C dL_law_211 rfl ?_
  refine g_iconst (v := 1) C dL_law_213 (by decide) ?_
  refine g_iadd C dL_law_214 ?_
  refine g_sld C X (3 * j + 1) dL_law_215 (nI_1 _) (by omega) hL e1 ?_
  refine g_callVEi (Cl := RX1) (T := TX1) (N := 16) (ci := 1) (q0 := 12) (na := 1) C dL_law_216 (m_addWordY hl (eG E) _ _ _ x h1 h2 (by rw [s1, h3, show nw = 12 by omega]; rfl)) gL_law_X1_addWord rfl rfl (by decide +kernel) rfl rfl rfl (Nat.le_of_ble_eq_true rfl) (by first | exact ⟨Nat.le_trans (by decide) hF, Nat.le_trans (by decide) hLo⟩) (by omega) ?_
  refine g_istore C [(6, _), (5, _), (4, _), (3, _), (2, _), (1, _), (0, _)] dL_law_219 (by decide) rfl ?_
  refine g_aload_n C dL_law_221 rfl rfl ?_
  refine g_callVEi (Cl := RX1) (T := TX1) (N := 16) (ci := 1) (q0 := 12) (na := 0) C dL_law_222 (m_thrown hl (eG E) _ _ _) gL_law_X1_thrown rfl rfl (by decide +kernel) rfl rfl rfl (Nat.le_of_ble_eq_true rfl) (by first | exact ⟨Nat.le_trans (by decide) hF, Nat.le_trans (by decide) hLo⟩) (by omega) ?_
  refine g_topi (show _ = (2 : Int32) from rfl) ?_
  refine g_iload C dL_law_225 rfl ?_
  refine g_icmp_eq (tgt := 232) C dL_law_227 (by decide) (fun c_227 => ?_) (fun c_227 => absurd rfl c_227)
  refine g_iload C dL_law_232 rfl ?_
  refine g_if_ne (tgt := 249) C dL_law_234 (by decide) (fun c_234 => ?_) (fun c_234 => absurd c_234 (by decide))
  refine g_goto (tgt := 1650) C dL_law_249 (by decide) ?_
  refine g_wide (k + 1) (n + 10) (by omega) (by omega) ?_
  refine g_lv [2, 3, 4, 5, 6] [(4, .int (nI (3 * j))), (3, .ref ((eG E).2.1 102)), (2, .ref ((eG E).2.1 101)), (1, .ref ((eG E).2.1 100)), (0, .ref b)] rfl ?_
  exact kk _ _ _ _ _ _ (RR_20 (RR_20 R 0) 2)
set_option maxHeartbeats 4000000 in
set_option maxRecDepth 100000 in
theorem lc_turnStandIn {E : gE} {k n b L j : Nat} {xs : Nat → Int32} {σ : gS} {τ : gT} {o : gO} {nw nl lm : Nat} {a c : Nat} (A : gW E k n b L j xs) (R : RR σ τ nw nl lm) (ha : a < nw) (hc9 : c < nw) (hne : a ≠ c) (e1 : xs (3 * j + 1) = nI a) (e2 : xs (3 * j + 2) = nI c) (kk : gK0 E k n b j) : G E k n 252 (LV E b j) [] σ τ o := by
  obtain ⟨C, X, hN, hj, hL, hF, hLo, hk, hn⟩ := A
  have hl : (eL E).stackTraces = false := C.2.2.2.2.2.2.2.2.2
  have hIM : IM σ τ nw nl lm := RR_IM R
  have hnw := Iv_nw R.1
  have hnl := Iv_nl R.1
  have h3 : σ 3 = nI nw := Iv_h3 R.1
  have h9 : σ 9 = nI nl := Iv_h9 R.1
  obtain ⟨I, hb35, s1, s2, s3, s4, s5, s6, s7, t1, t2, t3, t4, t5, hz9⟩ := id R
  show G E k n 252 [(4, .int (nI (3 * j))), (3, .ref ((eG E).2.1 102)), (2, .ref ((eG E).2.1 101)), (1, .ref ((eG E).2.1 100)), (0, .ref b)] [] σ τ o
  refine g_aload_n C dL_law_252 rfl rfl ?_
  refine g_aload_n C dL_law_253 rfl rfl ?_
  refine g_iload C dL_law_254 rfl ?_
  refine g_iconst (v := 1) C dL_law_256 (by decide) ?_
  refine g_iadd C dL_law_257 ?_
  refine g_sld C X (3 * j + 1) dL_law_258 (nI_1 _) (by omega) hL e1 ?_
  refine g_aload_n C dL_law_259 rfl rfl ?_
  refine g_iload C dL_law_260 rfl ?_
  refine g_iconst (v := 2) C dL_law_262 (by decide) ?_
  refine g_iadd C dL_law_263 ?_
  refine g_sld C X (3 * j + 2) dL_law_264 (nI_add _ 2) (by omega) hL e2 ?_
  refine g_aload_n C dL_law_265 rfl rfl ?_
  refine g_callLE (na := 4) C hN dL_law_266 (h_turnStandIn hl (eG E) σ τ o nw nl lm a c I ha hc9 hne) gL_law_L_turnStandIn rfl rfl (by decide +kernel) rfl (Nat.le_of_ble_eq_true rfl) (by first | exact ⟨Nat.le_trans (by decide) hF, Nat.le_trans (by decide) hLo⟩) (by omega) ?_
  refine g_istore C [(5, _), (4, _), (3, _), (2, _), (1, _), (0, _)] dL_law_269 (by decide) rfl ?_
  refine g_aload_n C dL_law_271 rfl rfl ?_
  refine g_aload_n C dL_law_272 rfl rfl ?_
  refine g_iload C dL_law_273 rfl ?_
  refine g_iconst (v := 1) C dL_law_275 (by decide) ?_
  refine g_iadd C dL_law_276 ?_
  refine g_sld C X (3 * j + 1) dL_law_277 (nI_1 _) (by omega) hL e1 ?_
  refine g_aload_n C dL_law_278 rfl rfl ?_
  refine g_iload C dL_law_279 rfl ?_
  refine g_iconst (v := 2) C dL_law_281 (by decide) ?_
  refine g_iadd C dL_law_282 ?_
  refine g_sld C X (3 * j + 2) dL_law_283 (nI_add _ 2) (by omega) hL e2 ?_
  refine g_callVEi (Cl := RX1) (T := TX1) (N := 16) (ci := 1) (q0 := 12) (na := 2) C dL_law_284 (m_turnStandIn hl (eG E) _ _ _ nw nl lm a c hIM ha hc9 hne) gL_law_X1_turnStandIn rfl rfl (by decide +kernel) rfl rfl rfl (Nat.le_of_ble_eq_true rfl) (by first | exact ⟨Nat.le_trans (by decide) hF, Nat.le_trans (by decide) hLo⟩) (by omega) ?_
  refine g_istore C [(6, _), (5, _), (4, _), (3, _), (2, _), (1, _), (0, _)] dL_law_287 (by decide) rfl ?_
  refine g_aload_n C dL_law_289 rfl rfl ?_
  refine g_callVEi (Cl := RX1) (T := TX1) (N := 16) (ci := 1) (q0 := 12) (na := 0) C dL_law_290 (m_thrown hl (eG E) _ _ _) gL_law_X1_thrown rfl rfl (by decide +kernel) rfl rfl rfl (Nat.le_of_ble_eq_true rfl) (by first | exact ⟨Nat.le_trans (by decide) hF, Nat.le_trans (by decide) hLo⟩) (by omega) ?_
  refine g_topi (show _ = (0 : Int32) from rfl) ?_
  refine g_iload C dL_law_293 rfl ?_
  refine g_icmp_eq (tgt := 300) C dL_law_295 (by decide) (fun c_295 => ?_) (fun c_295 => absurd rfl c_295)
  refine g_iload C dL_law_300 rfl ?_
  refine g_if_ne (tgt := 324) C dL_law_302 (by decide) (fun c_302 => absurd rfl c_302) (fun c_302 => ?_)
  refine g_aload_n C dL_law_305 rfl rfl ?_
  refine g_iconst (v := 0) C dL_law_306 (by decide) ?_
  refine g_lald C dL_law_307 ?_
  refine g_iload C dL_law_308 rfl ?_
  have heq : hb (τ 1 a ^^^ ((1 : Int32) <<< (nI c &&& 31))) (nI c) = hb (τ 28 a ^^^ ((1 : Int32) <<< (nI c &&& 31))) (nI c) := by rw [t2]
  refine g_if_eq (tgt := 317) C dL_law_310 (by decide) (fun c_310 => ?_) (fun c_310 => ?_)
  · refine g_lconst (v := 0) C dL_law_317 (by decide) ?_
    refine g_lcmpE C ((congrArg lb heq).trans (if_pos c_310)) dL_law_318 ?_
    refine g_if_eq (tgt := 324) C dL_law_319 (by decide) (fun c_319 => ?_) (fun c_319 => absurd rfl c_319)
    refine g_goto (tgt := 1650) C dL_law_324 (by decide) ?_
    refine g_wide (k + 1) (n + 10) (by omega) (by omega) ?_
    refine g_lv [2, 3, 4, 5, 6] [(4, .int (nI (3 * j))), (3, .ref ((eG E).2.1 102)), (2, .ref ((eG E).2.1 101)), (1, .ref ((eG E).2.1 100)), (0, .ref b)] rfl ?_
    exact kk _ _ _ _ _ _ (RR_tsi R ha hc9 hne)
  · refine g_lconst (v := 1) C dL_law_313 (by decide) ?_
    refine g_goto (tgt := 318) C dL_law_314 (by decide) ?_
    refine g_lcmpE C ((congrArg lb heq).trans (if_neg c_310)) dL_law_318 ?_
    refine g_if_eq (tgt := 324) C dL_law_319 (by decide) (fun c_319 => ?_) (fun c_319 => absurd rfl c_319)
    refine g_goto (tgt := 1650) C dL_law_324 (by decide) ?_
    refine g_wide (k + 1) (n + 10) (by omega) (by omega) ?_
    refine g_lv [2, 3, 4, 5, 6] [(4, .int (nI (3 * j))), (3, .ref ((eG E).2.1 102)), (2, .ref ((eG E).2.1 101)), (1, .ref ((eG E).2.1 100)), (0, .ref b)] rfl ?_
    exact kk _ _ _ _ _ _ (RR_tsi R ha hc9 hne)
set_option maxHeartbeats 4000000 in
set_option maxRecDepth 100000 in
theorem lc_turnStandInX {E : gE} {k n b L j : Nat} {xs : Nat → Int32} {σ : gS} {τ : gT} {o : gO} {nw nl lm : Nat} {w v : Int32} (A : gW E k n b L j xs) (R : RR σ τ nw nl lm) (hw : w < 0 ∨ ¬ w < σ 3) (e1 : xs (3 * j + 1) = w) (e2 : xs (3 * j + 2) = v) (kk : gK0 E k n b j) : G E k n 252 (LV E b j) [] σ τ o := by
  obtain ⟨C, X, hN, hj, hL, hF, hLo, hk, hn⟩ := A
  have hl : (eL E).stackTraces = false := C.2.2.2.2.2.2.2.2.2
  have hIM : IM σ τ nw nl lm := RR_IM R
  have hnw := Iv_nw R.1
  have hnl := Iv_nl R.1
  have h3 : σ 3 = nI nw := Iv_h3 R.1
  have h9 : σ 9 = nI nl := Iv_h9 R.1
  obtain ⟨I, hb35, s1, s2, s3, s4, s5, s6, s7, t1, t2, t3, t4, t5, hz9⟩ := id R
  show G E k n 252 [(4, .int (nI (3 * j))), (3, .ref ((eG E).2.1 102)), (2, .ref ((eG E).2.1 101)), (1, .ref ((eG E).2.1 100)), (0, .ref b)] [] σ τ o
  refine g_aload_n C dL_law_252 rfl rfl ?_
  refine g_aload_n C dL_law_253 rfl rfl ?_
  refine g_iload C dL_law_254 rfl ?_
  refine g_iconst (v := 1) C dL_law_256 (by decide) ?_
  refine g_iadd C dL_law_257 ?_
  refine g_sld C X (3 * j + 1) dL_law_258 (nI_1 _) (by omega) hL e1 ?_
  refine g_aload_n C dL_law_259 rfl rfl ?_
  refine g_iload C dL_law_260 rfl ?_
  refine g_iconst (v := 2) C dL_law_262 (by decide) ?_
  refine g_iadd C dL_law_263 ?_
  refine g_sld C X (3 * j + 2) dL_law_264 (nI_add _ 2) (by omega) hL e2 ?_
  refine g_aload_n C dL_law_265 rfl rfl ?_
  refine g_callLE (na := 4) C hN dL_law_266 (h_turnStandInX hl (eG E) σ τ o w v hw) gL_law_L_turnStandIn rfl rfl (by decide +kernel) rfl (Nat.le_of_ble_eq_true rfl) (by first | exact ⟨Nat.le_trans (by decide) hF, Nat.le_trans (by decide) hLo⟩) (by omega) ?_
  refine g_istore C [(5, _), (4, _), (3, _), (2, _), (1, _), (0, _)] dL_law_269 (by decide) rfl ?_
  refine g_aload_n C dL_law_271 rfl rfl ?_
  refine g_aload_n C dL_law_272 rfl rfl ?_
  refine g_iload C dL_law_273 rfl ?_
  refine g_iconst (v := 1) C dL_law_275 (by decide) ?_
  refine g_iadd C dL_law_276 ?_
  refine g_sld C X (3 * j + 1) dL_law_277 (nI_1 _) (by omega) hL e1 ?_
  refine g_aload_n C dL_law_278 rfl rfl ?_
  refine g_iload C dL_law_279 rfl ?_
  refine g_iconst (v := 2) C dL_law_281 (by decide) ?_
  refine g_iadd C dL_law_282 ?_
  refine g_sld C X (3 * j + 2) dL_law_283 (nI_add _ 2) (by omega) hL e2 ?_
  refine g_callVEi (Cl := RX1) (T := TX1) (N := 16) (ci := 1) (q0 := 12) (na := 2) C dL_law_284 (m_turnStandInX hl (eG E) _ _ _ nw nl lm w v (RR_IM R) (Or.inl (by rw [s1]; exact hw))) gL_law_X1_turnStandIn rfl rfl (by decide +kernel) rfl rfl rfl (Nat.le_of_ble_eq_true rfl) (by first | exact ⟨Nat.le_trans (by decide) hF, Nat.le_trans (by decide) hLo⟩) (by omega) ?_
  refine g_istore C [(6, _), (5, _), (4, _), (3, _), (2, _), (1, _), (0, _)] dL_law_287 (by decide) rfl ?_
  refine g_aload_n C dL_law_289 rfl rfl ?_
  refine g_callVEi (Cl := RX1) (T := TX1) (N := 16) (ci := 1) (q0 := 12) (na := 0) C dL_law_290 (m_thrown hl (eG E) _ _ _) gL_law_X1_thrown rfl rfl (by decide +kernel) rfl rfl rfl (Nat.le_of_ble_eq_true rfl) (by first | exact ⟨Nat.le_trans (by decide) hF, Nat.le_trans (by decide) hLo⟩) (by omega) ?_
  refine g_topi (show _ = (1 : Int32) from rfl) ?_
  refine g_iload C dL_law_293 rfl ?_
  refine g_icmp_eq (tgt := 300) C dL_law_295 (by decide) (fun c_295 => ?_) (fun c_295 => absurd rfl c_295)
  refine g_iload C dL_law_300 rfl ?_
  refine g_if_ne (tgt := 324) C dL_law_302 (by decide) (fun c_302 => ?_) (fun c_302 => absurd c_302 (by decide))
  refine g_goto (tgt := 1650) C dL_law_324 (by decide) ?_
  refine g_wide (k + 1) (n + 10) (by omega) (by omega) ?_
  refine g_lv [2, 3, 4, 5, 6] [(4, .int (nI (3 * j))), (3, .ref ((eG E).2.1 102)), (2, .ref ((eG E).2.1 101)), (1, .ref ((eG E).2.1 100)), (0, .ref b)] rfl ?_
  exact kk _ _ _ _ _ _ (RR_20 R 1)
set_option maxHeartbeats 4000000 in
set_option maxRecDepth 100000 in
theorem lc_turnStandInY {E : gE} {k n b L j : Nat} {xs : Nat → Int32} {σ : gS} {τ : gT} {o : gO} {nw nl lm : Nat} {a : Nat} {v : Int32} (A : gW E k n b L j xs) (R : RR σ τ nw nl lm) (ha : a < nw) (hv : v < 0 ∨ ¬ v < σ 3) (e1 : xs (3 * j + 1) = nI a) (e2 : xs (3 * j + 2) = v) (kk : gK0 E k n b j) : G E k n 252 (LV E b j) [] σ τ o := by
  obtain ⟨C, X, hN, hj, hL, hF, hLo, hk, hn⟩ := A
  have hl : (eL E).stackTraces = false := C.2.2.2.2.2.2.2.2.2
  have hIM : IM σ τ nw nl lm := RR_IM R
  have hnw := Iv_nw R.1
  have hnl := Iv_nl R.1
  have h3 : σ 3 = nI nw := Iv_h3 R.1
  have h9 : σ 9 = nI nl := Iv_h9 R.1
  obtain ⟨I, hb35, s1, s2, s3, s4, s5, s6, s7, t1, t2, t3, t4, t5, hz9⟩ := id R
  show G E k n 252 [(4, .int (nI (3 * j))), (3, .ref ((eG E).2.1 102)), (2, .ref ((eG E).2.1 101)), (1, .ref ((eG E).2.1 100)), (0, .ref b)] [] σ τ o
  refine g_aload_n C dL_law_252 rfl rfl ?_
  refine g_aload_n C dL_law_253 rfl rfl ?_
  refine g_iload C dL_law_254 rfl ?_
  refine g_iconst (v := 1) C dL_law_256 (by decide) ?_
  refine g_iadd C dL_law_257 ?_
  refine g_sld C X (3 * j + 1) dL_law_258 (nI_1 _) (by omega) hL e1 ?_
  refine g_aload_n C dL_law_259 rfl rfl ?_
  refine g_iload C dL_law_260 rfl ?_
  refine g_iconst (v := 2) C dL_law_262 (by decide) ?_
  refine g_iadd C dL_law_263 ?_
  refine g_sld C X (3 * j + 2) dL_law_264 (nI_add _ 2) (by omega) hL e2 ?_
  refine g_aload_n C dL_law_265 rfl rfl ?_
  refine g_callLE (na := 4) C hN dL_law_266 (h_turnStandInY hl (eG E) σ τ o nw nl lm a v I ha hv) gL_law_L_turnStandIn rfl rfl (by decide +kernel) rfl (Nat.le_of_ble_eq_true rfl) (by first | exact ⟨Nat.le_trans (by decide) hF, Nat.le_trans (by decide) hLo⟩) (by omega) ?_
  refine g_istore C [(5, _), (4, _), (3, _), (2, _), (1, _), (0, _)] dL_law_269 (by decide) rfl ?_
  refine g_aload_n C dL_law_271 rfl rfl ?_
  refine g_aload_n C dL_law_272 rfl rfl ?_
  refine g_iload C dL_law_273 rfl ?_
  refine g_iconst (v := 1) C dL_law_275 (by decide) ?_
  refine g_iadd C dL_law_276 ?_
  refine g_sld C X (3 * j + 1) dL_law_277 (nI_1 _) (by omega) hL e1 ?_
  refine g_aload_n C dL_law_278 rfl rfl ?_
  refine g_iload C dL_law_279 rfl ?_
  refine g_iconst (v := 2) C dL_law_281 (by decide) ?_
  refine g_iadd C dL_law_282 ?_
  refine g_sld C X (3 * j + 2) dL_law_283 (nI_add _ 2) (by omega) hL e2 ?_
  refine g_callVEi (Cl := RX1) (T := TX1) (N := 16) (ci := 1) (q0 := 12) (na := 2) C dL_law_284 (m_turnStandInX hl (eG E) _ _ _ nw nl lm (nI a) v (RR_IM R) (Or.inr (by rw [s1]; exact hv))) gL_law_X1_turnStandIn rfl rfl (by decide +kernel) rfl rfl rfl (Nat.le_of_ble_eq_true rfl) (by first | exact ⟨Nat.le_trans (by decide) hF, Nat.le_trans (by decide) hLo⟩) (by omega) ?_
  refine g_istore C [(6, _), (5, _), (4, _), (3, _), (2, _), (1, _), (0, _)] dL_law_287 (by decide) rfl ?_
  refine g_aload_n C dL_law_289 rfl rfl ?_
  refine g_callVEi (Cl := RX1) (T := TX1) (N := 16) (ci := 1) (q0 := 12) (na := 0) C dL_law_290 (m_thrown hl (eG E) _ _ _) gL_law_X1_thrown rfl rfl (by decide +kernel) rfl rfl rfl (Nat.le_of_ble_eq_true rfl) (by first | exact ⟨Nat.le_trans (by decide) hF, Nat.le_trans (by decide) hLo⟩) (by omega) ?_
  refine g_topi (show _ = (1 : Int32) from rfl) ?_
  refine g_iload C dL_law_293 rfl ?_
  refine g_icmp_eq (tgt := 300) C dL_law_295 (by decide) (fun c_295 => ?_) (fun c_295 => absurd rfl c_295)
  refine g_iload C dL_law_300 rfl ?_
  refine g_if_ne (tgt := 324) C dL_law_302 (by decide) (fun c_302 => ?_) (fun c_302 => absurd c_302 (by decide))
  refine g_goto (tgt := 1650) C dL_law_324 (by decide) ?_
  refine g_wide (k + 1) (n + 10) (by omega) (by omega) ?_
  refine g_lv [2, 3, 4, 5, 6] [(4, .int (nI (3 * j))), (3, .ref ((eG E).2.1 102)), (2, .ref ((eG E).2.1 101)), (1, .ref ((eG E).2.1 100)), (0, .ref b)] rfl ?_
  exact kk _ _ _ _ _ _ (RR_20 R 1)
set_option maxHeartbeats 4000000 in
set_option maxRecDepth 100000 in
theorem lc_turnJoin {E : gE} {k n b L j : Nat} {xs : Nat → Int32} {σ : gS} {τ : gT} {o : gO} {nw nl lm : Nat} {a c : Nat} (A : gW E k n b L j xs) (R : RR σ τ nw nl lm) (ha : a < nw) (hc9 : c < nw) (e1 : xs (3 * j + 1) = nI a) (e2 : xs (3 * j + 2) = nI c) (kk : gK0 E k n b j) : G E k n 327 (LV E b j) [] σ τ o := by
  obtain ⟨C, X, hN, hj, hL, hF, hLo, hk, hn⟩ := A
  have hl : (eL E).stackTraces = false := C.2.2.2.2.2.2.2.2.2
  have hIM : IM σ τ nw nl lm := RR_IM R
  have hnw := Iv_nw R.1
  have hnl := Iv_nl R.1
  have h3 : σ 3 = nI nw := Iv_h3 R.1
  have h9 : σ 9 = nI nl := Iv_h9 R.1
  obtain ⟨I, hb35, s1, s2, s3, s4, s5, s6, s7, t1, t2, t3, t4, t5, hz9⟩ := id R
  show G E k n 327 [(4, .int (nI (3 * j))), (3, .ref ((eG E).2.1 102)), (2, .ref ((eG E).2.1 101)), (1, .ref ((eG E).2.1 100)), (0, .ref b)] [] σ τ o
  refine g_aload_n C dL_law_327 rfl rfl ?_
  refine g_aload_n C dL_law_328 rfl rfl ?_
  refine g_iload C dL_law_329 rfl ?_
  refine g_iconst (v := 1) C dL_law_331 (by decide) ?_
  refine g_iadd C dL_law_332 ?_
  refine g_sld C X (3 * j + 1) dL_law_333 (nI_1 _) (by omega) hL e1 ?_
  refine g_aload_n C dL_law_334 rfl rfl ?_
  refine g_iload C dL_law_335 rfl ?_
  refine g_iconst (v := 2) C dL_law_337 (by decide) ?_
  refine g_iadd C dL_law_338 ?_
  refine g_sld C X (3 * j + 2) dL_law_339 (nI_add _ 2) (by omega) hL e2 ?_
  refine g_aload_n C dL_law_340 rfl rfl ?_
  refine g_callLE (na := 4) C hN dL_law_341 (h_turnJoin hl (eG E) σ τ o nw nl lm a c I ha hc9) gL_law_L_turnJoin rfl rfl (by decide +kernel) rfl (Nat.le_of_ble_eq_true rfl) (by first | exact ⟨Nat.le_trans (by decide) hF, Nat.le_trans (by decide) hLo⟩) (by omega) ?_
  refine g_istore C [(5, _), (4, _), (3, _), (2, _), (1, _), (0, _)] dL_law_344 (by decide) rfl ?_
  refine g_aload_n C dL_law_346 rfl rfl ?_
  refine g_aload_n C dL_law_347 rfl rfl ?_
  refine g_iload C dL_law_348 rfl ?_
  refine g_iconst (v := 1) C dL_law_350 (by decide) ?_
  refine g_iadd C dL_law_351 ?_
  refine g_sld C X (3 * j + 1) dL_law_352 (nI_1 _) (by omega) hL e1 ?_
  refine g_aload_n C dL_law_353 rfl rfl ?_
  refine g_iload C dL_law_354 rfl ?_
  refine g_iconst (v := 2) C dL_law_356 (by decide) ?_
  refine g_iadd C dL_law_357 ?_
  refine g_sld C X (3 * j + 2) dL_law_358 (nI_add _ 2) (by omega) hL e2 ?_
  refine g_callVEi (Cl := RX1) (T := TX1) (N := 16) (ci := 1) (q0 := 12) (na := 2) C dL_law_359 (m_turnJoin hl (eG E) _ _ _ nw nl lm a c hIM ha hc9) gL_law_X1_turnJoin rfl rfl (by decide +kernel) rfl rfl rfl (Nat.le_of_ble_eq_true rfl) (by first | exact ⟨Nat.le_trans (by decide) hF, Nat.le_trans (by decide) hLo⟩) (by omega) ?_
  refine g_istore C [(6, _), (5, _), (4, _), (3, _), (2, _), (1, _), (0, _)] dL_law_362 (by decide) rfl ?_
  refine g_aload_n C dL_law_364 rfl rfl ?_
  refine g_callVEi (Cl := RX1) (T := TX1) (N := 16) (ci := 1) (q0 := 12) (na := 0) C dL_law_365 (m_thrown hl (eG E) _ _ _) gL_law_X1_thrown rfl rfl (by decide +kernel) rfl rfl rfl (Nat.le_of_ble_eq_true rfl) (by first | exact ⟨Nat.le_trans (by decide) hF, Nat.le_trans (by decide) hLo⟩) (by omega) ?_
  refine g_topi (show _ = (0 : Int32) from rfl) ?_
  refine g_iload C dL_law_368 rfl ?_
  refine g_icmp_eq (tgt := 375) C dL_law_370 (by decide) (fun c_370 => ?_) (fun c_370 => absurd rfl c_370)
  refine g_iload C dL_law_375 rfl ?_
  refine g_if_ne (tgt := 399) C dL_law_377 (by decide) (fun c_377 => absurd rfl c_377) (fun c_377 => ?_)
  refine g_aload_n C dL_law_380 rfl rfl ?_
  refine g_iconst (v := 0) C dL_law_381 (by decide) ?_
  refine g_lald C dL_law_382 ?_
  refine g_iload C dL_law_383 rfl ?_
  have heq : hb (τ 2 a ^^^ ((1 : Int32) <<< (nI c &&& 31))) (nI c) = hb (τ 29 a ^^^ ((1 : Int32) <<< (nI c &&& 31))) (nI c) := by rw [t3]
  refine g_if_eq (tgt := 392) C dL_law_385 (by decide) (fun c_385 => ?_) (fun c_385 => ?_)
  · refine g_lconst (v := 0) C dL_law_392 (by decide) ?_
    refine g_lcmpE C ((congrArg lb heq).trans (if_pos c_385)) dL_law_393 ?_
    refine g_if_eq (tgt := 399) C dL_law_394 (by decide) (fun c_394 => ?_) (fun c_394 => absurd rfl c_394)
    refine g_goto (tgt := 1650) C dL_law_399 (by decide) ?_
    refine g_wide (k + 1) (n + 10) (by omega) (by omega) ?_
    refine g_lv [2, 3, 4, 5, 6] [(4, .int (nI (3 * j))), (3, .ref ((eG E).2.1 102)), (2, .ref ((eG E).2.1 101)), (1, .ref ((eG E).2.1 100)), (0, .ref b)] rfl ?_
    exact kk _ _ _ _ _ _ (RR_tj R ha _)
  · refine g_lconst (v := 1) C dL_law_388 (by decide) ?_
    refine g_goto (tgt := 393) C dL_law_389 (by decide) ?_
    refine g_lcmpE C ((congrArg lb heq).trans (if_neg c_385)) dL_law_393 ?_
    refine g_if_eq (tgt := 399) C dL_law_394 (by decide) (fun c_394 => ?_) (fun c_394 => absurd rfl c_394)
    refine g_goto (tgt := 1650) C dL_law_399 (by decide) ?_
    refine g_wide (k + 1) (n + 10) (by omega) (by omega) ?_
    refine g_lv [2, 3, 4, 5, 6] [(4, .int (nI (3 * j))), (3, .ref ((eG E).2.1 102)), (2, .ref ((eG E).2.1 101)), (1, .ref ((eG E).2.1 100)), (0, .ref b)] rfl ?_
    exact kk _ _ _ _ _ _ (RR_tj R ha _)
set_option maxHeartbeats 4000000 in
set_option maxRecDepth 100000 in
theorem lc_turnJoinX {E : gE} {k n b L j : Nat} {xs : Nat → Int32} {σ : gS} {τ : gT} {o : gO} {nw nl lm : Nat} {w v : Int32} (A : gW E k n b L j xs) (R : RR σ τ nw nl lm) (hw : w < 0 ∨ ¬ w < σ 3) (e1 : xs (3 * j + 1) = w) (e2 : xs (3 * j + 2) = v) (kk : gK0 E k n b j) : G E k n 327 (LV E b j) [] σ τ o := by
  obtain ⟨C, X, hN, hj, hL, hF, hLo, hk, hn⟩ := A
  have hl : (eL E).stackTraces = false := C.2.2.2.2.2.2.2.2.2
  have hIM : IM σ τ nw nl lm := RR_IM R
  have hnw := Iv_nw R.1
  have hnl := Iv_nl R.1
  have h3 : σ 3 = nI nw := Iv_h3 R.1
  have h9 : σ 9 = nI nl := Iv_h9 R.1
  obtain ⟨I, hb35, s1, s2, s3, s4, s5, s6, s7, t1, t2, t3, t4, t5, hz9⟩ := id R
  show G E k n 327 [(4, .int (nI (3 * j))), (3, .ref ((eG E).2.1 102)), (2, .ref ((eG E).2.1 101)), (1, .ref ((eG E).2.1 100)), (0, .ref b)] [] σ τ o
  refine g_aload_n C dL_law_327 rfl rfl ?_
  refine g_aload_n C dL_law_328 rfl rfl ?_
  refine g_iload C dL_law_329 rfl ?_
  refine g_iconst (v := 1) C dL_law_331 (by decide) ?_
  refine g_iadd C dL_law_332 ?_
  refine g_sld C X (3 * j + 1) dL_law_333 (nI_1 _) (by omega) hL e1 ?_
  refine g_aload_n C dL_law_334 rfl rfl ?_
  refine g_iload C dL_law_335 rfl ?_
  refine g_iconst (v := 2) C dL_law_337 (by decide) ?_
  refine g_iadd C dL_law_338 ?_
  refine g_sld C X (3 * j + 2) dL_law_339 (nI_add _ 2) (by omega) hL e2 ?_
  refine g_aload_n C dL_law_340 rfl rfl ?_
  refine g_callLE (na := 4) C hN dL_law_341 (h_turnJoinX hl (eG E) σ τ o w v hw) gL_law_L_turnJoin rfl rfl (by decide +kernel) rfl (Nat.le_of_ble_eq_true rfl) (by first | exact ⟨Nat.le_trans (by decide) hF, Nat.le_trans (by decide) hLo⟩) (by omega) ?_
  refine g_istore C [(5, _), (4, _), (3, _), (2, _), (1, _), (0, _)] dL_law_344 (by decide) rfl ?_
  refine g_aload_n C dL_law_346 rfl rfl ?_
  refine g_aload_n C dL_law_347 rfl rfl ?_
  refine g_iload C dL_law_348 rfl ?_
  refine g_iconst (v := 1) C dL_law_350 (by decide) ?_
  refine g_iadd C dL_law_351 ?_
  refine g_sld C X (3 * j + 1) dL_law_352 (nI_1 _) (by omega) hL e1 ?_
  refine g_aload_n C dL_law_353 rfl rfl ?_
  refine g_iload C dL_law_354 rfl ?_
  refine g_iconst (v := 2) C dL_law_356 (by decide) ?_
  refine g_iadd C dL_law_357 ?_
  refine g_sld C X (3 * j + 2) dL_law_358 (nI_add _ 2) (by omega) hL e2 ?_
  refine g_callVEi (Cl := RX1) (T := TX1) (N := 16) (ci := 1) (q0 := 12) (na := 2) C dL_law_359 (m_turnJoinX hl (eG E) _ _ _ nw nl lm w v (RR_IM R) (Or.inl (by rw [s1]; exact hw))) gL_law_X1_turnJoin rfl rfl (by decide +kernel) rfl rfl rfl (Nat.le_of_ble_eq_true rfl) (by first | exact ⟨Nat.le_trans (by decide) hF, Nat.le_trans (by decide) hLo⟩) (by omega) ?_
  refine g_istore C [(6, _), (5, _), (4, _), (3, _), (2, _), (1, _), (0, _)] dL_law_362 (by decide) rfl ?_
  refine g_aload_n C dL_law_364 rfl rfl ?_
  refine g_callVEi (Cl := RX1) (T := TX1) (N := 16) (ci := 1) (q0 := 12) (na := 0) C dL_law_365 (m_thrown hl (eG E) _ _ _) gL_law_X1_thrown rfl rfl (by decide +kernel) rfl rfl rfl (Nat.le_of_ble_eq_true rfl) (by first | exact ⟨Nat.le_trans (by decide) hF, Nat.le_trans (by decide) hLo⟩) (by omega) ?_
  refine g_topi (show _ = (1 : Int32) from rfl) ?_
  refine g_iload C dL_law_368 rfl ?_
  refine g_icmp_eq (tgt := 375) C dL_law_370 (by decide) (fun c_370 => ?_) (fun c_370 => absurd rfl c_370)
  refine g_iload C dL_law_375 rfl ?_
  refine g_if_ne (tgt := 399) C dL_law_377 (by decide) (fun c_377 => ?_) (fun c_377 => absurd c_377 (by decide))
  refine g_goto (tgt := 1650) C dL_law_399 (by decide) ?_
  refine g_wide (k + 1) (n + 10) (by omega) (by omega) ?_
  refine g_lv [2, 3, 4, 5, 6] [(4, .int (nI (3 * j))), (3, .ref ((eG E).2.1 102)), (2, .ref ((eG E).2.1 101)), (1, .ref ((eG E).2.1 100)), (0, .ref b)] rfl ?_
  exact kk _ _ _ _ _ _ (RR_20 R 1)
set_option maxHeartbeats 4000000 in
set_option maxRecDepth 100000 in
theorem lc_turnJoinY {E : gE} {k n b L j : Nat} {xs : Nat → Int32} {σ : gS} {τ : gT} {o : gO} {nw nl lm : Nat} {a : Nat} {v : Int32} (A : gW E k n b L j xs) (R : RR σ τ nw nl lm) (ha : a < nw) (hv : v < 0 ∨ ¬ v < σ 3) (e1 : xs (3 * j + 1) = nI a) (e2 : xs (3 * j + 2) = v) (kk : gK0 E k n b j) : G E k n 327 (LV E b j) [] σ τ o := by
  obtain ⟨C, X, hN, hj, hL, hF, hLo, hk, hn⟩ := A
  have hl : (eL E).stackTraces = false := C.2.2.2.2.2.2.2.2.2
  have hIM : IM σ τ nw nl lm := RR_IM R
  have hnw := Iv_nw R.1
  have hnl := Iv_nl R.1
  have h3 : σ 3 = nI nw := Iv_h3 R.1
  have h9 : σ 9 = nI nl := Iv_h9 R.1
  obtain ⟨I, hb35, s1, s2, s3, s4, s5, s6, s7, t1, t2, t3, t4, t5, hz9⟩ := id R
  show G E k n 327 [(4, .int (nI (3 * j))), (3, .ref ((eG E).2.1 102)), (2, .ref ((eG E).2.1 101)), (1, .ref ((eG E).2.1 100)), (0, .ref b)] [] σ τ o
  refine g_aload_n C dL_law_327 rfl rfl ?_
  refine g_aload_n C dL_law_328 rfl rfl ?_
  refine g_iload C dL_law_329 rfl ?_
  refine g_iconst (v := 1) C dL_law_331 (by decide) ?_
  refine g_iadd C dL_law_332 ?_
  refine g_sld C X (3 * j + 1) dL_law_333 (nI_1 _) (by omega) hL e1 ?_
  refine g_aload_n C dL_law_334 rfl rfl ?_
  refine g_iload C dL_law_335 rfl ?_
  refine g_iconst (v := 2) C dL_law_337 (by decide) ?_
  refine g_iadd C dL_law_338 ?_
  refine g_sld C X (3 * j + 2) dL_law_339 (nI_add _ 2) (by omega) hL e2 ?_
  refine g_aload_n C dL_law_340 rfl rfl ?_
  refine g_callLE (na := 4) C hN dL_law_341 (h_turnJoinY hl (eG E) σ τ o nw nl lm a v I ha hv) gL_law_L_turnJoin rfl rfl (by decide +kernel) rfl (Nat.le_of_ble_eq_true rfl) (by first | exact ⟨Nat.le_trans (by decide) hF, Nat.le_trans (by decide) hLo⟩) (by omega) ?_
  refine g_istore C [(5, _), (4, _), (3, _), (2, _), (1, _), (0, _)] dL_law_344 (by decide) rfl ?_
  refine g_aload_n C dL_law_346 rfl rfl ?_
  refine g_aload_n C dL_law_347 rfl rfl ?_
  refine g_iload C dL_law_348 rfl ?_
  refine g_iconst (v := 1) C dL_law_350 (by decide) ?_
  refine g_iadd C dL_law_351 ?_
  refine g_sld C X (3 * j + 1) dL_law_352 (nI_1 _) (by omega) hL e1 ?_
  refine g_aload_n C dL_law_353 rfl rfl ?_
  refine g_iload C dL_law_354 rfl ?_
  refine g_iconst (v := 2) C dL_law_356 (by decide) ?_
  refine g_iadd C dL_law_357 ?_
  refine g_sld C X (3 * j + 2) dL_law_358 (nI_add _ 2) (by omega) hL e2 ?_
  refine g_callVEi (Cl := RX1) (T := TX1) (N := 16) (ci := 1) (q0 := 12) (na := 2) C dL_law_359 (m_turnJoinX hl (eG E) _ _ _ nw nl lm (nI a) v (RR_IM R) (Or.inr (by rw [s1]; exact hv))) gL_law_X1_turnJoin rfl rfl (by decide +kernel) rfl rfl rfl (Nat.le_of_ble_eq_true rfl) (by first | exact ⟨Nat.le_trans (by decide) hF, Nat.le_trans (by decide) hLo⟩) (by omega) ?_
  refine g_istore C [(6, _), (5, _), (4, _), (3, _), (2, _), (1, _), (0, _)] dL_law_362 (by decide) rfl ?_
  refine g_aload_n C dL_law_364 rfl rfl ?_
  refine g_callVEi (Cl := RX1) (T := TX1) (N := 16) (ci := 1) (q0 := 12) (na := 0) C dL_law_365 (m_thrown hl (eG E) _ _ _) gL_law_X1_thrown rfl rfl (by decide +kernel) rfl rfl rfl (Nat.le_of_ble_eq_true rfl) (by first | exact ⟨Nat.le_trans (by decide) hF, Nat.le_trans (by decide) hLo⟩) (by omega) ?_
  refine g_topi (show _ = (1 : Int32) from rfl) ?_
  refine g_iload C dL_law_368 rfl ?_
  refine g_icmp_eq (tgt := 375) C dL_law_370 (by decide) (fun c_370 => ?_) (fun c_370 => absurd rfl c_370)
  refine g_iload C dL_law_375 rfl ?_
  refine g_if_ne (tgt := 399) C dL_law_377 (by decide) (fun c_377 => ?_) (fun c_377 => absurd c_377 (by decide))
  refine g_goto (tgt := 1650) C dL_law_399 (by decide) ?_
  refine g_wide (k + 1) (n + 10) (by omega) (by omega) ?_
  refine g_lv [2, 3, 4, 5, 6] [(4, .int (nI (3 * j))), (3, .ref ((eG E).2.1 102)), (2, .ref ((eG E).2.1 101)), (1, .ref ((eG E).2.1 100)), (0, .ref b)] rfl ?_
  exact kk _ _ _ _ _ _ (RR_20 R 1)
set_option maxHeartbeats 4000000 in
set_option maxRecDepth 100000 in
theorem lc_turnStandInZ {E : gE} {k n b L j : Nat} {xs : Nat → Int32} {σ : gS} {τ : gT} {o : gO} {nw nl lm : Nat} {a : Nat} (A : gW E k n b L j xs) (R : RR σ τ nw nl lm) (ha : a < nw) (e1 : xs (3 * j + 1) = nI a) (e2 : xs (3 * j + 2) = nI a) (kk : gK0 E k n b j) : G E k n 252 (LV E b j) [] σ τ o := by
  obtain ⟨C, X, hN, hj, hL, hF, hLo, hk, hn⟩ := A
  have hl : (eL E).stackTraces = false := C.2.2.2.2.2.2.2.2.2
  have hIM : IM σ τ nw nl lm := RR_IM R
  have hnw := Iv_nw R.1
  have hnl := Iv_nl R.1
  have h3 : σ 3 = nI nw := Iv_h3 R.1
  have h9 : σ 9 = nI nl := Iv_h9 R.1
  obtain ⟨I, hb35, s1, s2, s3, s4, s5, s6, s7, t1, t2, t3, t4, t5, hz9⟩ := id R
  show G E k n 252 [(4, .int (nI (3 * j))), (3, .ref ((eG E).2.1 102)), (2, .ref ((eG E).2.1 101)), (1, .ref ((eG E).2.1 100)), (0, .ref b)] [] σ τ o
  refine g_aload_n C dL_law_252 rfl rfl ?_
  refine g_aload_n C dL_law_253 rfl rfl ?_
  refine g_iload C dL_law_254 rfl ?_
  refine g_iconst (v := 1) C dL_law_256 (by decide) ?_
  refine g_iadd C dL_law_257 ?_
  refine g_sld C X (3 * j + 1) dL_law_258 (nI_1 _) (by omega) hL e1 ?_
  refine g_aload_n C dL_law_259 rfl rfl ?_
  refine g_iload C dL_law_260 rfl ?_
  refine g_iconst (v := 2) C dL_law_262 (by decide) ?_
  refine g_iadd C dL_law_263 ?_
  refine g_sld C X (3 * j + 2) dL_law_264 (nI_add _ 2) (by omega) hL e2 ?_
  refine g_aload_n C dL_law_265 rfl rfl ?_
  refine g_callLE (na := 4) C hN dL_law_266 (h_turnStandInZ hl (eG E) σ τ o nw nl lm a I ha) gL_law_L_turnStandIn rfl rfl (by decide +kernel) rfl (Nat.le_of_ble_eq_true rfl) (by first | exact ⟨Nat.le_trans (by decide) hF, Nat.le_trans (by decide) hLo⟩) (by omega) ?_
  refine g_istore C [(5, _), (4, _), (3, _), (2, _), (1, _), (0, _)] dL_law_269 (by decide) rfl ?_
  refine g_aload_n C dL_law_271 rfl rfl ?_
  refine g_aload_n C dL_law_272 rfl rfl ?_
  refine g_iload C dL_law_273 rfl ?_
  refine g_iconst (v := 1) C dL_law_275 (by decide) ?_
  refine g_iadd C dL_law_276 ?_
  refine g_sld C X (3 * j + 1) dL_law_277 (nI_1 _) (by omega) hL e1 ?_
  refine g_aload_n C dL_law_278 rfl rfl ?_
  refine g_iload C dL_law_279 rfl ?_
  refine g_iconst (v := 2) C dL_law_281 (by decide) ?_
  refine g_iadd C dL_law_282 ?_
  refine g_sld C X (3 * j + 2) dL_law_283 (nI_add _ 2) (by omega) hL e2 ?_
  refine g_callVEi (Cl := RX1) (T := TX1) (N := 16) (ci := 1) (q0 := 12) (na := 2) C dL_law_284 (m_turnStandInZ hl (eG E) _ _ _ nw nl lm a (RR_IM R) ha) gL_law_X1_turnStandIn rfl rfl (by decide +kernel) rfl rfl rfl (Nat.le_of_ble_eq_true rfl) (by first | exact ⟨Nat.le_trans (by decide) hF, Nat.le_trans (by decide) hLo⟩) (by omega) ?_
  refine g_istore C [(6, _), (5, _), (4, _), (3, _), (2, _), (1, _), (0, _)] dL_law_287 (by decide) rfl ?_
  refine g_aload_n C dL_law_289 rfl rfl ?_
  refine g_callVEi (Cl := RX1) (T := TX1) (N := 16) (ci := 1) (q0 := 12) (na := 0) C dL_law_290 (m_thrown hl (eG E) _ _ _) gL_law_X1_thrown rfl rfl (by decide +kernel) rfl rfl rfl (Nat.le_of_ble_eq_true rfl) (by first | exact ⟨Nat.le_trans (by decide) hF, Nat.le_trans (by decide) hLo⟩) (by omega) ?_
  refine g_topi (show _ = (2 : Int32) from rfl) ?_
  refine g_iload C dL_law_293 rfl ?_
  refine g_icmp_eq (tgt := 300) C dL_law_295 (by decide) (fun c_295 => ?_) (fun c_295 => absurd rfl c_295)
  refine g_iload C dL_law_300 rfl ?_
  refine g_if_ne (tgt := 324) C dL_law_302 (by decide) (fun c_302 => ?_) (fun c_302 => absurd c_302 (by decide))
  refine g_goto (tgt := 1650) C dL_law_324 (by decide) ?_
  refine g_wide (k + 1) (n + 10) (by omega) (by omega) ?_
  refine g_lv [2, 3, 4, 5, 6] [(4, .int (nI (3 * j))), (3, .ref ((eG E).2.1 102)), (2, .ref ((eG E).2.1 101)), (1, .ref ((eG E).2.1 100)), (0, .ref b)] rfl ?_
  exact kk _ _ _ _ _ _ (RR_20 (RR_20 R 0) 2)
