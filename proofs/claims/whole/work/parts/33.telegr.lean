set_option maxHeartbeats 4000000 in
set_option maxRecDepth 100000 in
theorem lc_write {E : gE} {k n b L j : Nat} {xs : Nat → Int32} {σ : gS} {τ : gT} {o : gO} {nw nl lm : Nat} {a : Nat} (A : gW E k n b L j xs) (R : RR σ τ nw nl lm) (ha : a < nw) (h16 : nl < 16) (e1 : xs (3 * j + 1) = nI a) (kk : gK0 E k n b j) : G E k n 570 (LV E b j) [] σ τ o := by
  obtain ⟨C, X, hN, hj, hL, hF, hLo, hk, hn⟩ := A
  have hl : (eL E).stackTraces = false := C.2.2.2.2.2.2.2.2.2
  have hIM : IM σ τ nw nl lm := RR_IM R
  have hnw := Iv_nw R.1
  have hnl := Iv_nl R.1
  have h3 : σ 3 = nI nw := Iv_h3 R.1
  have h9 : σ 9 = nI nl := Iv_h9 R.1
  obtain ⟨I, hb35, s1, s2, s3, s4, s5, s6, s7, t1, t2, t3, t4, t5, hz9⟩ := id R
  show G E k n 570 [(4, .int (nI (3 * j))), (3, .ref ((eG E).2.1 102)), (2, .ref ((eG E).2.1 101)), (1, .ref ((eG E).2.1 100)), (0, .ref b)] [] σ τ o
  refine g_aload_n C dL_law_570 rfl rfl ?_
  refine g_aload_n C dL_law_571 rfl rfl ?_
  refine g_iload C dL_law_572 rfl ?_
  refine g_iconst (v := 1) C dL_law_574 (by decide) ?_
  refine g_iadd C dL_law_575 ?_
  refine g_sld C X (3 * j + 1) dL_law_576 (nI_1 _) (by omega) hL e1 ?_
  refine g_aload_n C dL_law_577 rfl rfl ?_
  refine g_callLE (na := 3) C hN dL_law_578 (h_write hl (eG E) σ τ o nw nl lm a I ha h16) gL_law_L_write rfl rfl (by decide +kernel) rfl (Nat.le_of_ble_eq_true rfl) (by first | exact ⟨Nat.le_trans (by decide) hF, Nat.le_trans (by decide) hLo⟩) (by omega) ?_
  refine g_istore C [(5, _), (4, _), (3, _), (2, _), (1, _), (0, _)] dL_law_581 (by decide) rfl ?_
  refine g_aload_n C dL_law_583 rfl rfl ?_
  refine g_aload_n C dL_law_584 rfl rfl ?_
  refine g_iload C dL_law_585 rfl ?_
  refine g_iconst (v := 1) C dL_law_587 (by decide) ?_
  refine g_iadd C dL_law_588 ?_
  refine g_sld C X (3 * j + 1) dL_law_589 (nI_1 _) (by omega) hL e1 ?_
  refine g_callVEi (Cl := RX1) (T := TX1) (N := 16) (ci := 1) (q0 := 12) (na := 1) C dL_law_590 (m_write hl (eG E) _ _ _ nw nl lm a hIM ha h16) gL_law_X1_write rfl rfl (by decide +kernel) rfl rfl rfl (Nat.le_of_ble_eq_true rfl) (by first | exact ⟨Nat.le_trans (by decide) hF, Nat.le_trans (by decide) hLo⟩) (by omega) ?_
  refine g_istore C [(6, _), (5, _), (4, _), (3, _), (2, _), (1, _), (0, _)] dL_law_593 (by decide) rfl ?_
  refine g_aload_n C dL_law_595 rfl rfl ?_
  refine g_callVEi (Cl := RX1) (T := TX1) (N := 16) (ci := 1) (q0 := 12) (na := 0) C dL_law_596 (m_thrown hl (eG E) _ _ _) gL_law_X1_thrown rfl rfl (by decide +kernel) rfl rfl rfl (Nat.le_of_ble_eq_true rfl) (by first | exact ⟨Nat.le_trans (by decide) hF, Nat.le_trans (by decide) hLo⟩) (by omega) ?_
  refine g_topi (show _ = (0 : Int32) from rfl) ?_
  refine g_iload C dL_law_599 rfl ?_
  refine g_icmp_eq (tgt := 606) C dL_law_601 (by decide) (fun c_601 => ?_) (fun c_601 => absurd rfl c_601)
  refine g_iload C dL_law_606 rfl ?_
  refine g_if_ne (tgt := 623) C dL_law_608 (by decide) (fun c_608 => absurd rfl c_608) (fun c_608 => ?_)
  refine g_aload_n C dL_law_611 rfl rfl ?_
  refine g_iconst (v := 0) C dL_law_612 (by decide) ?_
  refine g_lald C dL_law_613 ?_
  refine g_iload C dL_law_614 rfl ?_
  refine g_i2l C dL_law_616 ?_
  refine g_lcmpE C (congrArg Int32.toInt64 (show nI (nl + 1) = nI (nl + 1) from rfl)) dL_law_617 ?_
  refine g_if_eq (tgt := 623) C dL_law_618 (by decide) (fun c_618 => ?_) (fun c_618 => absurd rfl c_618)
  refine g_goto (tgt := 1650) C dL_law_623 (by decide) ?_
  refine g_wide (k + 1) (n + 10) (by omega) (by omega) ?_
  refine g_lv [2, 3, 4, 5, 6] [(4, .int (nI (3 * j))), (3, .ref ((eG E).2.1 102)), (2, .ref ((eG E).2.1 101)), (1, .ref ((eG E).2.1 100)), (0, .ref b)] rfl ?_
  exact kk _ _ _ _ _ _ (RR_wr R ha h16)
set_option maxHeartbeats 4000000 in
set_option maxRecDepth 100000 in
theorem lc_writeX {E : gE} {k n b L j : Nat} {xs : Nat → Int32} {σ : gS} {τ : gT} {o : gO} {nw nl lm : Nat} {w : Int32} (A : gW E k n b L j xs) (R : RR σ τ nw nl lm) (hw : w < 0 ∨ ¬ w < σ 3) (e1 : xs (3 * j + 1) = w) (kk : gK0 E k n b j) : G E k n 570 (LV E b j) [] σ τ o := by
  obtain ⟨C, X, hN, hj, hL, hF, hLo, hk, hn⟩ := A
  have hl : (eL E).stackTraces = false := C.2.2.2.2.2.2.2.2.2
  have hIM : IM σ τ nw nl lm := RR_IM R
  have hnw := Iv_nw R.1
  have hnl := Iv_nl R.1
  have h3 : σ 3 = nI nw := Iv_h3 R.1
  have h9 : σ 9 = nI nl := Iv_h9 R.1
  obtain ⟨I, hb35, s1, s2, s3, s4, s5, s6, s7, t1, t2, t3, t4, t5, hz9⟩ := id R
  show G E k n 570 [(4, .int (nI (3 * j))), (3, .ref ((eG E).2.1 102)), (2, .ref ((eG E).2.1 101)), (1, .ref ((eG E).2.1 100)), (0, .ref b)] [] σ τ o
  refine g_aload_n C dL_law_570 rfl rfl ?_
  refine g_aload_n C dL_law_571 rfl rfl ?_
  refine g_iload C dL_law_572 rfl ?_
  refine g_iconst (v := 1) C dL_law_574 (by decide) ?_
  refine g_iadd C dL_law_575 ?_
  refine g_sld C X (3 * j + 1) dL_law_576 (nI_1 _) (by omega) hL e1 ?_
  refine g_aload_n C dL_law_577 rfl rfl ?_
  refine g_callLE (na := 3) C hN dL_law_578 (h_writeX hl (eG E) σ τ o w hw) gL_law_L_write rfl rfl (by decide +kernel) rfl (Nat.le_of_ble_eq_true rfl) (by first | exact ⟨Nat.le_trans (by decide) hF, Nat.le_trans (by decide) hLo⟩) (by omega) ?_
  refine g_istore C [(5, _), (4, _), (3, _), (2, _), (1, _), (0, _)] dL_law_581 (by decide) rfl ?_
  refine g_aload_n C dL_law_583 rfl rfl ?_
  refine g_aload_n C dL_law_584 rfl rfl ?_
  refine g_iload C dL_law_585 rfl ?_
  refine g_iconst (v := 1) C dL_law_587 (by decide) ?_
  refine g_iadd C dL_law_588 ?_
  refine g_sld C X (3 * j + 1) dL_law_589 (nI_1 _) (by omega) hL e1 ?_
  refine g_callVEi (Cl := RX1) (T := TX1) (N := 16) (ci := 1) (q0 := 12) (na := 1) C dL_law_590 (m_writeX hl (eG E) _ _ _ nw nl lm w (RR_IM R) (by rw [s1]; exact hw)) gL_law_X1_write rfl rfl (by decide +kernel) rfl rfl rfl (Nat.le_of_ble_eq_true rfl) (by first | exact ⟨Nat.le_trans (by decide) hF, Nat.le_trans (by decide) hLo⟩) (by omega) ?_
  refine g_istore C [(6, _), (5, _), (4, _), (3, _), (2, _), (1, _), (0, _)] dL_law_593 (by decide) rfl ?_
  refine g_aload_n C dL_law_595 rfl rfl ?_
  refine g_callVEi (Cl := RX1) (T := TX1) (N := 16) (ci := 1) (q0 := 12) (na := 0) C dL_law_596 (m_thrown hl (eG E) _ _ _) gL_law_X1_thrown rfl rfl (by decide +kernel) rfl rfl rfl (Nat.le_of_ble_eq_true rfl) (by first | exact ⟨Nat.le_trans (by decide) hF, Nat.le_trans (by decide) hLo⟩) (by omega) ?_
  refine g_topi (show _ = (1 : Int32) from rfl) ?_
  refine g_iload C dL_law_599 rfl ?_
  refine g_icmp_eq (tgt := 606) C dL_law_601 (by decide) (fun c_601 => ?_) (fun c_601 => absurd rfl c_601)
  refine g_iload C dL_law_606 rfl ?_
  refine g_if_ne (tgt := 623) C dL_law_608 (by decide) (fun c_608 => ?_) (fun c_608 => absurd c_608 (by decide))
  refine g_goto (tgt := 1650) C dL_law_623 (by decide) ?_
  refine g_wide (k + 1) (n + 10) (by omega) (by omega) ?_
  refine g_lv [2, 3, 4, 5, 6] [(4, .int (nI (3 * j))), (3, .ref ((eG E).2.1 102)), (2, .ref ((eG E).2.1 101)), (1, .ref ((eG E).2.1 100)), (0, .ref b)] rfl ?_
  exact kk _ _ _ _ _ _ (RR_20 (RR_20 R 0) 1)
set_option maxHeartbeats 4000000 in
set_option maxRecDepth 100000 in
theorem lc_writeY {E : gE} {k n b L j : Nat} {xs : Nat → Int32} {σ : gS} {τ : gT} {o : gO} {nw nl lm : Nat} {a : Nat} (A : gW E k n b L j xs) (R : RR σ τ nw nl lm) (ha : a < nw) (h16 : ¬ nl < 16) (e1 : xs (3 * j + 1) = nI a) (kk : gK0 E k n b j) : G E k n 570 (LV E b j) [] σ τ o := by
  obtain ⟨C, X, hN, hj, hL, hF, hLo, hk, hn⟩ := A
  have hl : (eL E).stackTraces = false := C.2.2.2.2.2.2.2.2.2
  have hIM : IM σ τ nw nl lm := RR_IM R
  have hnw := Iv_nw R.1
  have hnl := Iv_nl R.1
  have h3 : σ 3 = nI nw := Iv_h3 R.1
  have h9 : σ 9 = nI nl := Iv_h9 R.1
  obtain ⟨I, hb35, s1, s2, s3, s4, s5, s6, s7, t1, t2, t3, t4, t5, hz9⟩ := id R
  show G E k n 570 [(4, .int (nI (3 * j))), (3, .ref ((eG E).2.1 102)), (2, .ref ((eG E).2.1 101)), (1, .ref ((eG E).2.1 100)), (0, .ref b)] [] σ τ o
  refine g_aload_n C dL_law_570 rfl rfl ?_
  refine g_aload_n C dL_law_571 rfl rfl ?_
  refine g_iload C dL_law_572 rfl ?_
  refine g_iconst (v := 1) C dL_law_574 (by decide) ?_
  refine g_iadd C dL_law_575 ?_
  refine g_sld C X (3 * j + 1) dL_law_576 (nI_1 _) (by omega) hL e1 ?_
  refine g_aload_n C dL_law_577 rfl rfl ?_
  refine g_callLE (na := 3) C hN dL_law_578 (h_writeY hl (eG E) σ τ o nw nl lm a I ha (by rw [h9]; exact nI_nlt (b := 16) (by omega) (by omega))) gL_law_L_write rfl rfl (by decide +kernel) rfl (Nat.le_of_ble_eq_true rfl) (by first | exact ⟨Nat.le_trans (by decide) hF, Nat.le_trans (by decide) hLo⟩) (by omega) ?_
  refine g_istore C [(5, _), (4, _), (3, _), (2, _), (1, _), (0, _)] dL_law_581 (by decide) rfl ?_
  refine g_aload_n C dL_law_583 rfl rfl ?_
  refine g_aload_n C dL_law_584 rfl rfl ?_
  refine g_iload C dL_law_585 rfl ?_
  refine g_iconst (v := 1) C dL_law_587 (by decide) ?_
  refine g_iadd C dL_law_588 ?_
  refine g_sld C X (3 * j + 1) dL_law_589 (nI_1 _) (by omega) hL e1 ?_
  refine g_callVEi (Cl := RX1) (T := TX1) (N := 16) (ci := 1) (q0 := 12) (na := 1) C dL_law_590 (m_writeY hl (eG E) _ _ _ nw nl lm a (RR_IM R) ha (by rw [s5, h9, show nl = 16 by omega]; rfl)) gL_law_X1_write rfl rfl (by decide +kernel) rfl rfl rfl (Nat.le_of_ble_eq_true rfl) (by first | exact ⟨Nat.le_trans (by decide) hF, Nat.le_trans (by decide) hLo⟩) (by omega) ?_
  refine g_istore C [(6, _), (5, _), (4, _), (3, _), (2, _), (1, _), (0, _)] dL_law_593 (by decide) rfl ?_
  refine g_aload_n C dL_law_595 rfl rfl ?_
  refine g_callVEi (Cl := RX1) (T := TX1) (N := 16) (ci := 1) (q0 := 12) (na := 0) C dL_law_596 (m_thrown hl (eG E) _ _ _) gL_law_X1_thrown rfl rfl (by decide +kernel) rfl rfl rfl (Nat.le_of_ble_eq_true rfl) (by first | exact ⟨Nat.le_trans (by decide) hF, Nat.le_trans (by decide) hLo⟩) (by omega) ?_
  refine g_topi (show _ = (2 : Int32) from rfl) ?_
  refine g_iload C dL_law_599 rfl ?_
  refine g_icmp_eq (tgt := 606) C dL_law_601 (by decide) (fun c_601 => ?_) (fun c_601 => absurd rfl c_601)
  refine g_iload C dL_law_606 rfl ?_
  refine g_if_ne (tgt := 623) C dL_law_608 (by decide) (fun c_608 => ?_) (fun c_608 => absurd c_608 (by decide))
  refine g_goto (tgt := 1650) C dL_law_623 (by decide) ?_
  refine g_wide (k + 1) (n + 10) (by omega) (by omega) ?_
  refine g_lv [2, 3, 4, 5, 6] [(4, .int (nI (3 * j))), (3, .ref ((eG E).2.1 102)), (2, .ref ((eG E).2.1 101)), (1, .ref ((eG E).2.1 100)), (0, .ref b)] rfl ?_
  exact kk _ _ _ _ _ _ (RR_20 (RR_20 R 0) 2)
set_option maxHeartbeats 4000000 in
set_option maxRecDepth 100000 in
theorem lc_strike {E : gE} {k n b L j : Nat} {xs : Nat → Int32} {σ : gS} {τ : gT} {o : gO} {nw nl lm : Nat} {p : Nat} (A : gW E k n b L j xs) (R : RR σ τ nw nl lm) (hp : p < nl) (e1 : xs (3 * j + 1) = nI p) (kk : gK0 E k n b j) : G E k n 626 (LV E b j) [] σ τ o := by
  obtain ⟨C, X, hN, hj, hL, hF, hLo, hk, hn⟩ := A
  have hl : (eL E).stackTraces = false := C.2.2.2.2.2.2.2.2.2
  have hIM : IM σ τ nw nl lm := RR_IM R
  have hnw := Iv_nw R.1
  have hnl := Iv_nl R.1
  have h3 : σ 3 = nI nw := Iv_h3 R.1
  have h9 : σ 9 = nI nl := Iv_h9 R.1
  obtain ⟨I, hb35, s1, s2, s3, s4, s5, s6, s7, t1, t2, t3, t4, t5, hz9⟩ := id R
  show G E k n 626 [(4, .int (nI (3 * j))), (3, .ref ((eG E).2.1 102)), (2, .ref ((eG E).2.1 101)), (1, .ref ((eG E).2.1 100)), (0, .ref b)] [] σ τ o
  refine g_aload_n C dL_law_626 rfl rfl ?_
  refine g_aload_n C dL_law_627 rfl rfl ?_
  refine g_iload C dL_law_628 rfl ?_
  refine g_iconst (v := 1) C dL_law_630 (by decide) ?_
  refine g_iadd C dL_law_631 ?_
  refine g_sld C X (3 * j + 1) dL_law_632 (nI_1 _) (by omega) hL e1 ?_
  refine g_aload_n C dL_law_633 rfl rfl ?_
  refine g_callLi (na := 3) C hN dL_law_634 (h_strike hl (eG E) σ τ o nw nl lm p I hp) gL_law_L_strike rfl rfl (by decide +kernel) rfl (Nat.le_of_ble_eq_true rfl) (by first | exact ⟨Nat.le_trans (by decide) hF, Nat.le_trans (by decide) hLo⟩) (by omega) (fun r1 σ1 τ1 o1 hc => ?_)
  obtain ⟨er1, es1, eo1, hc⟩ := hc
  have es1 := es1.symm
  have eo1 := eo1.symm
  subst er1
  subst es1
  subst eo1
  have hI2 := IM_sk R hc
  refine g_istore C [(5, _), (4, _), (3, _), (2, _), (1, _), (0, _)] dL_law_637 (by decide) rfl ?_
  refine g_aload_n C dL_law_639 rfl rfl ?_
  refine g_aload_n C dL_law_640 rfl rfl ?_
  refine g_iload C dL_law_641 rfl ?_
  refine g_iconst (v := 1) C dL_law_643 (by decide) ?_
  refine g_iadd C dL_law_644 ?_
  refine g_sld C X (3 * j + 1) dL_law_645 (nI_1 _) (by omega) hL e1 ?_
  refine g_callVi (Cl := RX1) (T := TX1) (N := 16) (ci := 1) (q0 := 12) (na := 1) C dL_law_646 (m_strike hl (eG E) _ _ _ nw nl lm p hI2 hp) gL_law_X1_strike rfl rfl (by decide +kernel) rfl rfl rfl (Nat.le_of_ble_eq_true rfl) (by first | exact ⟨Nat.le_trans (by decide) hF, Nat.le_trans (by decide) hLo⟩) (by omega) noX_kx (fun r2 σ2 τ2 o2 hm => ?_)
  obtain ⟨er2, es2, eo2, hm⟩ := hm
  have es2 := es2.symm
  have eo2 := eo2.symm
  subst er2
  subst es2
  subst eo2
  refine g_istore C [(6, _), (5, _), (4, _), (3, _), (2, _), (1, _), (0, _)] dL_law_649 (by decide) rfl ?_
  refine g_aload_n C dL_law_651 rfl rfl ?_
  refine g_callVEi (Cl := RX1) (T := TX1) (N := 16) (ci := 1) (q0 := 12) (na := 0) C dL_law_652 (m_thrown hl (eG E) _ _ _) gL_law_X1_thrown rfl rfl (by decide +kernel) rfl rfl rfl (Nat.le_of_ble_eq_true rfl) (by first | exact ⟨Nat.le_trans (by decide) hF, Nat.le_trans (by decide) hLo⟩) (by omega) ?_
  refine g_topi (show _ = (0 : Int32) from rfl) ?_
  refine g_iload C dL_law_655 rfl ?_
  refine g_icmp_eq (tgt := 662) C dL_law_657 (by decide) (fun c_657 => ?_) (fun c_657 => absurd rfl c_657)
  refine g_iload C dL_law_662 rfl ?_
  refine g_if_ne (tgt := 679) C dL_law_664 (by decide) (fun c_664 => absurd rfl c_664) (fun c_664 => ?_)
  refine g_aload_n C dL_law_667 rfl rfl ?_
  refine g_iconst (v := 0) C dL_law_668 (by decide) ?_
  refine g_lald C dL_law_669 ?_
  refine g_iload C dL_law_670 rfl ?_
  refine g_i2l C dL_law_672 ?_
  refine g_lcmpE C (congrArg Int32.toInt64 (show nI (nl - 1) = nI (nl - 1) from rfl)) dL_law_673 ?_
  refine g_if_eq (tgt := 679) C dL_law_674 (by decide) (fun c_674 => ?_) (fun c_674 => absurd rfl c_674)
  refine g_goto (tgt := 1650) C dL_law_679 (by decide) ?_
  refine g_wide (k + 1) (n + 10) (by omega) (by omega) ?_
  refine g_lv [2, 3, 4, 5, 6] [(4, .int (nI (3 * j))), (3, .ref ((eG E).2.1 102)), (2, .ref ((eG E).2.1 101)), (1, .ref ((eG E).2.1 100)), (0, .ref b)] rfl ?_
  exact kk _ _ _ _ _ _ (RR_sk R hp hc hm)
set_option maxHeartbeats 4000000 in
set_option maxRecDepth 100000 in
theorem lc_strikeX {E : gE} {k n b L j : Nat} {xs : Nat → Int32} {σ : gS} {τ : gT} {o : gO} {nw nl lm : Nat} {w : Int32} (A : gW E k n b L j xs) (R : RR σ τ nw nl lm) (hw : w < 0 ∨ ¬ w < σ 9) (e1 : xs (3 * j + 1) = w) (kk : gK0 E k n b j) : G E k n 626 (LV E b j) [] σ τ o := by
  obtain ⟨C, X, hN, hj, hL, hF, hLo, hk, hn⟩ := A
  have hl : (eL E).stackTraces = false := C.2.2.2.2.2.2.2.2.2
  have hIM : IM σ τ nw nl lm := RR_IM R
  have hnw := Iv_nw R.1
  have hnl := Iv_nl R.1
  have h3 : σ 3 = nI nw := Iv_h3 R.1
  have h9 : σ 9 = nI nl := Iv_h9 R.1
  obtain ⟨I, hb35, s1, s2, s3, s4, s5, s6, s7, t1, t2, t3, t4, t5, hz9⟩ := id R
  show G E k n 626 [(4, .int (nI (3 * j))), (3, .ref ((eG E).2.1 102)), (2, .ref ((eG E).2.1 101)), (1, .ref ((eG E).2.1 100)), (0, .ref b)] [] σ τ o
  refine g_aload_n C dL_law_626 rfl rfl ?_
  refine g_aload_n C dL_law_627 rfl rfl ?_
  refine g_iload C dL_law_628 rfl ?_
  refine g_iconst (v := 1) C dL_law_630 (by decide) ?_
  refine g_iadd C dL_law_631 ?_
  refine g_sld C X (3 * j + 1) dL_law_632 (nI_1 _) (by omega) hL e1 ?_
  refine g_aload_n C dL_law_633 rfl rfl ?_
  refine g_callLE (na := 3) C hN dL_law_634 (h_strikeX hl (eG E) σ τ o w hw) gL_law_L_strike rfl rfl (by decide +kernel) rfl (Nat.le_of_ble_eq_true rfl) (by first | exact ⟨Nat.le_trans (by decide) hF, Nat.le_trans (by decide) hLo⟩) (by omega) ?_
  refine g_istore C [(5, _), (4, _), (3, _), (2, _), (1, _), (0, _)] dL_law_637 (by decide) rfl ?_
  refine g_aload_n C dL_law_639 rfl rfl ?_
  refine g_aload_n C dL_law_640 rfl rfl ?_
  refine g_iload C dL_law_641 rfl ?_
  refine g_iconst (v := 1) C dL_law_643 (by decide) ?_
  refine g_iadd C dL_law_644 ?_
  refine g_sld C X (3 * j + 1) dL_law_645 (nI_1 _) (by omega) hL e1 ?_
  refine g_callVEi (Cl := RX1) (T := TX1) (N := 16) (ci := 1) (q0 := 12) (na := 1) C dL_law_646 (m_strikeX hl (eG E) _ _ _ nw nl lm w (RR_IM R) (by rw [s5]; exact hw)) gL_law_X1_strike rfl rfl (by decide +kernel) rfl rfl rfl (Nat.le_of_ble_eq_true rfl) (by first | exact ⟨Nat.le_trans (by decide) hF, Nat.le_trans (by decide) hLo⟩) (by omega) ?_
  refine g_istore C [(6, _), (5, _), (4, _), (3, _), (2, _), (1, _), (0, _)] dL_law_649 (by decide) rfl ?_
  refine g_aload_n C dL_law_651 rfl rfl ?_
  refine g_callVEi (Cl := RX1) (T := TX1) (N := 16) (ci := 1) (q0 := 12) (na := 0) C dL_law_652 (m_thrown hl (eG E) _ _ _) gL_law_X1_thrown rfl rfl (by decide +kernel) rfl rfl rfl (Nat.le_of_ble_eq_true rfl) (by first | exact ⟨Nat.le_trans (by decide) hF, Nat.le_trans (by decide) hLo⟩) (by omega) ?_
  refine g_topi (show _ = (1 : Int32) from rfl) ?_
  refine g_iload C dL_law_655 rfl ?_
  refine g_icmp_eq (tgt := 662) C dL_law_657 (by decide) (fun c_657 => ?_) (fun c_657 => absurd rfl c_657)
  refine g_iload C dL_law_662 rfl ?_
  refine g_if_ne (tgt := 679) C dL_law_664 (by decide) (fun c_664 => ?_) (fun c_664 => absurd c_664 (by decide))
  refine g_goto (tgt := 1650) C dL_law_679 (by decide) ?_
  refine g_wide (k + 1) (n + 10) (by omega) (by omega) ?_
  refine g_lv [2, 3, 4, 5, 6] [(4, .int (nI (3 * j))), (3, .ref ((eG E).2.1 102)), (2, .ref ((eG E).2.1 101)), (1, .ref ((eG E).2.1 100)), (0, .ref b)] rfl ?_
  exact kk _ _ _ _ _ _ (RR_20 (RR_20 R 0) 1)
set_option maxHeartbeats 4000000 in
set_option maxRecDepth 100000 in
theorem lc_turnJoinedOff {E : gE} {k n b L j : Nat} {xs : Nat → Int32} {σ : gS} {τ : gT} {o : gO} {nw nl lm : Nat} {p : Nat} (A : gW E k n b L j xs) (R : RR σ τ nw nl lm) (hp : p + 1 < nl) (hj8 : ¬ τ 8 p = 0) (e1 : xs (3 * j + 1) = nI p) (kk : gK0 E k n b j) : G E k n 682 (LV E b j) [] σ τ o := by
  obtain ⟨C, X, hN, hj, hL, hF, hLo, hk, hn⟩ := A
  have hl : (eL E).stackTraces = false := C.2.2.2.2.2.2.2.2.2
  have hIM : IM σ τ nw nl lm := RR_IM R
  have hnw := Iv_nw R.1
  have hnl := Iv_nl R.1
  have h3 : σ 3 = nI nw := Iv_h3 R.1
  have h9 : σ 9 = nI nl := Iv_h9 R.1
  obtain ⟨I, hb35, s1, s2, s3, s4, s5, s6, s7, t1, t2, t3, t4, t5, hz9⟩ := id R
  show G E k n 682 [(4, .int (nI (3 * j))), (3, .ref ((eG E).2.1 102)), (2, .ref ((eG E).2.1 101)), (1, .ref ((eG E).2.1 100)), (0, .ref b)] [] σ τ o
  refine g_aload_n C dL_law_682 rfl rfl ?_
  refine g_aload_n C dL_law_683 rfl rfl ?_
  refine g_iload C dL_law_684 rfl ?_
  refine g_iconst (v := 1) C dL_law_686 (by decide) ?_
  refine g_iadd C dL_law_687 ?_
  refine g_sld C X (3 * j + 1) dL_law_688 (nI_1 _) (by omega) hL e1 ?_
  refine g_aload_n C dL_law_689 rfl rfl ?_
  refine g_callLE (na := 3) C hN dL_law_690 (h_turnJoinedOff hl (eG E) σ τ o nw nl lm p I hp hj8) gL_law_L_turnJoined rfl rfl (by decide +kernel) rfl (Nat.le_of_ble_eq_true rfl) (by first | exact ⟨Nat.le_trans (by decide) hF, Nat.le_trans (by decide) hLo⟩) (by omega) ?_
  refine g_istore C [(5, _), (4, _), (3, _), (2, _), (1, _), (0, _)] dL_law_693 (by decide) rfl ?_
  refine g_aload_n C dL_law_695 rfl rfl ?_
  refine g_aload_n C dL_law_696 rfl rfl ?_
  refine g_iload C dL_law_697 rfl ?_
  refine g_iconst (v := 1) C dL_law_699 (by decide) ?_
  refine g_iadd C dL_law_700 ?_
  refine g_sld C X (3 * j + 1) dL_law_701 (nI_1 _) (by omega) hL e1 ?_
  refine g_callVEi (Cl := RX1) (T := TX1) (N := 16) (ci := 1) (q0 := 12) (na := 1) C dL_law_702 (m_turnJoinedOff hl (eG E) _ _ _ nw nl lm p hIM hp (show ¬ τ 32 p = 0 by rw [t5]; exact hj8)) gL_law_X1_turnJoined rfl rfl (by decide +kernel) rfl rfl rfl (Nat.le_of_ble_eq_true rfl) (by first | exact ⟨Nat.le_trans (by decide) hF, Nat.le_trans (by decide) hLo⟩) (by omega) ?_
  refine g_istore C [(6, _), (5, _), (4, _), (3, _), (2, _), (1, _), (0, _)] dL_law_705 (by decide) rfl ?_
  refine g_aload_n C dL_law_707 rfl rfl ?_
  refine g_callVEi (Cl := RX1) (T := TX1) (N := 16) (ci := 1) (q0 := 12) (na := 0) C dL_law_708 (m_thrown hl (eG E) _ _ _) gL_law_X1_thrown rfl rfl (by decide +kernel) rfl rfl rfl (Nat.le_of_ble_eq_true rfl) (by first | exact ⟨Nat.le_trans (by decide) hF, Nat.le_trans (by decide) hLo⟩) (by omega) ?_
  refine g_topi (show _ = (0 : Int32) from rfl) ?_
  refine g_iload C dL_law_711 rfl ?_
  refine g_icmp_eq (tgt := 718) C dL_law_713 (by decide) (fun c_713 => ?_) (fun c_713 => absurd rfl c_713)
  refine g_iload C dL_law_718 rfl ?_
  refine g_if_ne (tgt := 742) C dL_law_720 (by decide) (fun c_720 => absurd rfl c_720) (fun c_720 => ?_)
  refine g_aload_n C dL_law_723 rfl rfl ?_
  refine g_iconst (v := 0) C dL_law_724 (by decide) ?_
  refine g_lald C dL_law_725 ?_
  refine g_iload C dL_law_726 rfl ?_
  have heq : (0 : Int32) = 0 := rfl
  refine g_if_eq (tgt := 735) C dL_law_728 (by decide) (fun c_728 => ?_) (fun c_728 => ?_)
  · refine g_lconst (v := 0) C dL_law_735 (by decide) ?_
    refine g_lcmpE C ((congrArg lb heq).trans (if_pos c_728)) dL_law_736 ?_
    refine g_if_eq (tgt := 742) C dL_law_737 (by decide) (fun c_737 => ?_) (fun c_737 => absurd rfl c_737)
    refine g_goto (tgt := 1650) C dL_law_742 (by decide) ?_
    refine g_wide (k + 1) (n + 10) (by omega) (by omega) ?_
    refine g_lv [2, 3, 4, 5, 6] [(4, .int (nI (3 * j))), (3, .ref ((eG E).2.1 102)), (2, .ref ((eG E).2.1 101)), (1, .ref ((eG E).2.1 100)), (0, .ref b)] rfl ?_
    exact kk _ _ _ _ _ _ (RR_tjd R hp (Or.inl rfl))
  · refine g_lconst (v := 1) C dL_law_731 (by decide) ?_
    refine g_goto (tgt := 736) C dL_law_732 (by decide) ?_
    refine g_lcmpE C ((congrArg lb heq).trans (if_neg c_728)) dL_law_736 ?_
    refine g_if_eq (tgt := 742) C dL_law_737 (by decide) (fun c_737 => ?_) (fun c_737 => absurd rfl c_737)
    refine g_goto (tgt := 1650) C dL_law_742 (by decide) ?_
    refine g_wide (k + 1) (n + 10) (by omega) (by omega) ?_
    refine g_lv [2, 3, 4, 5, 6] [(4, .int (nI (3 * j))), (3, .ref ((eG E).2.1 102)), (2, .ref ((eG E).2.1 101)), (1, .ref ((eG E).2.1 100)), (0, .ref b)] rfl ?_
    exact kk _ _ _ _ _ _ (RR_tjd R hp (Or.inl rfl))
set_option maxHeartbeats 4000000 in
set_option maxRecDepth 100000 in
theorem lc_turnJoinedOn {E : gE} {k n b L j : Nat} {xs : Nat → Int32} {σ : gS} {τ : gT} {o : gO} {nw nl lm : Nat} {p : Nat} (A : gW E k n b L j xs) (R : RR σ τ nw nl lm) (hp : p + 1 < nl) (hj8 : τ 8 p = 0) (hc8 : ¬ cbj (τ 2) (τ 7) (τ 8) p = 0) (e1 : xs (3 * j + 1) = nI p) (kk : gK0 E k n b j) : G E k n 682 (LV E b j) [] σ τ o := by
  obtain ⟨C, X, hN, hj, hL, hF, hLo, hk, hn⟩ := A
  have hl : (eL E).stackTraces = false := C.2.2.2.2.2.2.2.2.2
  have hIM : IM σ τ nw nl lm := RR_IM R
  have hnw := Iv_nw R.1
  have hnl := Iv_nl R.1
  have h3 : σ 3 = nI nw := Iv_h3 R.1
  have h9 : σ 9 = nI nl := Iv_h9 R.1
  obtain ⟨I, hb35, s1, s2, s3, s4, s5, s6, s7, t1, t2, t3, t4, t5, hz9⟩ := id R
  show G E k n 682 [(4, .int (nI (3 * j))), (3, .ref ((eG E).2.1 102)), (2, .ref ((eG E).2.1 101)), (1, .ref ((eG E).2.1 100)), (0, .ref b)] [] σ τ o
  refine g_aload_n C dL_law_682 rfl rfl ?_
  refine g_aload_n C dL_law_683 rfl rfl ?_
  refine g_iload C dL_law_684 rfl ?_
  refine g_iconst (v := 1) C dL_law_686 (by decide) ?_
  refine g_iadd C dL_law_687 ?_
  refine g_sld C X (3 * j + 1) dL_law_688 (nI_1 _) (by omega) hL e1 ?_
  refine g_aload_n C dL_law_689 rfl rfl ?_
  refine g_callLE (na := 3) C hN dL_law_690 (h_turnJoinedOn hl (eG E) σ τ o nw nl lm p I hp hj8 hc8) gL_law_L_turnJoined rfl rfl (by decide +kernel) rfl (Nat.le_of_ble_eq_true rfl) (by first | exact ⟨Nat.le_trans (by decide) hF, Nat.le_trans (by decide) hLo⟩) (by omega) ?_
  refine g_istore C [(5, _), (4, _), (3, _), (2, _), (1, _), (0, _)] dL_law_693 (by decide) rfl ?_
  refine g_aload_n C dL_law_695 rfl rfl ?_
  refine g_aload_n C dL_law_696 rfl rfl ?_
  refine g_iload C dL_law_697 rfl ?_
  refine g_iconst (v := 1) C dL_law_699 (by decide) ?_
  refine g_iadd C dL_law_700 ?_
  refine g_sld C X (3 * j + 1) dL_law_701 (nI_1 _) (by omega) hL e1 ?_
  refine g_callVEi (Cl := RX1) (T := TX1) (N := 16) (ci := 1) (q0 := 12) (na := 1) C dL_law_702 (m_turnJoinedOn hl (eG E) _ _ _ nw nl lm p hIM hp (show τ 32 p = 0 by rw [t5]; exact hj8) (show ¬ cbj (τ 29) (τ 31) (τ 32) p = 0 by rw [t3, t4, t5]; exact hc8)) gL_law_X1_turnJoined rfl rfl (by decide +kernel) rfl rfl rfl (Nat.le_of_ble_eq_true rfl) (by first | exact ⟨Nat.le_trans (by decide) hF, Nat.le_trans (by decide) hLo⟩) (by omega) ?_
  refine g_istore C [(6, _), (5, _), (4, _), (3, _), (2, _), (1, _), (0, _)] dL_law_705 (by decide) rfl ?_
  refine g_aload_n C dL_law_707 rfl rfl ?_
  refine g_callVEi (Cl := RX1) (T := TX1) (N := 16) (ci := 1) (q0 := 12) (na := 0) C dL_law_708 (m_thrown hl (eG E) _ _ _) gL_law_X1_thrown rfl rfl (by decide +kernel) rfl rfl rfl (Nat.le_of_ble_eq_true rfl) (by first | exact ⟨Nat.le_trans (by decide) hF, Nat.le_trans (by decide) hLo⟩) (by omega) ?_
  refine g_topi (show _ = (0 : Int32) from rfl) ?_
  refine g_iload C dL_law_711 rfl ?_
  refine g_icmp_eq (tgt := 718) C dL_law_713 (by decide) (fun c_713 => ?_) (fun c_713 => absurd rfl c_713)
  refine g_iload C dL_law_718 rfl ?_
  refine g_if_ne (tgt := 742) C dL_law_720 (by decide) (fun c_720 => absurd rfl c_720) (fun c_720 => ?_)
  refine g_aload_n C dL_law_723 rfl rfl ?_
  refine g_iconst (v := 0) C dL_law_724 (by decide) ?_
  refine g_lald C dL_law_725 ?_
  refine g_iload C dL_law_726 rfl ?_
  have heq : (1 : Int32) = 1 := rfl
  refine g_if_eq (tgt := 735) C dL_law_728 (by decide) (fun c_728 => ?_) (fun c_728 => ?_)
  · refine g_lconst (v := 0) C dL_law_735 (by decide) ?_
    refine g_lcmpE C ((congrArg lb heq).trans (if_pos c_728)) dL_law_736 ?_
    refine g_if_eq (tgt := 742) C dL_law_737 (by decide) (fun c_737 => ?_) (fun c_737 => absurd rfl c_737)
    refine g_goto (tgt := 1650) C dL_law_742 (by decide) ?_
    refine g_wide (k + 1) (n + 10) (by omega) (by omega) ?_
    refine g_lv [2, 3, 4, 5, 6] [(4, .int (nI (3 * j))), (3, .ref ((eG E).2.1 102)), (2, .ref ((eG E).2.1 101)), (1, .ref ((eG E).2.1 100)), (0, .ref b)] rfl ?_
    exact kk _ _ _ _ _ _ (RR_tjd R hp (Or.inr rfl))
  · refine g_lconst (v := 1) C dL_law_731 (by decide) ?_
    refine g_goto (tgt := 736) C dL_law_732 (by decide) ?_
    refine g_lcmpE C ((congrArg lb heq).trans (if_neg c_728)) dL_law_736 ?_
    refine g_if_eq (tgt := 742) C dL_law_737 (by decide) (fun c_737 => ?_) (fun c_737 => absurd rfl c_737)
    refine g_goto (tgt := 1650) C dL_law_742 (by decide) ?_
    refine g_wide (k + 1) (n + 10) (by omega) (by omega) ?_
    refine g_lv [2, 3, 4, 5, 6] [(4, .int (nI (3 * j))), (3, .ref ((eG E).2.1 102)), (2, .ref ((eG E).2.1 101)), (1, .ref ((eG E).2.1 100)), (0, .ref b)] rfl ?_
    exact kk _ _ _ _ _ _ (RR_tjd R hp (Or.inr rfl))
set_option maxHeartbeats 4000000 in
set_option maxRecDepth 100000 in
theorem lc_turnJoinedX {E : gE} {k n b L j : Nat} {xs : Nat → Int32} {σ : gS} {τ : gT} {o : gO} {nw nl lm : Nat} {w : Int32} (A : gW E k n b L j xs) (R : RR σ τ nw nl lm) (hw : w < 0 ∨ ¬ w < σ 9) (e1 : xs (3 * j + 1) = w) (kk : gK0 E k n b j) : G E k n 682 (LV E b j) [] σ τ o := by
  obtain ⟨C, X, hN, hj, hL, hF, hLo, hk, hn⟩ := A
  have hl : (eL E).stackTraces = false := C.2.2.2.2.2.2.2.2.2
  have hIM : IM σ τ nw nl lm := RR_IM R
  have hnw := Iv_nw R.1
  have hnl := Iv_nl R.1
  have h3 : σ 3 = nI nw := Iv_h3 R.1
  have h9 : σ 9 = nI nl := Iv_h9 R.1
  obtain ⟨I, hb35, s1, s2, s3, s4, s5, s6, s7, t1, t2, t3, t4, t5, hz9⟩ := id R
  show G E k n 682 [(4, .int (nI (3 * j))), (3, .ref ((eG E).2.1 102)), (2, .ref ((eG E).2.1 101)), (1, .ref ((eG E).2.1 100)), (0, .ref b)] [] σ τ o
  refine g_aload_n C dL_law_682 rfl rfl ?_
  refine g_aload_n C dL_law_683 rfl rfl ?_
  refine g_iload C dL_law_684 rfl ?_
  refine g_iconst (v := 1) C dL_law_686 (by decide) ?_
  refine g_iadd C dL_law_687 ?_
  refine g_sld C X (3 * j + 1) dL_law_688 (nI_1 _) (by omega) hL e1 ?_
  refine g_aload_n C dL_law_689 rfl rfl ?_
  refine g_callLE (na := 3) C hN dL_law_690 (h_turnJoinedX hl (eG E) σ τ o w hw) gL_law_L_turnJoined rfl rfl (by decide +kernel) rfl (Nat.le_of_ble_eq_true rfl) (by first | exact ⟨Nat.le_trans (by decide) hF, Nat.le_trans (by decide) hLo⟩) (by omega) ?_
  refine g_istore C [(5, _), (4, _), (3, _), (2, _), (1, _), (0, _)] dL_law_693 (by decide) rfl ?_
  refine g_aload_n C dL_law_695 rfl rfl ?_
  refine g_aload_n C dL_law_696 rfl rfl ?_
  refine g_iload C dL_law_697 rfl ?_
  refine g_iconst (v := 1) C dL_law_699 (by decide) ?_
  refine g_iadd C dL_law_700 ?_
  refine g_sld C X (3 * j + 1) dL_law_701 (nI_1 _) (by omega) hL e1 ?_
  refine g_callVEi (Cl := RX1) (T := TX1) (N := 16) (ci := 1) (q0 := 12) (na := 1) C dL_law_702 (m_turnJoinedX hl (eG E) _ _ _ nw nl lm w (RR_IM R) (Or.inl (by rw [s5]; exact hw))) gL_law_X1_turnJoined rfl rfl (by decide +kernel) rfl rfl rfl (Nat.le_of_ble_eq_true rfl) (by first | exact ⟨Nat.le_trans (by decide) hF, Nat.le_trans (by decide) hLo⟩) (by omega) ?_
  refine g_istore C [(6, _), (5, _), (4, _), (3, _), (2, _), (1, _), (0, _)] dL_law_705 (by decide) rfl ?_
  refine g_aload_n C dL_law_707 rfl rfl ?_
  refine g_callVEi (Cl := RX1) (T := TX1) (N := 16) (ci := 1) (q0 := 12) (na := 0) C dL_law_708 (m_thrown hl (eG E) _ _ _) gL_law_X1_thrown rfl rfl (by decide +kernel) rfl rfl rfl (Nat.le_of_ble_eq_true rfl) (by first | exact ⟨Nat.le_trans (by decide) hF, Nat.le_trans (by decide) hLo⟩) (by omega) ?_
  refine g_topi (show _ = (1 : Int32) from rfl) ?_
  refine g_iload C dL_law_711 rfl ?_
  refine g_icmp_eq (tgt := 718) C dL_law_713 (by decide) (fun c_713 => ?_) (fun c_713 => absurd rfl c_713)
  refine g_iload C dL_law_718 rfl ?_
  refine g_if_ne (tgt := 742) C dL_law_720 (by decide) (fun c_720 => ?_) (fun c_720 => absurd c_720 (by decide))
  refine g_goto (tgt := 1650) C dL_law_742 (by decide) ?_
  refine g_wide (k + 1) (n + 10) (by omega) (by omega) ?_
  refine g_lv [2, 3, 4, 5, 6] [(4, .int (nI (3 * j))), (3, .ref ((eG E).2.1 102)), (2, .ref ((eG E).2.1 101)), (1, .ref ((eG E).2.1 100)), (0, .ref b)] rfl ?_
  exact kk _ _ _ _ _ _ (RR_20 (RR_20 R 0) 1)
set_option maxHeartbeats 4000000 in
set_option maxRecDepth 100000 in
theorem lc_turnJoinedY {E : gE} {k n b L j : Nat} {xs : Nat → Int32} {σ : gS} {τ : gT} {o : gO} {nw nl lm : Nat} {p : Nat} (A : gW E k n b L j xs) (R : RR σ τ nw nl lm) (hp : p + 1 = nl) (e1 : xs (3 * j + 1) = nI p) (kk : gK0 E k n b j) : G E k n 682 (LV E b j) [] σ τ o := by
  obtain ⟨C, X, hN, hj, hL, hF, hLo, hk, hn⟩ := A
  have hl : (eL E).stackTraces = false := C.2.2.2.2.2.2.2.2.2
  have hIM : IM σ τ nw nl lm := RR_IM R
  have hnw := Iv_nw R.1
  have hnl := Iv_nl R.1
  have h3 : σ 3 = nI nw := Iv_h3 R.1
  have h9 : σ 9 = nI nl := Iv_h9 R.1
  obtain ⟨I, hb35, s1, s2, s3, s4, s5, s6, s7, t1, t2, t3, t4, t5, hz9⟩ := id R
  show G E k n 682 [(4, .int (nI (3 * j))), (3, .ref ((eG E).2.1 102)), (2, .ref ((eG E).2.1 101)), (1, .ref ((eG E).2.1 100)), (0, .ref b)] [] σ τ o
  refine g_aload_n C dL_law_682 rfl rfl ?_
  refine g_aload_n C dL_law_683 rfl rfl ?_
  refine g_iload C dL_law_684 rfl ?_
  refine g_iconst (v := 1) C dL_law_686 (by decide) ?_
  refine g_iadd C dL_law_687 ?_
  refine g_sld C X (3 * j + 1) dL_law_688 (nI_1 _) (by omega) hL e1 ?_
  refine g_aload_n C dL_law_689 rfl rfl ?_
  refine g_callLE (na := 3) C hN dL_law_690 (h_turnJoinedY hl (eG E) σ τ o nw nl lm p I hp) gL_law_L_turnJoined rfl rfl (by decide +kernel) rfl (Nat.le_of_ble_eq_true rfl) (by first | exact ⟨Nat.le_trans (by decide) hF, Nat.le_trans (by decide) hLo⟩) (by omega) ?_
  refine g_istore C [(5, _), (4, _), (3, _), (2, _), (1, _), (0, _)] dL_law_693 (by decide) rfl ?_
  refine g_aload_n C dL_law_695 rfl rfl ?_
  refine g_aload_n C dL_law_696 rfl rfl ?_
  refine g_iload C dL_law_697 rfl ?_
  refine g_iconst (v := 1) C dL_law_699 (by decide) ?_
  refine g_iadd C dL_law_700 ?_
  refine g_sld C X (3 * j + 1) dL_law_701 (nI_1 _) (by omega) hL e1 ?_
  refine g_callVEi (Cl := RX1) (T := TX1) (N := 16) (ci := 1) (q0 := 12) (na := 1) C dL_law_702 (m_turnJoinedX hl (eG E) _ _ _ nw nl lm (nI p) (RR_IM R) (Or.inr ⟨p, rfl, hp⟩)) gL_law_X1_turnJoined rfl rfl (by decide +kernel) rfl rfl rfl (Nat.le_of_ble_eq_true rfl) (by first | exact ⟨Nat.le_trans (by decide) hF, Nat.le_trans (by decide) hLo⟩) (by omega) ?_
  refine g_istore C [(6, _), (5, _), (4, _), (3, _), (2, _), (1, _), (0, _)] dL_law_705 (by decide) rfl ?_
  refine g_aload_n C dL_law_707 rfl rfl ?_
  refine g_callVEi (Cl := RX1) (T := TX1) (N := 16) (ci := 1) (q0 := 12) (na := 0) C dL_law_708 (m_thrown hl (eG E) _ _ _) gL_law_X1_thrown rfl rfl (by decide +kernel) rfl rfl rfl (Nat.le_of_ble_eq_true rfl) (by first | exact ⟨Nat.le_trans (by decide) hF, Nat.le_trans (by decide) hLo⟩) (by omega) ?_
  refine g_topi (show _ = (1 : Int32) from rfl) ?_
  refine g_iload C dL_law_711 rfl ?_
  refine g_icmp_eq (tgt := 718) C dL_law_713 (by decide) (fun c_713 => ?_) (fun c_713 => absurd rfl c_713)
  refine g_iload C dL_law_718 rfl ?_
  refine g_if_ne (tgt := 742) C dL_law_720 (by decide) (fun c_720 => ?_) (fun c_720 => absurd c_720 (by decide))
  refine g_goto (tgt := 1650) C dL_law_742 (by decide) ?_
  refine g_wide (k + 1) (n + 10) (by omega) (by omega) ?_
  refine g_lv [2, 3, 4, 5, 6] [(4, .int (nI (3 * j))), (3, .ref ((eG E).2.1 102)), (2, .ref ((eG E).2.1 101)), (1, .ref ((eG E).2.1 100)), (0, .ref b)] rfl ?_
  exact kk _ _ _ _ _ _ (RR_20 (RR_20 R 0) 1)
set_option maxHeartbeats 4000000 in
set_option maxRecDepth 100000 in
theorem lc_turnJoinedZ {E : gE} {k n b L j : Nat} {xs : Nat → Int32} {σ : gS} {τ : gT} {o : gO} {nw nl lm : Nat} {p : Nat} (A : gW E k n b L j xs) (R : RR σ τ nw nl lm) (hp : p + 1 < nl) (hj8 : τ 8 p = 0) (hc8 : cbj (τ 2) (τ 7) (τ 8) p = 0) (e1 : xs (3 * j + 1) = nI p) (kk : gK0 E k n b j) : G E k n 682 (LV E b j) [] σ τ o := by
  obtain ⟨C, X, hN, hj, hL, hF, hLo, hk, hn⟩ := A
  have hl : (eL E).stackTraces = false := C.2.2.2.2.2.2.2.2.2
  have hIM : IM σ τ nw nl lm := RR_IM R
  have hnw := Iv_nw R.1
  have hnl := Iv_nl R.1
  have h3 : σ 3 = nI nw := Iv_h3 R.1
  have h9 : σ 9 = nI nl := Iv_h9 R.1
  obtain ⟨I, hb35, s1, s2, s3, s4, s5, s6, s7, t1, t2, t3, t4, t5, hz9⟩ := id R
  show G E k n 682 [(4, .int (nI (3 * j))), (3, .ref ((eG E).2.1 102)), (2, .ref ((eG E).2.1 101)), (1, .ref ((eG E).2.1 100)), (0, .ref b)] [] σ τ o
  refine g_aload_n C dL_law_682 rfl rfl ?_
  refine g_aload_n C dL_law_683 rfl rfl ?_
  refine g_iload C dL_law_684 rfl ?_
  refine g_iconst (v := 1) C dL_law_686 (by decide) ?_
  refine g_iadd C dL_law_687 ?_
  refine g_sld C X (3 * j + 1) dL_law_688 (nI_1 _) (by omega) hL e1 ?_
  refine g_aload_n C dL_law_689 rfl rfl ?_
  refine g_callLE (na := 3) C hN dL_law_690 (h_turnJoinedZ hl (eG E) σ τ o nw nl lm p I hp hj8 hc8) gL_law_L_turnJoined rfl rfl (by decide +kernel) rfl (Nat.le_of_ble_eq_true rfl) (by first | exact ⟨Nat.le_trans (by decide) hF, Nat.le_trans (by decide) hLo⟩) (by omega) ?_
  refine g_istore C [(5, _), (4, _), (3, _), (2, _), (1, _), (0, _)] dL_law_693 (by decide) rfl ?_
  refine g_aload_n C dL_law_695 rfl rfl ?_
  refine g_aload_n C dL_law_696 rfl rfl ?_
  refine g_iload C dL_law_697 rfl ?_
  refine g_iconst (v := 1) C dL_law_699 (by decide) ?_
  refine g_iadd C dL_law_700 ?_
  refine g_sld C X (3 * j + 1) dL_law_701 (nI_1 _) (by omega) hL e1 ?_
  refine g_callVEi (Cl := RX1) (T := TX1) (N := 16) (ci := 1) (q0 := 12) (na := 1) C dL_law_702 (m_turnJoinedZ hl (eG E) _ _ _ nw nl lm p (RR_IM R) hp (show τ 32 p = 0 by rw [t5]; exact hj8) (show cbj (τ 29) (τ 31) (τ 32) p = 0 by rw [t3, t4, t5]; exact hc8)) gL_law_X1_turnJoined rfl rfl (by decide +kernel) rfl rfl rfl (Nat.le_of_ble_eq_true rfl) (by first | exact ⟨Nat.le_trans (by decide) hF, Nat.le_trans (by decide) hLo⟩) (by omega) ?_
  refine g_istore C [(6, _), (5, _), (4, _), (3, _), (2, _), (1, _), (0, _)] dL_law_705 (by decide) rfl ?_
  refine g_aload_n C dL_law_707 rfl rfl ?_
  refine g_callVEi (Cl := RX1) (T := TX1) (N := 16) (ci := 1) (q0 := 12) (na := 0) C dL_law_708 (m_thrown hl (eG E) _ _ _) gL_law_X1_thrown rfl rfl (by decide +kernel) rfl rfl rfl (Nat.le_of_ble_eq_true rfl) (by first | exact ⟨Nat.le_trans (by decide) hF, Nat.le_trans (by decide) hLo⟩) (by omega) ?_
  refine g_topi (show _ = (2 : Int32) from rfl) ?_
  refine g_iload C dL_law_711 rfl ?_
  refine g_icmp_eq (tgt := 718) C dL_law_713 (by decide) (fun c_713 => ?_) (fun c_713 => absurd rfl c_713)
  refine g_iload C dL_law_718 rfl ?_
  refine g_if_ne (tgt := 742) C dL_law_720 (by decide) (fun c_720 => ?_) (fun c_720 => absurd c_720 (by decide))
  refine g_goto (tgt := 1650) C dL_law_742 (by decide) ?_
  refine g_wide (k + 1) (n + 10) (by omega) (by omega) ?_
  refine g_lv [2, 3, 4, 5, 6] [(4, .int (nI (3 * j))), (3, .ref ((eG E).2.1 102)), (2, .ref ((eG E).2.1 101)), (1, .ref ((eG E).2.1 100)), (0, .ref b)] rfl ?_
  exact kk _ _ _ _ _ _ (RR_20 (RR_20 R 0) 2)
set_option maxHeartbeats 4000000 in
set_option maxRecDepth 100000 in
theorem lc_send {E : gE} {k n b L j : Nat} {xs : Nat → Int32} {σ : gS} {τ : gT} {o : gO} {nw nl lm : Nat} {z : Int32} (A : gW E k n b L j xs) (R : RR σ τ nw nl lm) (hz : ¬ z < 0 ∧ z < 4) (h0 : nl ≠ 0) (e1 : xs (3 * j + 1) = z) (kk : gK0 E k n b j) : G E k n 758 (LV E b j) [] σ τ o := by
  obtain ⟨C, X, hN, hj, hL, hF, hLo, hk, hn⟩ := A
  have hl : (eL E).stackTraces = false := C.2.2.2.2.2.2.2.2.2
  have hIM : IM σ τ nw nl lm := RR_IM R
  have hnw := Iv_nw R.1
  have hnl := Iv_nl R.1
  have h3 : σ 3 = nI nw := Iv_h3 R.1
  have h9 : σ 9 = nI nl := Iv_h9 R.1
  obtain ⟨I, hb35, s1, s2, s3, s4, s5, s6, s7, t1, t2, t3, t4, t5, hz9⟩ := id R
  have hcs : CTx σ τ nl * σ 6 * (z + 2) / 2 = CSm σ τ nl z := by unfold CSm; rw [RR_CT R, s4]
  show G E k n 758 [(4, .int (nI (3 * j))), (3, .ref ((eG E).2.1 102)), (2, .ref ((eG E).2.1 101)), (1, .ref ((eG E).2.1 100)), (0, .ref b)] [] σ τ o
  refine g_aload_n C dL_law_758 rfl rfl ?_
  refine g_aload_n C dL_law_759 rfl rfl ?_
  refine g_iload C dL_law_760 rfl ?_
  refine g_iconst (v := 1) C dL_law_762 (by decide) ?_
  refine g_iadd C dL_law_763 ?_
  refine g_sld C X (3 * j + 1) dL_law_764 (nI_1 _) (by omega) hL e1 ?_
  refine g_aload_n C dL_law_765 rfl rfl ?_
  refine g_callLE (na := 3) C hN dL_law_766 (h_send hl (eG E) σ τ o nw nl lm z I hz h0) gL_law_L_send rfl rfl (by decide +kernel) rfl (Nat.le_of_ble_eq_true rfl) (by first | exact ⟨Nat.le_trans (by decide) hF, Nat.le_trans (by decide) hLo⟩) (by omega) ?_
  refine g_istore C [(5, _), (4, _), (3, _), (2, _), (1, _), (0, _)] dL_law_769 (by decide) rfl ?_
  refine g_aload_n C dL_law_771 rfl rfl ?_
  refine g_aload_n C dL_law_772 rfl rfl ?_
  refine g_iload C dL_law_773 rfl ?_
  refine g_iconst (v := 1) C dL_law_775 (by decide) ?_
  refine g_iadd C dL_law_776 ?_
  refine g_sld C X (3 * j + 1) dL_law_777 (nI_1 _) (by omega) hL e1 ?_
  refine g_callVEi (Cl := RX1) (T := TX1) (N := 16) (ci := 1) (q0 := 12) (na := 1) C dL_law_778 (m_send hl (eG E) _ _ _ nw nl lm z hIM hz h0) gL_law_X1_send rfl rfl (by decide +kernel) rfl rfl rfl (Nat.le_of_ble_eq_true rfl) (by first | exact ⟨Nat.le_trans (by decide) hF, Nat.le_trans (by decide) hLo⟩) (by omega) ?_
  refine g_istore C [(6, _), (5, _), (4, _), (3, _), (2, _), (1, _), (0, _)] dL_law_781 (by decide) rfl ?_
  refine g_aload_n C dL_law_783 rfl rfl ?_
  refine g_callVEi (Cl := RX1) (T := TX1) (N := 16) (ci := 1) (q0 := 12) (na := 0) C dL_law_784 (m_thrown hl (eG E) _ _ _) gL_law_X1_thrown rfl rfl (by decide +kernel) rfl rfl rfl (Nat.le_of_ble_eq_true rfl) (by first | exact ⟨Nat.le_trans (by decide) hF, Nat.le_trans (by decide) hLo⟩) (by omega) ?_
  refine g_topi (show _ = (0 : Int32) from rfl) ?_
  refine g_iload C dL_law_787 rfl ?_
  refine g_icmp_eq (tgt := 794) C dL_law_789 (by decide) (fun c_789 => ?_) (fun c_789 => absurd rfl c_789)
  refine g_iload C dL_law_794 rfl ?_
  refine g_if_ne (tgt := 811) C dL_law_796 (by decide) (fun c_796 => absurd rfl c_796) (fun c_796 => ?_)
  refine g_aload_n C dL_law_799 rfl rfl ?_
  refine g_iconst (v := 0) C dL_law_800 (by decide) ?_
  refine g_lald C dL_law_801 ?_
  refine g_iload C dL_law_802 rfl ?_
  refine g_i2l C dL_law_804 ?_
  refine g_lcmpE C (congrArg Int32.toInt64 (show CTx σ τ nl * σ 6 * (z + 2) / 2 = CSm σ τ nl z from hcs)) dL_law_805 ?_
  refine g_if_eq (tgt := 811) C dL_law_806 (by decide) (fun c_806 => ?_) (fun c_806 => absurd rfl c_806)
  refine g_goto (tgt := 1650) C dL_law_811 (by decide) ?_
  refine g_wide (k + 1) (n + 10) (by omega) (by omega) ?_
  refine g_lv [2, 3, 4, 5, 6] [(4, .int (nI (3 * j))), (3, .ref ((eG E).2.1 102)), (2, .ref ((eG E).2.1 101)), (1, .ref ((eG E).2.1 100)), (0, .ref b)] rfl ?_
  exact kk _ _ _ _ _ _ (RR_send R hcs)
set_option maxHeartbeats 4000000 in
set_option maxRecDepth 100000 in
theorem lc_sendX {E : gE} {k n b L j : Nat} {xs : Nat → Int32} {σ : gS} {τ : gT} {o : gO} {nw nl lm : Nat} {z : Int32} (A : gW E k n b L j xs) (R : RR σ τ nw nl lm) (hz : z < 0 ∨ ¬ z < 4) (e1 : xs (3 * j + 1) = z) (kk : gK0 E k n b j) : G E k n 758 (LV E b j) [] σ τ o := by
  obtain ⟨C, X, hN, hj, hL, hF, hLo, hk, hn⟩ := A
  have hl : (eL E).stackTraces = false := C.2.2.2.2.2.2.2.2.2
  have hIM : IM σ τ nw nl lm := RR_IM R
  have hnw := Iv_nw R.1
  have hnl := Iv_nl R.1
  have h3 : σ 3 = nI nw := Iv_h3 R.1
  have h9 : σ 9 = nI nl := Iv_h9 R.1
  obtain ⟨I, hb35, s1, s2, s3, s4, s5, s6, s7, t1, t2, t3, t4, t5, hz9⟩ := id R
  show G E k n 758 [(4, .int (nI (3 * j))), (3, .ref ((eG E).2.1 102)), (2, .ref ((eG E).2.1 101)), (1, .ref ((eG E).2.1 100)), (0, .ref b)] [] σ τ o
  refine g_aload_n C dL_law_758 rfl rfl ?_
  refine g_aload_n C dL_law_759 rfl rfl ?_
  refine g_iload C dL_law_760 rfl ?_
  refine g_iconst (v := 1) C dL_law_762 (by decide) ?_
  refine g_iadd C dL_law_763 ?_
  refine g_sld C X (3 * j + 1) dL_law_764 (nI_1 _) (by omega) hL e1 ?_
  refine g_aload_n C dL_law_765 rfl rfl ?_
  refine g_callLE (na := 3) C hN dL_law_766 (h_sendX hl (eG E) σ τ o z hz) gL_law_L_send rfl rfl (by decide +kernel) rfl (Nat.le_of_ble_eq_true rfl) (by first | exact ⟨Nat.le_trans (by decide) hF, Nat.le_trans (by decide) hLo⟩) (by omega) ?_
  refine g_istore C [(5, _), (4, _), (3, _), (2, _), (1, _), (0, _)] dL_law_769 (by decide) rfl ?_
  refine g_aload_n C dL_law_771 rfl rfl ?_
  refine g_aload_n C dL_law_772 rfl rfl ?_
  refine g_iload C dL_law_773 rfl ?_
  refine g_iconst (v := 1) C dL_law_775 (by decide) ?_
  refine g_iadd C dL_law_776 ?_
  refine g_sld C X (3 * j + 1) dL_law_777 (nI_1 _) (by omega) hL e1 ?_
  refine g_callVEi (Cl := RX1) (T := TX1) (N := 16) (ci := 1) (q0 := 12) (na := 1) C dL_law_778 (m_sendX hl (eG E) _ _ _ z hz) gL_law_X1_send rfl rfl (by decide +kernel) rfl rfl rfl (Nat.le_of_ble_eq_true rfl) (by first | exact ⟨Nat.le_trans (by decide) hF, Nat.le_trans (by decide) hLo⟩) (by omega) ?_
  refine g_istore C [(6, _), (5, _), (4, _), (3, _), (2, _), (1, _), (0, _)] dL_law_781 (by decide) rfl ?_
  refine g_aload_n C dL_law_783 rfl rfl ?_
  refine g_callVEi (Cl := RX1) (T := TX1) (N := 16) (ci := 1) (q0 := 12) (na := 0) C dL_law_784 (m_thrown hl (eG E) _ _ _) gL_law_X1_thrown rfl rfl (by decide +kernel) rfl rfl rfl (Nat.le_of_ble_eq_true rfl) (by first | exact ⟨Nat.le_trans (by decide) hF, Nat.le_trans (by decide) hLo⟩) (by omega) ?_
  refine g_topi (show _ = (1 : Int32) from rfl) ?_
  refine g_iload C dL_law_787 rfl ?_
  refine g_icmp_eq (tgt := 794) C dL_law_789 (by decide) (fun c_789 => ?_) (fun c_789 => absurd rfl c_789)
  refine g_iload C dL_law_794 rfl ?_
  refine g_if_ne (tgt := 811) C dL_law_796 (by decide) (fun c_796 => ?_) (fun c_796 => absurd c_796 (by decide))
  refine g_goto (tgt := 1650) C dL_law_811 (by decide) ?_
  refine g_wide (k + 1) (n + 10) (by omega) (by omega) ?_
  refine g_lv [2, 3, 4, 5, 6] [(4, .int (nI (3 * j))), (3, .ref ((eG E).2.1 102)), (2, .ref ((eG E).2.1 101)), (1, .ref ((eG E).2.1 100)), (0, .ref b)] rfl ?_
  exact kk _ _ _ _ _ _ (RR_20 (RR_20 R 0) 1)
set_option maxHeartbeats 4000000 in
set_option maxRecDepth 100000 in
theorem lc_sendY {E : gE} {k n b L j : Nat} {xs : Nat → Int32} {σ : gS} {τ : gT} {o : gO} {nw nl lm : Nat} {z : Int32} (A : gW E k n b L j xs) (R : RR σ τ nw nl lm) (hz : ¬ z < 0 ∧ z < 4) (h0 : nl = 0) (e1 : xs (3 * j + 1) = z) (kk : gK0 E k n b j) : G E k n 758 (LV E b j) [] σ τ o := by
  obtain ⟨C, X, hN, hj, hL, hF, hLo, hk, hn⟩ := A
  have hl : (eL E).stackTraces = false := C.2.2.2.2.2.2.2.2.2
  have hIM : IM σ τ nw nl lm := RR_IM R
  have hnw := Iv_nw R.1
  have hnl := Iv_nl R.1
  have h3 : σ 3 = nI nw := Iv_h3 R.1
  have h9 : σ 9 = nI nl := Iv_h9 R.1
  obtain ⟨I, hb35, s1, s2, s3, s4, s5, s6, s7, t1, t2, t3, t4, t5, hz9⟩ := id R
  show G E k n 758 [(4, .int (nI (3 * j))), (3, .ref ((eG E).2.1 102)), (2, .ref ((eG E).2.1 101)), (1, .ref ((eG E).2.1 100)), (0, .ref b)] [] σ τ o
  refine g_aload_n C dL_law_758 rfl rfl ?_
  refine g_aload_n C dL_law_759 rfl rfl ?_
  refine g_iload C dL_law_760 rfl ?_
  refine g_iconst (v := 1) C dL_law_762 (by decide) ?_
  refine g_iadd C dL_law_763 ?_
  refine g_sld C X (3 * j + 1) dL_law_764 (nI_1 _) (by omega) hL e1 ?_
  refine g_aload_n C dL_law_765 rfl rfl ?_
  refine g_callLE (na := 3) C hN dL_law_766 (h_sendY hl (eG E) σ τ o nw nl lm z I hz h0) gL_law_L_send rfl rfl (by decide +kernel) rfl (Nat.le_of_ble_eq_true rfl) (by first | exact ⟨Nat.le_trans (by decide) hF, Nat.le_trans (by decide) hLo⟩) (by omega) ?_
  refine g_istore C [(5, _), (4, _), (3, _), (2, _), (1, _), (0, _)] dL_law_769 (by decide) rfl ?_
  refine g_aload_n C dL_law_771 rfl rfl ?_
  refine g_aload_n C dL_law_772 rfl rfl ?_
  refine g_iload C dL_law_773 rfl ?_
  refine g_iconst (v := 1) C dL_law_775 (by decide) ?_
  refine g_iadd C dL_law_776 ?_
  refine g_sld C X (3 * j + 1) dL_law_777 (nI_1 _) (by omega) hL e1 ?_
  refine g_callVEi (Cl := RX1) (T := TX1) (N := 16) (ci := 1) (q0 := 12) (na := 1) C dL_law_778 (m_sendY hl (eG E) _ _ _ nw nl lm z (RR_IM R) hz h0) gL_law_X1_send rfl rfl (by decide +kernel) rfl rfl rfl (Nat.le_of_ble_eq_true rfl) (by first | exact ⟨Nat.le_trans (by decide) hF, Nat.le_trans (by decide) hLo⟩) (by omega) ?_
  refine g_istore C [(6, _), (5, _), (4, _), (3, _), (2, _), (1, _), (0, _)] dL_law_781 (by decide) rfl ?_
  refine g_aload_n C dL_law_783 rfl rfl ?_
  refine g_callVEi (Cl := RX1) (T := TX1) (N := 16) (ci := 1) (q0 := 12) (na := 0) C dL_law_784 (m_thrown hl (eG E) _ _ _) gL_law_X1_thrown rfl rfl (by decide +kernel) rfl rfl rfl (Nat.le_of_ble_eq_true rfl) (by first | exact ⟨Nat.le_trans (by decide) hF, Nat.le_trans (by decide) hLo⟩) (by omega) ?_
  refine g_topi (show _ = (2 : Int32) from rfl) ?_
  refine g_iload C dL_law_787 rfl ?_
  refine g_icmp_eq (tgt := 794) C dL_law_789 (by decide) (fun c_789 => ?_) (fun c_789 => absurd rfl c_789)
  refine g_iload C dL_law_794 rfl ?_
  refine g_if_ne (tgt := 811) C dL_law_796 (by decide) (fun c_796 => ?_) (fun c_796 => absurd c_796 (by decide))
  refine g_goto (tgt := 1650) C dL_law_811 (by decide) ?_
  refine g_wide (k + 1) (n + 10) (by omega) (by omega) ?_
  refine g_lv [2, 3, 4, 5, 6] [(4, .int (nI (3 * j))), (3, .ref ((eG E).2.1 102)), (2, .ref ((eG E).2.1 101)), (1, .ref ((eG E).2.1 100)), (0, .ref b)] rfl ?_
  exact kk _ _ _ _ _ _ (RR_20 (RR_20 R 0) 2)
