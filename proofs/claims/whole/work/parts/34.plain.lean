set_option maxHeartbeats 800000 in
set_option maxRecDepth 100000 in
theorem lc_words {E : gE} {k n b L j : Nat} {xs : Nat → Int32} {σ : gS} {τ : gT} {o : gO} {nw nl lm : Nat} (A : gW E k n b L j xs) (R : RR σ τ nw nl lm) (kk : gK0 E k n b j) : G E k n 814 (LV E b j) [] σ τ o := by
  obtain ⟨C, X, hN, hj, hL, hF, hLo, hk, hn⟩ := A
  have hl : (eL E).stackTraces = false := C.2.2.2.2.2.2.2.2.2
  have hIM : IM σ τ nw nl lm := RR_IM R
  have hnw := Iv_nw R.1
  have hnl := Iv_nl R.1
  have h3 : σ 3 = nI nw := Iv_h3 R.1
  have h9 : σ 9 = nI nl := Iv_h9 R.1
  obtain ⟨I, hb35, s1, s2, s3, s4, s5, s6, s7, t1, t2, t3, t4, t5, hz9⟩ := id R
  show G E k n 814 [(4, .int (nI (3 * j))), (3, .ref ((eG E).2.1 102)), (2, .ref ((eG E).2.1 101)), (1, .ref ((eG E).2.1 100)), (0, .ref b)] [] σ τ o
  refine g_aload_n C dL_law_814 rfl rfl ?_
  refine g_callVEi (Cl := RX0) (T := TX0) (N := 18) (ci := 0) (q0 := 0) (na := 0) C dL_law_815 (c_words hl (eG E) σ τ o ) gL_law_X0_words rfl rfl (by decide +kernel) rfl rfl rfl (Nat.le_of_ble_eq_true rfl) (by first | exact ⟨Nat.le_trans (by decide) hF, Nat.le_trans (by decide) hLo⟩) (by omega) ?_
  refine g_aload_n C dL_law_818 rfl rfl ?_
  refine g_callVEi (Cl := RX1) (T := TX1) (N := 16) (ci := 1) (q0 := 12) (na := 0) C dL_law_819 (m_words hl (eG E) _ _ _ ) gL_law_X1_words rfl rfl (by decide +kernel) rfl rfl rfl (Nat.le_of_ble_eq_true rfl) (by first | exact ⟨Nat.le_trans (by decide) hF, Nat.le_trans (by decide) hLo⟩) (by omega) ?_
  refine g_icmp_eq (tgt := 1650) C dL_law_822 (by decide) (fun c_822 => ?_) (fun c_822 => absurd (show σ 3 = σ 21 from s1.symm) c_822)
  refine g_wide (k + 1) (n + 10) (by omega) (by omega) ?_
  refine g_lv [0, 1, 2, 3, 4] [(4, .int (nI (3 * j))), (3, .ref ((eG E).2.1 102)), (2, .ref ((eG E).2.1 101)), (1, .ref ((eG E).2.1 100)), (0, .ref b)] rfl ?_
  exact kk _ _ _ _ _ _ (RR_20 R 0)
set_option maxHeartbeats 800000 in
set_option maxRecDepth 100000 in
theorem lc_limit {E : gE} {k n b L j : Nat} {xs : Nat → Int32} {σ : gS} {τ : gT} {o : gO} {nw nl lm : Nat} (A : gW E k n b L j xs) (R : RR σ τ nw nl lm) (kk : gK0 E k n b j) : G E k n 1145 (LV E b j) [] σ τ o := by
  obtain ⟨C, X, hN, hj, hL, hF, hLo, hk, hn⟩ := A
  have hl : (eL E).stackTraces = false := C.2.2.2.2.2.2.2.2.2
  have hIM : IM σ τ nw nl lm := RR_IM R
  have hnw := Iv_nw R.1
  have hnl := Iv_nl R.1
  have h3 : σ 3 = nI nw := Iv_h3 R.1
  have h9 : σ 9 = nI nl := Iv_h9 R.1
  obtain ⟨I, hb35, s1, s2, s3, s4, s5, s6, s7, t1, t2, t3, t4, t5, hz9⟩ := id R
  show G E k n 1145 [(4, .int (nI (3 * j))), (3, .ref ((eG E).2.1 102)), (2, .ref ((eG E).2.1 101)), (1, .ref ((eG E).2.1 100)), (0, .ref b)] [] σ τ o
  refine g_aload_n C dL_law_1145 rfl rfl ?_
  refine g_callVEi (Cl := RX0) (T := TX0) (N := 18) (ci := 0) (q0 := 0) (na := 0) C dL_law_1146 (c_limit hl (eG E) σ τ o ) gL_law_X0_limit rfl rfl (by decide +kernel) rfl rfl rfl (Nat.le_of_ble_eq_true rfl) (by first | exact ⟨Nat.le_trans (by decide) hF, Nat.le_trans (by decide) hLo⟩) (by omega) ?_
  refine g_aload_n C dL_law_1149 rfl rfl ?_
  refine g_callVEi (Cl := RX1) (T := TX1) (N := 16) (ci := 1) (q0 := 12) (na := 0) C dL_law_1150 (m_limit hl (eG E) _ _ _ ) gL_law_X1_limit rfl rfl (by decide +kernel) rfl rfl rfl (Nat.le_of_ble_eq_true rfl) (by first | exact ⟨Nat.le_trans (by decide) hF, Nat.le_trans (by decide) hLo⟩) (by omega) ?_
  refine g_icmp_eq (tgt := 1650) C dL_law_1153 (by decide) (fun c_1153 => ?_) (fun c_1153 => absurd (show σ 4 = σ 22 from s2.symm) c_1153)
  refine g_wide (k + 1) (n + 10) (by omega) (by omega) ?_
  refine g_lv [0, 1, 2, 3, 4] [(4, .int (nI (3 * j))), (3, .ref ((eG E).2.1 102)), (2, .ref ((eG E).2.1 101)), (1, .ref ((eG E).2.1 100)), (0, .ref b)] rfl ?_
  exact kk _ _ _ _ _ _ (RR_20 R 0)
set_option maxHeartbeats 800000 in
set_option maxRecDepth 100000 in
theorem lc_leastCount {E : gE} {k n b L j : Nat} {xs : Nat → Int32} {σ : gS} {τ : gT} {o : gO} {nw nl lm : Nat} (A : gW E k n b L j xs) (R : RR σ τ nw nl lm) (kk : gK0 E k n b j) : G E k n 1158 (LV E b j) [] σ τ o := by
  obtain ⟨C, X, hN, hj, hL, hF, hLo, hk, hn⟩ := A
  have hl : (eL E).stackTraces = false := C.2.2.2.2.2.2.2.2.2
  have hIM : IM σ τ nw nl lm := RR_IM R
  have hnw := Iv_nw R.1
  have hnl := Iv_nl R.1
  have h3 : σ 3 = nI nw := Iv_h3 R.1
  have h9 : σ 9 = nI nl := Iv_h9 R.1
  obtain ⟨I, hb35, s1, s2, s3, s4, s5, s6, s7, t1, t2, t3, t4, t5, hz9⟩ := id R
  show G E k n 1158 [(4, .int (nI (3 * j))), (3, .ref ((eG E).2.1 102)), (2, .ref ((eG E).2.1 101)), (1, .ref ((eG E).2.1 100)), (0, .ref b)] [] σ τ o
  refine g_aload_n C dL_law_1158 rfl rfl ?_
  refine g_callVEi (Cl := RX0) (T := TX0) (N := 18) (ci := 0) (q0 := 0) (na := 0) C dL_law_1159 (c_leastCount hl (eG E) σ τ o ) gL_law_X0_leastCount rfl rfl (by decide +kernel) rfl rfl rfl (Nat.le_of_ble_eq_true rfl) (by first | exact ⟨Nat.le_trans (by decide) hF, Nat.le_trans (by decide) hLo⟩) (by omega) ?_
  refine g_aload_n C dL_law_1162 rfl rfl ?_
  refine g_callVEi (Cl := RX1) (T := TX1) (N := 16) (ci := 1) (q0 := 12) (na := 0) C dL_law_1163 (m_leastCount hl (eG E) _ _ _ ) gL_law_X1_leastCount rfl rfl (by decide +kernel) rfl rfl rfl (Nat.le_of_ble_eq_true rfl) (by first | exact ⟨Nat.le_trans (by decide) hF, Nat.le_trans (by decide) hLo⟩) (by omega) ?_
  refine g_icmp_eq (tgt := 1650) C dL_law_1166 (by decide) (fun c_1166 => ?_) (fun c_1166 => absurd (show σ 5 = σ 23 from s3.symm) c_1166)
  refine g_wide (k + 1) (n + 10) (by omega) (by omega) ?_
  refine g_lv [0, 1, 2, 3, 4] [(4, .int (nI (3 * j))), (3, .ref ((eG E).2.1 102)), (2, .ref ((eG E).2.1 101)), (1, .ref ((eG E).2.1 100)), (0, .ref b)] rfl ?_
  exact kk _ _ _ _ _ _ (RR_20 R 0)
set_option maxHeartbeats 800000 in
set_option maxRecDepth 100000 in
theorem lc_coins {E : gE} {k n b L j : Nat} {xs : Nat → Int32} {σ : gS} {τ : gT} {o : gO} {nw nl lm : Nat} (A : gW E k n b L j xs) (R : RR σ τ nw nl lm) (kk : gK0 E k n b j) : G E k n 1171 (LV E b j) [] σ τ o := by
  obtain ⟨C, X, hN, hj, hL, hF, hLo, hk, hn⟩ := A
  have hl : (eL E).stackTraces = false := C.2.2.2.2.2.2.2.2.2
  have hIM : IM σ τ nw nl lm := RR_IM R
  have hnw := Iv_nw R.1
  have hnl := Iv_nl R.1
  have h3 : σ 3 = nI nw := Iv_h3 R.1
  have h9 : σ 9 = nI nl := Iv_h9 R.1
  obtain ⟨I, hb35, s1, s2, s3, s4, s5, s6, s7, t1, t2, t3, t4, t5, hz9⟩ := id R
  show G E k n 1171 [(4, .int (nI (3 * j))), (3, .ref ((eG E).2.1 102)), (2, .ref ((eG E).2.1 101)), (1, .ref ((eG E).2.1 100)), (0, .ref b)] [] σ τ o
  refine g_aload_n C dL_law_1171 rfl rfl ?_
  refine g_callVEi (Cl := RX0) (T := TX0) (N := 18) (ci := 0) (q0 := 0) (na := 0) C dL_law_1172 (c_coins hl (eG E) σ τ o ) gL_law_X0_coins rfl rfl (by decide +kernel) rfl rfl rfl (Nat.le_of_ble_eq_true rfl) (by first | exact ⟨Nat.le_trans (by decide) hF, Nat.le_trans (by decide) hLo⟩) (by omega) ?_
  refine g_aload_n C dL_law_1175 rfl rfl ?_
  refine g_callVEi (Cl := RX1) (T := TX1) (N := 16) (ci := 1) (q0 := 12) (na := 0) C dL_law_1176 (m_coins hl (eG E) _ _ _ ) gL_law_X1_coins rfl rfl (by decide +kernel) rfl rfl rfl (Nat.le_of_ble_eq_true rfl) (by first | exact ⟨Nat.le_trans (by decide) hF, Nat.le_trans (by decide) hLo⟩) (by omega) ?_
  refine g_icmp_eq (tgt := 1650) C dL_law_1179 (by decide) (fun c_1179 => ?_) (fun c_1179 => absurd (show σ 6 = σ 24 from s4.symm) c_1179)
  refine g_wide (k + 1) (n + 10) (by omega) (by omega) ?_
  refine g_lv [0, 1, 2, 3, 4] [(4, .int (nI (3 * j))), (3, .ref ((eG E).2.1 102)), (2, .ref ((eG E).2.1 101)), (1, .ref ((eG E).2.1 100)), (0, .ref b)] rfl ?_
  exact kk _ _ _ _ _ _ (RR_20 R 0)
set_option maxHeartbeats 800000 in
set_option maxRecDepth 100000 in
theorem lc_length {E : gE} {k n b L j : Nat} {xs : Nat → Int32} {σ : gS} {τ : gT} {o : gO} {nw nl lm : Nat} (A : gW E k n b L j xs) (R : RR σ τ nw nl lm) (kk : gK0 E k n b j) : G E k n 1184 (LV E b j) [] σ τ o := by
  obtain ⟨C, X, hN, hj, hL, hF, hLo, hk, hn⟩ := A
  have hl : (eL E).stackTraces = false := C.2.2.2.2.2.2.2.2.2
  have hIM : IM σ τ nw nl lm := RR_IM R
  have hnw := Iv_nw R.1
  have hnl := Iv_nl R.1
  have h3 : σ 3 = nI nw := Iv_h3 R.1
  have h9 : σ 9 = nI nl := Iv_h9 R.1
  obtain ⟨I, hb35, s1, s2, s3, s4, s5, s6, s7, t1, t2, t3, t4, t5, hz9⟩ := id R
  show G E k n 1184 [(4, .int (nI (3 * j))), (3, .ref ((eG E).2.1 102)), (2, .ref ((eG E).2.1 101)), (1, .ref ((eG E).2.1 100)), (0, .ref b)] [] σ τ o
  refine g_aload_n C dL_law_1184 rfl rfl ?_
  refine g_callVEi (Cl := RX0) (T := TX0) (N := 18) (ci := 0) (q0 := 0) (na := 0) C dL_law_1185 (c_length hl (eG E) σ τ o ) gL_law_X0_length rfl rfl (by decide +kernel) rfl rfl rfl (Nat.le_of_ble_eq_true rfl) (by first | exact ⟨Nat.le_trans (by decide) hF, Nat.le_trans (by decide) hLo⟩) (by omega) ?_
  refine g_aload_n C dL_law_1188 rfl rfl ?_
  refine g_callVEi (Cl := RX1) (T := TX1) (N := 16) (ci := 1) (q0 := 12) (na := 0) C dL_law_1189 (m_length hl (eG E) _ _ _ ) gL_law_X1_length rfl rfl (by decide +kernel) rfl rfl rfl (Nat.le_of_ble_eq_true rfl) (by first | exact ⟨Nat.le_trans (by decide) hF, Nat.le_trans (by decide) hLo⟩) (by omega) ?_
  refine g_icmp_eq (tgt := 1650) C dL_law_1192 (by decide) (fun c_1192 => ?_) (fun c_1192 => absurd (show σ 9 = σ 30 from s5.symm) c_1192)
  refine g_wide (k + 1) (n + 10) (by omega) (by omega) ?_
  refine g_lv [0, 1, 2, 3, 4] [(4, .int (nI (3 * j))), (3, .ref ((eG E).2.1 102)), (2, .ref ((eG E).2.1 101)), (1, .ref ((eG E).2.1 100)), (0, .ref b)] rfl ?_
  exact kk _ _ _ _ _ _ (RR_20 R 0)
set_option maxHeartbeats 800000 in
set_option maxRecDepth 100000 in
theorem lc_sent {E : gE} {k n b L j : Nat} {xs : Nat → Int32} {σ : gS} {τ : gT} {o : gO} {nw nl lm : Nat} (A : gW E k n b L j xs) (R : RR σ τ nw nl lm) (kk : gK0 E k n b j) : G E k n 1398 (LV E b j) [] σ τ o := by
  obtain ⟨C, X, hN, hj, hL, hF, hLo, hk, hn⟩ := A
  have hl : (eL E).stackTraces = false := C.2.2.2.2.2.2.2.2.2
  have hIM : IM σ τ nw nl lm := RR_IM R
  have hnw := Iv_nw R.1
  have hnl := Iv_nl R.1
  have h3 : σ 3 = nI nw := Iv_h3 R.1
  have h9 : σ 9 = nI nl := Iv_h9 R.1
  obtain ⟨I, hb35, s1, s2, s3, s4, s5, s6, s7, t1, t2, t3, t4, t5, hz9⟩ := id R
  show G E k n 1398 [(4, .int (nI (3 * j))), (3, .ref ((eG E).2.1 102)), (2, .ref ((eG E).2.1 101)), (1, .ref ((eG E).2.1 100)), (0, .ref b)] [] σ τ o
  refine g_aload_n C dL_law_1398 rfl rfl ?_
  refine g_callVEi (Cl := RX0) (T := TX0) (N := 18) (ci := 0) (q0 := 0) (na := 0) C dL_law_1399 (c_sent hl (eG E) σ τ o ) gL_law_X0_sent rfl rfl (by decide +kernel) rfl rfl rfl (Nat.le_of_ble_eq_true rfl) (by first | exact ⟨Nat.le_trans (by decide) hF, Nat.le_trans (by decide) hLo⟩) (by omega) ?_
  refine g_aload_n C dL_law_1402 rfl rfl ?_
  refine g_callVEi (Cl := RX1) (T := TX1) (N := 16) (ci := 1) (q0 := 12) (na := 0) C dL_law_1403 (m_sent hl (eG E) _ _ _ ) gL_law_X1_sent rfl rfl (by decide +kernel) rfl rfl rfl (Nat.le_of_ble_eq_true rfl) (by first | exact ⟨Nat.le_trans (by decide) hF, Nat.le_trans (by decide) hLo⟩) (by omega) ?_
  refine g_icmp_eq (tgt := 1650) C dL_law_1406 (by decide) (fun c_1406 => ?_) (fun c_1406 => absurd (show σ 10 = σ 25 from s6.symm) c_1406)
  refine g_wide (k + 1) (n + 10) (by omega) (by omega) ?_
  refine g_lv [0, 1, 2, 3, 4] [(4, .int (nI (3 * j))), (3, .ref ((eG E).2.1 102)), (2, .ref ((eG E).2.1 101)), (1, .ref ((eG E).2.1 100)), (0, .ref b)] rfl ?_
  exact kk _ _ _ _ _ _ (RR_20 R 0)
set_option maxHeartbeats 800000 in
set_option maxRecDepth 100000 in
theorem lc_earned {E : gE} {k n b L j : Nat} {xs : Nat → Int32} {σ : gS} {τ : gT} {o : gO} {nw nl lm : Nat} (A : gW E k n b L j xs) (R : RR σ τ nw nl lm) (kk : gK0 E k n b j) : G E k n 1411 (LV E b j) [] σ τ o := by
  obtain ⟨C, X, hN, hj, hL, hF, hLo, hk, hn⟩ := A
  have hl : (eL E).stackTraces = false := C.2.2.2.2.2.2.2.2.2
  have hIM : IM σ τ nw nl lm := RR_IM R
  have hnw := Iv_nw R.1
  have hnl := Iv_nl R.1
  have h3 : σ 3 = nI nw := Iv_h3 R.1
  have h9 : σ 9 = nI nl := Iv_h9 R.1
  obtain ⟨I, hb35, s1, s2, s3, s4, s5, s6, s7, t1, t2, t3, t4, t5, hz9⟩ := id R
  show G E k n 1411 [(4, .int (nI (3 * j))), (3, .ref ((eG E).2.1 102)), (2, .ref ((eG E).2.1 101)), (1, .ref ((eG E).2.1 100)), (0, .ref b)] [] σ τ o
  refine g_aload_n C dL_law_1411 rfl rfl ?_
  refine g_callVEi (Cl := RX0) (T := TX0) (N := 18) (ci := 0) (q0 := 0) (na := 0) C dL_law_1412 (c_earned hl (eG E) σ τ o ) gL_law_X0_earned rfl rfl (by decide +kernel) rfl rfl rfl (Nat.le_of_ble_eq_true rfl) (by first | exact ⟨Nat.le_trans (by decide) hF, Nat.le_trans (by decide) hLo⟩) (by omega) ?_
  refine g_aload_n C dL_law_1415 rfl rfl ?_
  refine g_callVEi (Cl := RX1) (T := TX1) (N := 16) (ci := 1) (q0 := 12) (na := 0) C dL_law_1416 (m_earned hl (eG E) _ _ _ ) gL_law_X1_earned rfl rfl (by decide +kernel) rfl rfl rfl (Nat.le_of_ble_eq_true rfl) (by first | exact ⟨Nat.le_trans (by decide) hF, Nat.le_trans (by decide) hLo⟩) (by omega) ?_
  refine g_icmp_eq (tgt := 1650) C dL_law_1419 (by decide) (fun c_1419 => ?_) (fun c_1419 => absurd (show σ 11 = σ 26 from s7.symm) c_1419)
  refine g_wide (k + 1) (n + 10) (by omega) (by omega) ?_
  refine g_lv [0, 1, 2, 3, 4] [(4, .int (nI (3 * j))), (3, .ref ((eG E).2.1 102)), (2, .ref ((eG E).2.1 101)), (1, .ref ((eG E).2.1 100)), (0, .ref b)] rfl ?_
  exact kk _ _ _ _ _ _ (RR_20 R 0)
set_option maxHeartbeats 800000 in
set_option maxRecDepth 100000 in
theorem lc_count {E : gE} {k n b L j : Nat} {xs : Nat → Int32} {σ : gS} {τ : gT} {o : gO} {nw nl lm : Nat} (A : gW E k n b L j xs) (R : RR σ τ nw nl lm) (kk : gK0 E k n b j) : G E k n 1316 (LV E b j) [] σ τ o := by
  obtain ⟨C, X, hN, hj, hL, hF, hLo, hk, hn⟩ := A
  have hl : (eL E).stackTraces = false := C.2.2.2.2.2.2.2.2.2
  have hIM : IM σ τ nw nl lm := RR_IM R
  have hnw := Iv_nw R.1
  have hnl := Iv_nl R.1
  have h3 : σ 3 = nI nw := Iv_h3 R.1
  have h9 : σ 9 = nI nl := Iv_h9 R.1
  obtain ⟨I, hb35, s1, s2, s3, s4, s5, s6, s7, t1, t2, t3, t4, t5, hz9⟩ := id R
  show G E k n 1316 [(4, .int (nI (3 * j))), (3, .ref ((eG E).2.1 102)), (2, .ref ((eG E).2.1 101)), (1, .ref ((eG E).2.1 100)), (0, .ref b)] [] σ τ o
  refine g_aload_n C dL_law_1316 rfl rfl ?_
  refine g_callVEi (Cl := RX0) (T := TX0) (N := 18) (ci := 0) (q0 := 0) (na := 0) C dL_law_1317 (c_count hl (eG E) σ τ o nw nl lm I) gL_law_X0_count rfl rfl (by decide +kernel) rfl rfl rfl (Nat.le_of_ble_eq_true rfl) (by first | exact ⟨Nat.le_trans (by decide) hF, Nat.le_trans (by decide) hLo⟩) (by omega) ?_
  refine g_aload_n C dL_law_1320 rfl rfl ?_
  refine g_callVEi (Cl := RX1) (T := TX1) (N := 16) (ci := 1) (q0 := 12) (na := 0) C dL_law_1321 (m_count hl (eG E) _ _ _ nw nl lm (RR_IM R)) gL_law_X1_count rfl rfl (by decide +kernel) rfl rfl rfl (Nat.le_of_ble_eq_true rfl) (by first | exact ⟨Nat.le_trans (by decide) hF, Nat.le_trans (by decide) hLo⟩) (by omega) ?_
  refine g_icmp_eq (tgt := 1650) C dL_law_1324 (by decide) (fun c_1324 => ?_) (fun c_1324 => absurd (show CTx σ τ nl = CTm σ τ nl from (RR_CT R).symm) c_1324)
  refine g_wide (k + 1) (n + 10) (by omega) (by omega) ?_
  refine g_lv [0, 1, 2, 3, 4] [(4, .int (nI (3 * j))), (3, .ref ((eG E).2.1 102)), (2, .ref ((eG E).2.1 101)), (1, .ref ((eG E).2.1 100)), (0, .ref b)] rfl ?_
  exact kk _ _ _ _ _ _ (RR_20 R 0)
set_option maxHeartbeats 800000 in
set_option maxRecDepth 100000 in
theorem lc_price {E : gE} {k n b L j : Nat} {xs : Nat → Int32} {σ : gS} {τ : gT} {o : gO} {nw nl lm : Nat} (A : gW E k n b L j xs) (R : RR σ τ nw nl lm) (kk : gK0 E k n b j) : G E k n 1329 (LV E b j) [] σ τ o := by
  obtain ⟨C, X, hN, hj, hL, hF, hLo, hk, hn⟩ := A
  have hl : (eL E).stackTraces = false := C.2.2.2.2.2.2.2.2.2
  have hIM : IM σ τ nw nl lm := RR_IM R
  have hnw := Iv_nw R.1
  have hnl := Iv_nl R.1
  have h3 : σ 3 = nI nw := Iv_h3 R.1
  have h9 : σ 9 = nI nl := Iv_h9 R.1
  obtain ⟨I, hb35, s1, s2, s3, s4, s5, s6, s7, t1, t2, t3, t4, t5, hz9⟩ := id R
  show G E k n 1329 [(4, .int (nI (3 * j))), (3, .ref ((eG E).2.1 102)), (2, .ref ((eG E).2.1 101)), (1, .ref ((eG E).2.1 100)), (0, .ref b)] [] σ τ o
  refine g_aload_n C dL_law_1329 rfl rfl ?_
  refine g_callVEi (Cl := RX0) (T := TX0) (N := 18) (ci := 0) (q0 := 0) (na := 0) C dL_law_1330 (c_price hl (eG E) σ τ o nw nl lm I) gL_law_X0_price rfl rfl (by decide +kernel) rfl rfl rfl (Nat.le_of_ble_eq_true rfl) (by first | exact ⟨Nat.le_trans (by decide) hF, Nat.le_trans (by decide) hLo⟩) (by omega) ?_
  refine g_aload_n C dL_law_1333 rfl rfl ?_
  refine g_callVEi (Cl := RX1) (T := TX1) (N := 16) (ci := 1) (q0 := 12) (na := 0) C dL_law_1334 (m_price hl (eG E) _ _ _ nw nl lm (RR_IM R)) gL_law_X1_price rfl rfl (by decide +kernel) rfl rfl rfl (Nat.le_of_ble_eq_true rfl) (by first | exact ⟨Nat.le_trans (by decide) hF, Nat.le_trans (by decide) hLo⟩) (by omega) ?_
  refine g_icmp_eq (tgt := 1650) C dL_law_1337 (by decide) (fun c_1337 => ?_) (fun c_1337 => absurd (show CTx σ τ nl * σ 6 = CTm σ τ nl * σ 24 from by rw [RR_CT R, s4]) c_1337)
  refine g_wide (k + 1) (n + 10) (by omega) (by omega) ?_
  refine g_lv [0, 1, 2, 3, 4] [(4, .int (nI (3 * j))), (3, .ref ((eG E).2.1 102)), (2, .ref ((eG E).2.1 101)), (1, .ref ((eG E).2.1 100)), (0, .ref b)] rfl ?_
  exact kk _ _ _ _ _ _ (RR_20 R 0)
set_option maxHeartbeats 800000 in
set_option maxRecDepth 100000 in
theorem lc_cheapestCount {E : gE} {k n b L j : Nat} {xs : Nat → Int32} {σ : gS} {τ : gT} {o : gO} {nw nl lm : Nat} (A : gW E k n b L j xs) (R : RR σ τ nw nl lm) (kk : gK0 E k n b j) : G E k n 1424 (LV E b j) [] σ τ o := by
  obtain ⟨C, X, hN, hj, hL, hF, hLo, hk, hn⟩ := A
  have hl : (eL E).stackTraces = false := C.2.2.2.2.2.2.2.2.2
  have hIM : IM σ τ nw nl lm := RR_IM R
  have hnw := Iv_nw R.1
  have hnl := Iv_nl R.1
  have h3 : σ 3 = nI nw := Iv_h3 R.1
  have h9 : σ 9 = nI nl := Iv_h9 R.1
  obtain ⟨I, hb35, s1, s2, s3, s4, s5, s6, s7, t1, t2, t3, t4, t5, hz9⟩ := id R
  show G E k n 1424 [(4, .int (nI (3 * j))), (3, .ref ((eG E).2.1 102)), (2, .ref ((eG E).2.1 101)), (1, .ref ((eG E).2.1 100)), (0, .ref b)] [] σ τ o
  refine g_aload_n C dL_law_1424 rfl rfl ?_
  refine g_callVi (Cl := RX0) (T := TX0) (N := 18) (ci := 0) (q0 := 0) (na := 0) C dL_law_1425 (c_cheapestCount hl (eG E) σ τ o nw nl lm I) gL_law_X0_cheapestCount rfl rfl (by decide +kernel) rfl rfl rfl (Nat.le_of_ble_eq_true rfl) (by first | exact ⟨Nat.le_trans (by decide) hF, Nat.le_trans (by decide) hLo⟩) (by omega) noX_kx (fun r1 σ1 τ1 o1 hc => ?_)
  obtain ⟨er1, es1, eo1, hc⟩ := hc
  have es1 := es1.symm
  have eo1 := eo1.symm
  subst er1
  subst es1
  subst eo1
  have hx := x3_XS hc.1
  have R1 := RR_x3 R hc.1
  refine g_aload_n C dL_law_1428 rfl rfl ?_
  refine g_callVi (Cl := RX1) (T := TX1) (N := 16) (ci := 1) (q0 := 12) (na := 0) C dL_law_1429 (m_cheapestCount hl (eG E) _ _ _ nw nl lm (RR_IM R1)) gL_law_X1_cheapestCount rfl rfl (by decide +kernel) rfl rfl rfl (Nat.le_of_ble_eq_true rfl) (by first | exact ⟨Nat.le_trans (by decide) hF, Nat.le_trans (by decide) hLo⟩) (by omega) noX_kx (fun r2 σ2 τ2 o2 hm => ?_)
  obtain ⟨er2, es2, eo2, hm⟩ := hm
  have es2 := es2.symm
  have eo2 := eo2.symm
  subst er2
  subst es2
  subst eo2
  refine g_icmp_eq (tgt := 1650) C dL_law_1432 (by decide) (fun c_1432 => ?_) (fun c_1432 => absurd (show al nl (σ 5) (FX σ τ nw nl nl) = CCm σ τ1 nw nl from (by rw [XS_CC hx, RR_CC R]; rfl)) c_1432)
  refine g_wide (k + 1) (n + 10) (by omega) (by omega) ?_
  refine g_lv [0, 1, 2, 3, 4] [(4, .int (nI (3 * j))), (3, .ref ((eG E).2.1 102)), (2, .ref ((eG E).2.1 101)), (1, .ref ((eG E).2.1 100)), (0, .ref b)] rfl ?_
  exact kk _ _ _ _ _ _ (RR_20 (RR_m33 R1 hm) 0)
set_option maxHeartbeats 800000 in
set_option maxRecDepth 100000 in
theorem lc_saves {E : gE} {k n b L j : Nat} {xs : Nat → Int32} {σ : gS} {τ : gT} {o : gO} {nw nl lm : Nat} (A : gW E k n b L j xs) (R : RR σ τ nw nl lm) (kk : gK0 E k n b j) : G E k n 1556 (LV E b j) [] σ τ o := by
  obtain ⟨C, X, hN, hj, hL, hF, hLo, hk, hn⟩ := A
  have hl : (eL E).stackTraces = false := C.2.2.2.2.2.2.2.2.2
  have hIM : IM σ τ nw nl lm := RR_IM R
  have hnw := Iv_nw R.1
  have hnl := Iv_nl R.1
  have h3 : σ 3 = nI nw := Iv_h3 R.1
  have h9 : σ 9 = nI nl := Iv_h9 R.1
  obtain ⟨I, hb35, s1, s2, s3, s4, s5, s6, s7, t1, t2, t3, t4, t5, hz9⟩ := id R
  show G E k n 1556 [(4, .int (nI (3 * j))), (3, .ref ((eG E).2.1 102)), (2, .ref ((eG E).2.1 101)), (1, .ref ((eG E).2.1 100)), (0, .ref b)] [] σ τ o
  refine g_aload_n C dL_law_1556 rfl rfl ?_
  refine g_callVi (Cl := RX0) (T := TX0) (N := 18) (ci := 0) (q0 := 0) (na := 0) C dL_law_1557 (c_saves hl (eG E) σ τ o nw nl lm I) gL_law_X0_saves rfl rfl (by decide +kernel) rfl rfl rfl (Nat.le_of_ble_eq_true rfl) (by first | exact ⟨Nat.le_trans (by decide) hF, Nat.le_trans (by decide) hLo⟩) (by omega) noX_kx (fun r1 σ1 τ1 o1 hc => ?_)
  obtain ⟨er1, es1, eo1, hc⟩ := hc
  have es1 := es1.symm
  have eo1 := eo1.symm
  subst er1
  subst es1
  subst eo1
  have hx := x4_XS hc
  have R1 := RR_x4 R hc
  refine g_aload_n C dL_law_1560 rfl rfl ?_
  refine g_callVi (Cl := RX1) (T := TX1) (N := 16) (ci := 1) (q0 := 12) (na := 0) C dL_law_1561 (m_saves hl (eG E) _ _ _ nw nl lm (RR_IM R1)) gL_law_X1_saves rfl rfl (by decide +kernel) rfl rfl rfl (Nat.le_of_ble_eq_true rfl) (by first | exact ⟨Nat.le_trans (by decide) hF, Nat.le_trans (by decide) hLo⟩) (by omega) noX_kx (fun r2 σ2 τ2 o2 hm => ?_)
  obtain ⟨er2, es2, eo2, hm⟩ := hm
  have es2 := es2.symm
  have eo2 := eo2.symm
  subst er2
  subst es2
  subst eo2
  refine g_icmp_eq (tgt := 1650) C dL_law_1564 (by decide) (fun c_1564 => ?_) (fun c_1564 => absurd (show CTx σ τ nl * σ 6 - CC0 σ τ nw nl * σ 6 = (CTm σ τ1 nl - CCm σ τ1 nw nl) * σ 24 from (by rw [XS_CC hx, XS_CT hx]; exact (RR_sv R).symm)) c_1564)
  refine g_wide (k + 1) (n + 10) (by omega) (by omega) ?_
  refine g_lv [0, 1, 2, 3, 4] [(4, .int (nI (3 * j))), (3, .ref ((eG E).2.1 102)), (2, .ref ((eG E).2.1 101)), (1, .ref ((eG E).2.1 100)), (0, .ref b)] rfl ?_
  exact kk _ _ _ _ _ _ (RR_20 (RR_m33 R1 hm) 0)
set_option maxHeartbeats 800000 in
set_option maxRecDepth 100000 in
theorem lc_wordings {E : gE} {k n b L j : Nat} {xs : Nat → Int32} {σ : gS} {τ : gT} {o : gO} {nw nl lm : Nat} (A : gW E k n b L j xs) (R : RR σ τ nw nl lm) (kk : gK0 E k n b j) : G E k n 1569 (LV E b j) [] σ τ o := by
  obtain ⟨C, X, hN, hj, hL, hF, hLo, hk, hn⟩ := A
  have hl : (eL E).stackTraces = false := C.2.2.2.2.2.2.2.2.2
  have hIM : IM σ τ nw nl lm := RR_IM R
  have hnw := Iv_nw R.1
  have hnl := Iv_nl R.1
  have h3 : σ 3 = nI nw := Iv_h3 R.1
  have h9 : σ 9 = nI nl := Iv_h9 R.1
  obtain ⟨I, hb35, s1, s2, s3, s4, s5, s6, s7, t1, t2, t3, t4, t5, hz9⟩ := id R
  show G E k n 1569 [(4, .int (nI (3 * j))), (3, .ref ((eG E).2.1 102)), (2, .ref ((eG E).2.1 101)), (1, .ref ((eG E).2.1 100)), (0, .ref b)] [] σ τ o
  refine g_aload_n C dL_law_1569 rfl rfl ?_
  refine g_callVEi (Cl := RX0) (T := TX0) (N := 18) (ci := 0) (q0 := 0) (na := 0) C dL_law_1570 (c_wordings hl (eG E) σ τ o nw nl lm I) gL_law_X0_wordings rfl rfl (by decide +kernel) rfl rfl rfl (Nat.le_of_ble_eq_true rfl) (by first | exact ⟨Nat.le_trans (by decide) hF, Nat.le_trans (by decide) hLo⟩) (by omega) ?_
  refine g_aload_n C dL_law_1573 rfl rfl ?_
  refine g_callVEi (Cl := RX1) (T := TX1) (N := 16) (ci := 1) (q0 := 12) (na := 0) C dL_law_1574 (m_wordings hl (eG E) _ _ _ nw nl lm (RR_IM R)) gL_law_X1_wordings rfl rfl (by decide +kernel) rfl rfl rfl (Nat.le_of_ble_eq_true rfl) (by first | exact ⟨Nat.le_trans (by decide) hF, Nat.le_trans (by decide) hLo⟩) (by omega) ?_
  refine g_icmp_eq (tgt := 1650) C dL_law_1577 (by decide) (fun c_1577 => ?_) (fun c_1577 => absurd (show wo (τ 1) (τ 7) nl = wm nw (τ 28) (τ 31) nl from (RR_wo R).symm) c_1577)
  refine g_wide (k + 1) (n + 10) (by omega) (by omega) ?_
  refine g_lv [0, 1, 2, 3, 4] [(4, .int (nI (3 * j))), (3, .ref ((eG E).2.1 102)), (2, .ref ((eG E).2.1 101)), (1, .ref ((eG E).2.1 100)), (0, .ref b)] rfl ?_
  exact kk _ _ _ _ _ _ R
set_option maxHeartbeats 800000 in
set_option maxRecDepth 100000 in
theorem lc_bestJoin {E : gE} {k n b L j : Nat} {xs : Nat → Int32} {σ : gS} {τ : gT} {o : gO} {nw nl lm : Nat} (A : gW E k n b L j xs) (R : RR σ τ nw nl lm) (kk : gK0 E k n b j) : G E k n 1582 (LV E b j) [] σ τ o := by
  obtain ⟨C, X, hN, hj, hL, hF, hLo, hk, hn⟩ := A
  have hl : (eL E).stackTraces = false := C.2.2.2.2.2.2.2.2.2
  have hIM : IM σ τ nw nl lm := RR_IM R
  have hnw := Iv_nw R.1
  have hnl := Iv_nl R.1
  have h3 : σ 3 = nI nw := Iv_h3 R.1
  have h9 : σ 9 = nI nl := Iv_h9 R.1
  obtain ⟨I, hb35, s1, s2, s3, s4, s5, s6, s7, t1, t2, t3, t4, t5, hz9⟩ := id R
  show G E k n 1582 [(4, .int (nI (3 * j))), (3, .ref ((eG E).2.1 102)), (2, .ref ((eG E).2.1 101)), (1, .ref ((eG E).2.1 100)), (0, .ref b)] [] σ τ o
  refine g_aload_n C dL_law_1582 rfl rfl ?_
  refine g_callVi (Cl := RX0) (T := TX0) (N := 18) (ci := 0) (q0 := 0) (na := 0) C dL_law_1583 (c_bestJoin hl (eG E) σ τ o nw nl lm I) gL_law_X0_bestJoin rfl rfl (by decide +kernel) rfl rfl rfl (Nat.le_of_ble_eq_true rfl) (by first | exact ⟨Nat.le_trans (by decide) hF, Nat.le_trans (by decide) hLo⟩) (by omega) noX_kx (fun r1 σ1 τ1 o1 hc => ?_)
  obtain ⟨er1, es1, eo1, hc⟩ := hc
  have es1 := es1.symm
  have eo1 := eo1.symm
  subst er1
  subst es1
  subst eo1
  have hx := x4_XS hc
  have R1 := RR_x4 R hc
  refine g_aload_n C dL_law_1586 rfl rfl ?_
  refine g_callVi (Cl := RX1) (T := TX1) (N := 16) (ci := 1) (q0 := 12) (na := 0) C dL_law_1587 (m_bestJoin hl (eG E) _ _ _ nw nl lm (RR_IM R1)) gL_law_X1_bestJoin rfl rfl (by decide +kernel) rfl rfl rfl (Nat.le_of_ble_eq_true rfl) (by first | exact ⟨Nat.le_trans (by decide) hF, Nat.le_trans (by decide) hLo⟩) (by omega) noX_kx (fun r2 σ2 τ2 o2 hm => ?_)
  obtain ⟨er2, es2, eo2, hm⟩ := hm
  have es2 := es2.symm
  have eo2 := eo2.symm
  subst er2
  subst es2
  subst eo2
  refine g_icmp_eq (tgt := 1650) C dL_law_1590 (by decide) (fun c_1590 => ?_) (fun c_1590 => absurd (show (bj nw (τ 2) (CJ σ τ nw nl) (-1, CC0 σ τ nw nl) nw).1 = (bj nw (τ1 29) (CJm σ τ1 nw nl) (-1, CCm σ τ1 nw nl) nw).1 from (XS_bj R hx).symm) c_1590)
  refine g_wide (k + 1) (n + 10) (by omega) (by omega) ?_
  refine g_lv [0, 1, 2, 3, 4] [(4, .int (nI (3 * j))), (3, .ref ((eG E).2.1 102)), (2, .ref ((eG E).2.1 101)), (1, .ref ((eG E).2.1 100)), (0, .ref b)] rfl ?_
  exact kk _ _ _ _ _ _ (RR_20 (RR_m33 R1 hm) 0)
set_option maxHeartbeats 800000 in
set_option maxRecDepth 100000 in
theorem lc_reword {E : gE} {k n b L j : Nat} {xs : Nat → Int32} {σ : gS} {τ : gT} {o : gO} {nw nl lm : Nat} (A : gW E k n b L j xs) (R : RR σ τ nw nl lm) (kk : gK0 E k n b j) : G E k n 745 (LV E b j) [] σ τ o := by
  obtain ⟨C, X, hN, hj, hL, hF, hLo, hk, hn⟩ := A
  have hl : (eL E).stackTraces = false := C.2.2.2.2.2.2.2.2.2
  have hIM : IM σ τ nw nl lm := RR_IM R
  have hnw := Iv_nw R.1
  have hnl := Iv_nl R.1
  have h3 : σ 3 = nI nw := Iv_h3 R.1
  have h9 : σ 9 = nI nl := Iv_h9 R.1
  obtain ⟨I, hb35, s1, s2, s3, s4, s5, s6, s7, t1, t2, t3, t4, t5, hz9⟩ := id R
  show G E k n 745 [(4, .int (nI (3 * j))), (3, .ref ((eG E).2.1 102)), (2, .ref ((eG E).2.1 101)), (1, .ref ((eG E).2.1 100)), (0, .ref b)] [] σ τ o
  refine g_aload_n C dL_law_745 rfl rfl ?_
  refine g_callVi (Cl := RX0) (T := TX0) (N := 18) (ci := 0) (q0 := 0) (na := 0) C dL_law_746 (c_reword hl (eG E) σ τ o nw nl lm I) gL_law_X0_reword rfl rfl (by decide +kernel) rfl rfl rfl (Nat.le_of_ble_eq_true rfl) (by first | exact ⟨Nat.le_trans (by decide) hF, Nat.le_trans (by decide) hLo⟩) (by omega) noX_kx (fun r1 σ1 τ1 o1 hc => ?_)
  obtain ⟨er1, es1, eo1, hc⟩ := hc
  have es1 := es1.symm
  have eo1 := eo1.symm
  subst er1
  subst es1
  subst eo1
  refine g_aload_n C dL_law_749 rfl rfl ?_
  refine g_callVi (Cl := RX1) (T := TX1) (N := 16) (ci := 1) (q0 := 12) (na := 0) C dL_law_750 (m_reword hl (eG E) _ _ _ nw nl lm (IM_rw R hc)) gL_law_X1_reword rfl rfl (by decide +kernel) rfl rfl rfl (Nat.le_of_ble_eq_true rfl) (by first | exact ⟨Nat.le_trans (by decide) hF, Nat.le_trans (by decide) hLo⟩) (by omega) noX_kx (fun r2 σ2 τ2 o2 hm => ?_)
  obtain ⟨er2, es2, eo2, hm⟩ := hm
  have es2 := es2.symm
  have eo2 := eo2.symm
  subst er2
  subst es2
  subst eo2
  refine g_icmp_eq (tgt := 1650) C dL_law_753 (by decide) (fun c_753 => ?_) (fun c_753 => absurd (show CTx σ τ nl - CTx σ τ1 nl = CTm σ τ1 nl - CTm σ τ2 nl from (RR_rw R hc hm).2) c_753)
  refine g_wide (k + 1) (n + 10) (by omega) (by omega) ?_
  refine g_lv [0, 1, 2, 3, 4] [(4, .int (nI (3 * j))), (3, .ref ((eG E).2.1 102)), (2, .ref ((eG E).2.1 101)), (1, .ref ((eG E).2.1 100)), (0, .ref b)] rfl ?_
  exact kk _ _ _ _ _ _ (RR_rw R hc hm).1
set_option maxHeartbeats 800000 in
set_option maxRecDepth 100000 in
theorem lc_digest {E : gE} {k n b L j : Nat} {xs : Nat → Int32} {σ : gS} {τ : gT} {o : gO} {nw nl lm : Nat} (A : gW E k n b L j xs) (R : RR σ τ nw nl lm) (kk : gK0 E k n b j) : G E k n 1636 (LV E b j) [] σ τ o := by
  obtain ⟨C, X, hN, hj, hL, hF, hLo, hk, hn⟩ := A
  have hl : (eL E).stackTraces = false := C.2.2.2.2.2.2.2.2.2
  have hIM : IM σ τ nw nl lm := RR_IM R
  have hnw := Iv_nw R.1
  have hnl := Iv_nl R.1
  have h3 : σ 3 = nI nw := Iv_h3 R.1
  have h9 : σ 9 = nI nl := Iv_h9 R.1
  obtain ⟨I, hb35, s1, s2, s3, s4, s5, s6, s7, t1, t2, t3, t4, t5, hz9⟩ := id R
  show G E k n 1636 [(4, .int (nI (3 * j))), (3, .ref ((eG E).2.1 102)), (2, .ref ((eG E).2.1 101)), (1, .ref ((eG E).2.1 100)), (0, .ref b)] [] σ τ o
  refine g_aload_n C dL_law_1636 rfl rfl ?_
  refine g_callVl (Cl := RX0) (T := TX0) (N := 18) (ci := 0) (q0 := 0) (na := 0) C dL_law_1637 (c_digest hl (eG E) σ τ o nw nl lm I) gL_law_X0_digest rfl rfl (by decide +kernel) rfl rfl rfl (Nat.le_of_ble_eq_true rfl) (by first | exact ⟨Nat.le_trans (by decide) hF, Nat.le_trans (by decide) hLo⟩) (by omega) noX_kx (fun r1 σ1 τ1 o1 hc => ?_)
  obtain ⟨er1, es1, eo1, hc⟩ := hc
  have es1 := es1.symm
  have eo1 := eo1.symm
  subst er1
  subst es1
  subst eo1
  have R1 := RR_xs R hc.1 hc.2
  refine g_aload_n C dL_law_1640 rfl rfl ?_
  refine g_callVl (Cl := RX1) (T := TX1) (N := 16) (ci := 1) (q0 := 12) (na := 0) C dL_law_1641 (m_digest hl (eG E) _ _ _ nw nl lm (RR_IM R1)) gL_law_X1_digest rfl rfl (by decide +kernel) rfl rfl rfl (Nat.le_of_ble_eq_true rfl) (by first | exact ⟨Nat.le_trans (by decide) hF, Nat.le_trans (by decide) hLo⟩) (by omega) noX_kx (fun r2 σ2 τ2 o2 hm => ?_)
  obtain ⟨er2, es2, eo2, hm⟩ := hm
  have es2 := es2.symm
  have eo2 := eo2.symm
  subst er2
  subst es2
  subst eo2
  refine g_lcmpE C (show DGx σ τ nw nl = DGm σ τ1 nw nl from (by rw [XS_DG hc.1, RR_DG R])) dL_law_1644 ?_
  refine g_if_eq (tgt := 1650) C dL_law_1645 (by decide) (fun c_1645 => ?_) (fun c_1645 => absurd rfl c_1645)
  refine g_wide (k + 1) (n + 10) (by omega) (by omega) ?_
  refine g_lv [0, 1, 2, 3, 4] [(4, .int (nI (3 * j))), (3, .ref ((eG E).2.1 102)), (2, .ref ((eG E).2.1 101)), (1, .ref ((eG E).2.1 100)), (0, .ref b)] rfl ?_
  exact kk _ _ _ _ _ _ (RR_20 (RR_ms R1 hm.1 hm.2) 0)
set_option maxHeartbeats 800000 in
set_option maxRecDepth 100000 in
theorem lc_meanCost0 {E : gE} {k n b L j : Nat} {xs : Nat → Int32} {σ : gS} {τ : gT} {o : gO} {nw nl lm : Nat} (A : gW E k n b L j xs) (R : RR σ τ nw nl lm) (h0 : σ 10 = 0) (kk : gK0 E k n b j) : G E k n 1595 (LV E b j) [] σ τ o := by
  obtain ⟨C, X, hN, hj, hL, hF, hLo, hk, hn⟩ := A
  have hl : (eL E).stackTraces = false := C.2.2.2.2.2.2.2.2.2
  have hIM : IM σ τ nw nl lm := RR_IM R
  have hnw := Iv_nw R.1
  have hnl := Iv_nl R.1
  have h3 : σ 3 = nI nw := Iv_h3 R.1
  have h9 : σ 9 = nI nl := Iv_h9 R.1
  obtain ⟨I, hb35, s1, s2, s3, s4, s5, s6, s7, t1, t2, t3, t4, t5, hz9⟩ := id R
  show G E k n 1595 [(4, .int (nI (3 * j))), (3, .ref ((eG E).2.1 102)), (2, .ref ((eG E).2.1 101)), (1, .ref ((eG E).2.1 100)), (0, .ref b)] [] σ τ o
  have e2 : FP.dconst0 = FP.dconst0 := rfl
  refine g_aload_n C dL_law_1595 rfl rfl ?_
  refine g_callVEd (Cl := RX0) (T := TX0) (N := 18) (ci := 0) (q0 := 0) (na := 0) C dL_law_1596 (c_meanCost0 hl (eG E) σ τ o h0) gL_law_X0_meanCost rfl rfl (by decide +kernel) rfl rfl rfl (Nat.le_of_ble_eq_true rfl) (by first | exact ⟨Nat.le_trans (by decide) hF, Nat.le_trans (by decide) hLo⟩) (by omega) ?_
  refine g_dstore C [(5, _), (4, _), (3, _), (2, _), (1, _), (0, _)] dL_law_1599 (by decide) rfl ?_
  refine g_aload_n C dL_law_1601 rfl rfl ?_
  refine g_callVEd (Cl := RX1) (T := TX1) (N := 16) (ci := 1) (q0 := 12) (na := 0) C dL_law_1602 (m_meanCost0 hl (eG E) σ τ o (by rw [s6]; exact h0)) gL_law_X1_meanCost rfl rfl (by decide +kernel) rfl rfl rfl (Nat.le_of_ble_eq_true rfl) (by first | exact ⟨Nat.le_trans (by decide) hF, Nat.le_trans (by decide) hLo⟩) (by omega) ?_
  rw [e2]
  refine g_dstore C [(7, _), (5, _), (4, _), (3, _), (2, _), (1, _), (0, _)] dL_law_1605 (by decide) rfl ?_
  refine g_dload C dL_law_1607 rfl ?_
  refine g_dload C dL_law_1609 rfl ?_
  refine g_dcmp C dL_law_1611 ?_
  refine g_if_eq (tgt := 1633) C dL_law_1612 (by decide) (fun c_1612 => ?_) (fun c_1612 => ?_)
  · refine g_goto (tgt := 1650) C dL_law_1633 (by decide) ?_
    refine g_wide (k + 1) (n + 10) (by omega) (by omega) ?_
    refine g_lv [2, 3, 4, 5, 6] [(4, .int (nI (3 * j))), (3, .ref ((eG E).2.1 102)), (2, .ref ((eG E).2.1 101)), (1, .ref ((eG E).2.1 100)), (0, .ref b)] rfl ?_
    exact kk _ _ _ _ _ _ (RR_20 R 0)
  · refine g_dload C dL_law_1615 rfl ?_
    refine g_dload C dL_law_1617 rfl ?_
    refine g_dcmp C dL_law_1619 ?_
    refine g_if_eq (tgt := 1631) C dL_law_1620 (by decide) (fun c_1620 => absurd c_1620 c_1612) (fun c_1620 => ?_)
    refine g_dload C dL_law_1623 rfl ?_
    refine g_dload C dL_law_1625 rfl ?_
    refine g_dcmp C dL_law_1627 ?_
    refine g_if_ne (tgt := 1633) C dL_law_1628 (by decide) (fun c_1628 => ?_) (fun c_1628 => absurd c_1628 c_1612)
    refine g_goto (tgt := 1650) C dL_law_1633 (by decide) ?_
    refine g_wide (k + 1) (n + 10) (by omega) (by omega) ?_
    refine g_lv [2, 3, 4, 5, 6] [(4, .int (nI (3 * j))), (3, .ref ((eG E).2.1 102)), (2, .ref ((eG E).2.1 101)), (1, .ref ((eG E).2.1 100)), (0, .ref b)] rfl ?_
    exact kk _ _ _ _ _ _ (RR_20 R 0)
set_option maxHeartbeats 800000 in
set_option maxRecDepth 100000 in
theorem lc_meanCost {E : gE} {k n b L j : Nat} {xs : Nat → Int32} {σ : gS} {τ : gT} {o : gO} {nw nl lm : Nat} (A : gW E k n b L j xs) (R : RR σ τ nw nl lm) (h0 : ¬ σ 10 = 0) (kk : gK0 E k n b j) : G E k n 1595 (LV E b j) [] σ τ o := by
  obtain ⟨C, X, hN, hj, hL, hF, hLo, hk, hn⟩ := A
  have hl : (eL E).stackTraces = false := C.2.2.2.2.2.2.2.2.2
  have hIM : IM σ τ nw nl lm := RR_IM R
  have hnw := Iv_nw R.1
  have hnl := Iv_nl R.1
  have h3 : σ 3 = nI nw := Iv_h3 R.1
  have h9 : σ 9 = nI nl := Iv_h9 R.1
  obtain ⟨I, hb35, s1, s2, s3, s4, s5, s6, s7, t1, t2, t3, t4, t5, hz9⟩ := id R
  show G E k n 1595 [(4, .int (nI (3 * j))), (3, .ref ((eG E).2.1 102)), (2, .ref ((eG E).2.1 101)), (1, .ref ((eG E).2.1 100)), (0, .ref b)] [] σ τ o
  have e2 : FP.ddiv (FP.i2d (σ 26)) (FP.i2d (σ 25)) = (FP.ddiv (FP.i2d (σ 11)) (FP.i2d (σ 10))) := by rw [s6, s7]
  refine g_aload_n C dL_law_1595 rfl rfl ?_
  refine g_callVEd (Cl := RX0) (T := TX0) (N := 18) (ci := 0) (q0 := 0) (na := 0) C dL_law_1596 (c_meanCost hl (eG E) σ τ o h0 (mean_n h0)) gL_law_X0_meanCost rfl rfl (by decide +kernel) rfl rfl rfl (Nat.le_of_ble_eq_true rfl) (by first | exact ⟨Nat.le_trans (by decide) hF, Nat.le_trans (by decide) hLo⟩) (by omega) ?_
  refine g_dstore C [(5, _), (4, _), (3, _), (2, _), (1, _), (0, _)] dL_law_1599 (by decide) rfl ?_
  refine g_aload_n C dL_law_1601 rfl rfl ?_
  refine g_callVEd (Cl := RX1) (T := TX1) (N := 16) (ci := 1) (q0 := 12) (na := 0) C dL_law_1602 (m_meanCost hl (eG E) σ τ o (by rw [s6]; exact h0) (mean_n (by rw [s6]; exact h0))) gL_law_X1_meanCost rfl rfl (by decide +kernel) rfl rfl rfl (Nat.le_of_ble_eq_true rfl) (by first | exact ⟨Nat.le_trans (by decide) hF, Nat.le_trans (by decide) hLo⟩) (by omega) ?_
  rw [e2]
  refine g_dstore C [(7, _), (5, _), (4, _), (3, _), (2, _), (1, _), (0, _)] dL_law_1605 (by decide) rfl ?_
  refine g_dload C dL_law_1607 rfl ?_
  refine g_dload C dL_law_1609 rfl ?_
  refine g_dcmp C dL_law_1611 ?_
  refine g_if_eq (tgt := 1633) C dL_law_1612 (by decide) (fun c_1612 => ?_) (fun c_1612 => ?_)
  · refine g_goto (tgt := 1650) C dL_law_1633 (by decide) ?_
    refine g_wide (k + 1) (n + 10) (by omega) (by omega) ?_
    refine g_lv [2, 3, 4, 5, 6] [(4, .int (nI (3 * j))), (3, .ref ((eG E).2.1 102)), (2, .ref ((eG E).2.1 101)), (1, .ref ((eG E).2.1 100)), (0, .ref b)] rfl ?_
    exact kk _ _ _ _ _ _ (RR_20 R 0)
  · refine g_dload C dL_law_1615 rfl ?_
    refine g_dload C dL_law_1617 rfl ?_
    refine g_dcmp C dL_law_1619 ?_
    refine g_if_eq (tgt := 1631) C dL_law_1620 (by decide) (fun c_1620 => absurd c_1620 c_1612) (fun c_1620 => ?_)
    refine g_dload C dL_law_1623 rfl ?_
    refine g_dload C dL_law_1625 rfl ?_
    refine g_dcmp C dL_law_1627 ?_
    refine g_if_ne (tgt := 1633) C dL_law_1628 (by decide) (fun c_1628 => ?_) (fun c_1628 => absurd c_1628 c_1612)
    refine g_goto (tgt := 1650) C dL_law_1633 (by decide) ?_
    refine g_wide (k + 1) (n + 10) (by omega) (by omega) ?_
    refine g_lv [2, 3, 4, 5, 6] [(4, .int (nI (3 * j))), (3, .ref ((eG E).2.1 102)), (2, .ref ((eG E).2.1 101)), (1, .ref ((eG E).2.1 100)), (0, .ref b)] rfl ?_
    exact kk _ _ _ _ _ _ (RR_20 R 0)
