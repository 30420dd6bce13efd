/-! act, whole -/
set_option maxHeartbeats 4000000 in
set_option maxRecDepth 100000 in
theorem l_act {l : Launch} (hl : l.stackTraces = false) (Γ : gG) {K : Nat} {ad a : Nat → Nat} {x : va_W} {nw nl lm : Nat} {σ s : gS} {τ t : gT} (T9 : TS σ τ nw nl lm K s t) (X : Int32) : CtJ l yL_act wsL_act 7 224 514 5922 [.ref (ad 100), .ref (a 100), .int X] Γ none (sW Γ a nl nl s t ++ (wX Γ ad σ τ ++ x)) (AP Γ ad (a 100) (K + 1) x) := by
  refine ctj_of (by decide +kernel) rfl (Nat.le_of_ble_eq_true rfl) ?_
  intro E C F N9 hΓ hL R
  subst hΓ
  subst hL
  show J E 0 0 0 [(0, .ref (ad 100)), (1, .ref (a 100)), (2, .int X)] [] (sW (eG E) a nl nl s t ++ (wX (eG E) ad σ τ ++ x))
  have hnw := SV_nw (TS_V T9)
  have hnl := SV_m (TS_V T9)
  have e0 : s 0 = nI nw := SV_0 (TS_V T9)
  have sw : ∀ r4 r5 r6 r7 : Nat, 3 ≤ r4 → r4 < 26 → r5 < nw → r6 < nw → (r7 < nl ∨ (nl = 0 ∧ r7 = 0)) → J E 0 0 141 [(7, .int (nI r7)), (6, .int (nI r6)), (5, .int (nI r5)), (4, .int (nI r4)), (0, .ref (ad 100)), (1, .ref (a 100)), (2, .int X), (3, .int (nI nl))] [] (sW (eG E) a nl nl s t ++ (wX (eG E) ad σ τ ++ x)) := by
    intro r4 r5 r6 r7 g3 g26 h5 h6 h7
    refine j_iload C dL_act_141 rfl ?_
    rcases (show r4 = 3 ∨ r4 = 4 ∨ r4 = 5 ∨ r4 = 6 ∨ r4 = 7 ∨ r4 = 8 ∨ r4 = 9 ∨ r4 = 10 ∨ r4 = 11 ∨ r4 = 12 ∨ r4 = 13 ∨ r4 = 14 ∨ r4 = 15 ∨ r4 = 16 ∨ r4 = 17 ∨ r4 = 18 ∨ r4 = 19 ∨ 20 ≤ r4 by omega) with rfl | rfl | rfl | rfl | rfl | rfl | rfl | rfl | rfl | rfl | rfl | rfl | rfl | rfl | rfl | rfl | rfl | g20
    · refine j_tableIn (off := 81) (tgt := 224) C dL_act_143 (by decide +kernel) (by decide +kernel) (by decide +kernel) (by decide) ?_
      refine j_lv [2, 1, 4, 5, 6, 7] [(5, _), (6, _), (0, _), (1, _), (2, _), (3, _)] rfl ?_
      exact act_si C hl F R T9 X r5 r6 h5 h6
    · refine j_tableIn (off := 81) (tgt := 224) C dL_act_143 (by decide +kernel) (by decide +kernel) (by decide +kernel) (by decide) ?_
      refine j_lv [2, 1, 4, 5, 6, 7] [(5, _), (6, _), (0, _), (1, _), (2, _), (3, _)] rfl ?_
      exact act_si C hl F R T9 X r5 r6 h5 h6
    · refine j_tableIn (off := 81) (tgt := 224) C dL_act_143 (by decide +kernel) (by decide +kernel) (by decide +kernel) (by decide) ?_
      refine j_lv [2, 1, 4, 5, 6, 7] [(5, _), (6, _), (0, _), (1, _), (2, _), (3, _)] rfl ?_
      exact act_si C hl F R T9 X r5 r6 h5 h6
    · refine j_tableIn (off := 145) (tgt := 288) C dL_act_143 (by decide +kernel) (by decide +kernel) (by decide +kernel) (by decide) ?_
      refine j_lv [2, 1, 4, 5, 6, 7] [(5, _), (6, _), (0, _), (1, _), (2, _), (3, _)] rfl ?_
      exact act_tj C hl F R T9 X r5 r6 h5 h6
    · refine j_tableIn (off := 145) (tgt := 288) C dL_act_143 (by decide +kernel) (by decide +kernel) (by decide +kernel) (by decide) ?_
      refine j_lv [2, 1, 4, 5, 6, 7] [(5, _), (6, _), (0, _), (1, _), (2, _), (3, _)] rfl ?_
      exact act_tj C hl F R T9 X r5 r6 h5 h6
    · refine j_tableIn (off := 145) (tgt := 288) C dL_act_143 (by decide +kernel) (by decide +kernel) (by decide +kernel) (by decide) ?_
      refine j_lv [2, 1, 4, 5, 6, 7] [(5, _), (6, _), (0, _), (1, _), (2, _), (3, _)] rfl ?_
      exact act_tj C hl F R T9 X r5 r6 h5 h6
    · refine j_tableIn (off := 145) (tgt := 288) C dL_act_143 (by decide +kernel) (by decide +kernel) (by decide +kernel) (by decide) ?_
      refine j_lv [2, 1, 4, 5, 6, 7] [(5, _), (6, _), (0, _), (1, _), (2, _), (3, _)] rfl ?_
      exact act_tj C hl F R T9 X r5 r6 h5 h6
    · refine j_tableIn (off := 200) (tgt := 343) C dL_act_143 (by decide +kernel) (by decide +kernel) (by decide +kernel) (by decide) ?_
      refine j_lv [4, 5, 6, 7] [(0, _), (1, _), (2, _), (3, _)] rfl ?_
      exact act_limit C hl F R T9 X
    · refine j_tableIn (off := 239) (tgt := 382) C dL_act_143 (by decide +kernel) (by decide +kernel) (by decide +kernel) (by decide) ?_
      refine j_lv [4, 5, 6, 7] [(0, _), (1, _), (2, _), (3, _)] rfl ?_
      exact act_least C hl F R T9 X
    · refine j_tableIn (off := 276) (tgt := 419) C dL_act_143 (by decide +kernel) (by decide +kernel) (by decide +kernel) (by decide) ?_
      refine j_lv [4, 5, 6, 7] [(0, _), (1, _), (2, _), (3, _)] rfl ?_
      exact act_coins C hl F R T9 X
    · refine j_tableIn (off := 315) (tgt := 458) C dL_act_143 (by decide +kernel) (by decide +kernel) (by decide +kernel) (by decide) ?_
      refine j_lv [0, 4, 5, 6, 7] [(7, _), (0, _), (1, _), (2, _), (3, _)] rfl ?_
      exact act_strike C hl F R T9 X r7 h7
    · refine j_tableIn (off := 456) (tgt := 599) C dL_act_143 (by decide +kernel) (by decide +kernel) (by decide +kernel) (by decide) ?_
      refine j_lv [0, 4, 5, 6, 7] [(7, _), (0, _), (1, _), (2, _), (3, _)] rfl ?_
      exact act_joined C hl F R T9 X r7 (by omega)
    · refine j_tableIn (off := 456) (tgt := 599) C dL_act_143 (by decide +kernel) (by decide +kernel) (by decide +kernel) (by decide) ?_
      refine j_lv [0, 4, 5, 6, 7] [(7, _), (0, _), (1, _), (2, _), (3, _)] rfl ?_
      exact act_joined C hl F R T9 X r7 (by omega)
    · refine j_tableIn (off := 456) (tgt := 599) C dL_act_143 (by decide +kernel) (by decide +kernel) (by decide +kernel) (by decide) ?_
      refine j_lv [0, 4, 5, 6, 7] [(7, _), (0, _), (1, _), (2, _), (3, _)] rfl ?_
      exact act_joined C hl F R T9 X r7 (by omega)
    · refine j_tableIn (off := 456) (tgt := 599) C dL_act_143 (by decide +kernel) (by decide +kernel) (by decide +kernel) (by decide) ?_
      refine j_lv [0, 4, 5, 6, 7] [(7, _), (0, _), (1, _), (2, _), (3, _)] rfl ?_
      exact act_joined C hl F R T9 X r7 (by omega)
    · refine j_tableIn (off := 576) (tgt := 719) C dL_act_143 (by decide +kernel) (by decide +kernel) (by decide +kernel) (by decide) ?_
      refine j_lv [4, 5, 6, 7] [(0, _), (1, _), (2, _), (3, _)] rfl ?_
      exact act_reword C hl F R T9 X
    · refine j_tableIn (off := 660) (tgt := 803) C dL_act_143 (by decide +kernel) (by decide +kernel) (by decide +kernel) (by decide) ?_
      refine j_lv [4, 5, 6, 7] [(0, _), (1, _), (2, _), (3, _)] rfl ?_
      exact act_send C hl F R T9 X
    · refine j_tableOut (tgt := 896) C dL_act_143 (Or.inr (by rw [nI_toInt (by omega)]; omega)) (by decide) ?_
      refine j_lv [2, 4, 5, 6, 7] [(5, _), (0, _), (1, _), (2, _), (3, _)] rfl ?_
      exact act_write C hl F R T9 X r5 h5
  refine j_aload_n C dL_act_0 rfl rfl ?_
  refine j_get C 0 9 dL_act_1 nwL_act_in (by decide) nwL_act_f9 rfl rfl rfl ?_
  refine j_alen C 4 0 dL_act_4 rfl rfl ?_
  refine j_istore_n C [(3, _), (0, _), (1, _), (2, _)] dL_act_5 rfl (by decide) rfl ?_
  refine j_iload_n C dL_act_6 rfl rfl ?_
  refine j_bipush (v := 9) C dL_act_7 (by decide) ?_
  refine j_ishr C dL_act_9 ?_
  refine j_bipush (v := 26) C dL_act_10 (by decide) ?_
  refine j_below (N := 26) C hl R ⟨Nat.le_of_ble_eq_true rfl, Nat.le_of_ble_eq_true rfl⟩ ⟨Nat.le_of_ble_eq_true rfl, Nat.le_of_ble_eq_true rfl⟩ (Nat.le_of_ble_eq_true rfl) dL_act_12 gL_act_L_below (by decide) (by decide) (fun r4 hr4 => ?_)
  refine j_istore C [(4, _), (3, _), (0, _), (1, _), (2, _)] dL_act_15 (by decide) rfl ?_
  refine j_aload_n C dL_act_17 rfl rfl ?_
  refine j_get C 0 0 dL_act_18 nwL_act_in (by decide) nwL_act_f21 rfl rfl rfl ?_
  rw [e0]
  refine j_if_eq (tgt := 30) C dL_act_21 (by decide) (fun c_21 => ?_) (fun c_21 => ?_)
  · refine j_lv [0, 2, 3, 4, 1] [(4, _), (0, _), (1, _), (2, _), (3, _)] rfl ?_
    exact act_add C hl F R T9 X r4
  · have hw0 : 0 < nw := Nat.pos_of_ne_zero (fun q => c_21 (by rw [q]; rfl))
    refine j_iload C dL_act_24 rfl ?_
    refine j_iconst (v := 3) C dL_act_26 (by decide) ?_
    refine j_icmp_ge (tgt := 100) C dL_act_27 (by decide) (fun c_27 => ?_) (fun c_27 => ?_)
    · have g3 : 3 ≤ r4 := (nI_leI (a := 3) (by omega) (by omega)).mp c_27
      refine j_iload_n C dL_act_100 rfl rfl ?_
      refine j_iconst (v := 1) C dL_act_101 (by decide) ?_
      refine j_ishr C dL_act_102 ?_
      refine j_aload_n C dL_act_103 rfl rfl ?_
      refine j_get C 0 0 dL_act_104 nwL_act_in (by decide) nwL_act_f21 rfl rfl rfl ?_
      rw [e0]
      refine j_below (N := nw) C hl R ⟨Nat.le_of_ble_eq_true rfl, Nat.le_of_ble_eq_true rfl⟩ ⟨Nat.le_of_ble_eq_true rfl, Nat.le_of_ble_eq_true rfl⟩ (Nat.le_of_ble_eq_true rfl) dL_act_107 gL_act_L_below hw0 (by omega) (fun r5 hr5 => ?_)
      refine j_istore C [(5, _), (4, _), (3, _), (0, _), (1, _), (2, _)] dL_act_110 (by decide) rfl ?_
      refine j_iload_n C dL_act_112 rfl rfl ?_
      refine j_iconst (v := 4) C dL_act_113 (by decide) ?_
      refine j_ishr C dL_act_114 ?_
      refine j_aload_n C dL_act_115 rfl rfl ?_
      refine j_get C 0 0 dL_act_116 nwL_act_in (by decide) nwL_act_f21 rfl rfl rfl ?_
      rw [e0]
      refine j_below (N := nw) C hl R ⟨Nat.le_of_ble_eq_true rfl, Nat.le_of_ble_eq_true rfl⟩ ⟨Nat.le_of_ble_eq_true rfl, Nat.le_of_ble_eq_true rfl⟩ (Nat.le_of_ble_eq_true rfl) dL_act_119 gL_act_L_below hw0 (by omega) (fun r6 hr6 => ?_)
      refine j_istore C [(6, _), (5, _), (4, _), (3, _), (0, _), (1, _), (2, _)] dL_act_122 (by decide) rfl ?_
      refine j_iload_n C dL_act_124 rfl rfl ?_
      refine j_if_ne (tgt := 132) C dL_act_125 (by decide) (fun c_125 => ?_) (fun c_125 => ?_)
      · have hl0 : 0 < nl := Nat.pos_of_ne_zero (fun q => c_125 (by rw [q]; rfl))
        refine j_iload_n C dL_act_132 rfl rfl ?_
        refine j_iconst (v := 3) C dL_act_133 (by decide) ?_
        refine j_ishr C dL_act_134 ?_
        refine j_iload_n C dL_act_135 rfl rfl ?_
        refine j_below (N := nl) C hl R ⟨Nat.le_of_ble_eq_true rfl, Nat.le_of_ble_eq_true rfl⟩ ⟨Nat.le_of_ble_eq_true rfl, Nat.le_of_ble_eq_true rfl⟩ (Nat.le_of_ble_eq_true rfl) dL_act_136 gL_act_L_below hl0 (by omega) (fun r7 hr7 => ?_)
        refine j_istore C [(7, _), (6, _), (5, _), (4, _), (3, _), (0, _), (1, _), (2, _)] dL_act_139 (by decide) rfl ?_
        refine j_lv [0, 1, 2, 3, 5, 6, 7, 4] [(7, _), (6, _), (5, _), (4, _), (0, _), (1, _), (2, _), (3, _)] rfl ?_
        exact sw r4 r5 r6 r7 g3 hr4 hr5 hr6 (Or.inl hr7)
      · have hl0 : nl = 0 := nI_eq0 c_125 (by omega)
        refine j_iconst (v := 0) C dL_act_128 (by decide) ?_
        refine j_goto (tgt := 139) C dL_act_129 (by decide) ?_
        refine j_istore C [(7, _), (6, _), (5, _), (4, _), (3, _), (0, _), (1, _), (2, _)] dL_act_139 (by decide) rfl ?_
        refine j_lv [0, 1, 2, 3, 5, 6, 7, 4] [(7, _), (6, _), (5, _), (4, _), (0, _), (1, _), (2, _), (3, _)] rfl ?_
        exact sw r4 r5 r6 0 g3 hr4 hr5 hr6 (Or.inr ⟨hl0, rfl⟩)
    · refine j_lv [0, 2, 3, 4, 1] [(4, _), (0, _), (1, _), (2, _), (3, _)] rfl ?_
      exact act_add C hl F R T9 X r4
