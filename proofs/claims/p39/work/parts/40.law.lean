/-! the law: its loop, and what goes before it -/
set_option maxHeartbeats 4000000 in
set_option maxRecDepth 100000 in
theorem lq_loop {E : gE} {b L : Nat} {xs : Nat → Int32} (C : jC E cL_law 17 RL wsL_law (some (b, L, xs))) (hl : (eL E).stackTraces = false) (R : eR E = { frames := 12, cells := 889356, slots := 6433114, locals := 462 }) {ad : Nat → Nat} {x0 : va_W} (hL : L < 1000) (kk : ∀ k' n' lv w', k' ≤ 889356 → n' ≤ 6433114 → J E k' n' 737 lv [.int 1] w') : ∀ d i k n K b2 w, i + d = 24 → k + 1030 * d + 2 ≤ 889356 → n + 11844 * d + 34 ≤ 6433114 → K + 3 * d < 2 ^ 30 → AS (eG E) ad b2 K x0 w → J E k n 22 [(3, .int (nI i)), (2, .ref b2), (1, .ref (ad 100)), (0, .ref b)] [] w := by
  intro d
  induction d with
  | zero =>
    intro i k n K b2 w hi hk hn hK hA
    obtain ⟨a, nw, nl, lm, σ, s, τ, t, ha, rfl, T⟩ := hA
    subst ha
    refine j_iload_n C dL_law_22 rfl rfl ?_
    refine j_bipush (v := 24) C dL_law_23 (by decide) ?_
    refine j_icmp_ge (tgt := 732) C dL_law_25 (by decide) (fun c_25 => ?_) (fun c_25 => ?_)
    · refine j_aload_n C dL_law_732 rfl rfl ?_
      refine j_aload_n C dL_law_733 rfl rfl ?_
      refine j_callP (q0 := 0) (na := 1) C dL_law_734 (s_isSame hl (eG E) T) gL_law_X1_isSame rfl rfl (by decide +kernel) rfl rfl (Nat.le_of_ble_eq_true rfl) (by rw [R]; exact ⟨Nat.le_of_ble_eq_true rfl, Nat.le_of_ble_eq_true rfl⟩) (by rw [R]; exact ⟨show k + 2 ≤ 889356 by omega, show n + 34 ≤ 6433114 by omega⟩) (fun v' w' h => ?_)
      have e9 : v' = some (.int 1) := h
      subst e9
      exact kk _ _ _ _ (show k + 2 ≤ 889356 by omega) (show n + 34 ≤ 6433114 by omega)
    · exact absurd ((nI_leI (a := 24) (by omega) (by omega)).mpr (by omega)) c_25
  | succ d ih =>
    intro i k n K b2 w hi hk hn hK hA
    have k726 : ∀ b2 : Nat, lKK E b ad b2 (K + 2 + 1) (k + 514 * 2) (n + 5922 * 2) i x0 := by
      intro b2 k' n' w' h1 h2 hA3
      refine j_iinc C 0 [(3, _), (2, _), (1, _), (0, _)] dL_law_726 rfl (nI_i1 i) (by decide) rfl ?_
      refine j_goto (tgt := 22) C dL_law_729 (by decide) ?_
      exact ih (i + 1) k' n' (K + 3) b2 w' (by omega) (by omega) (by omega) (by omega) hA3
    have la : ∀ (X : Int32) (d2 j : Nat) (w : va_W), j + d2 = 2 → AS (eG E) ad b2 (K + j) x0 w → J E (k + 514 * j) (n + 5922 * j) 54 [(5, .int (nI j)), (4, .int X), (3, .int (nI i)), (2, .ref b2), (1, .ref (ad 100)), (0, .ref b)] [] w := by
      intro X d2
      induction d2 with
      | zero =>
        intro j w hj hA2
        have ej : j = 2 := by omega
        subst ej
        obtain ⟨a, nw, nl, lm, σ, s, τ, t, ha, rfl, T⟩ := hA2
        subst ha
        refine j_iload C dL_law_54 rfl ?_
        refine j_iconst (v := 2) C dL_law_56 (by decide) ?_
        refine j_icmp_ge (tgt := 90) C dL_law_57 (by decide) (fun c_57 => ?_) (fun c_57 => ?_)
        · refine j_lv [1, 2, 3, 4, 5] [(4, _), (3, _), (2, _), (1, _), (0, _)] rfl ?_
          exact lq_limits C hl R (show k + 514 * 2 + 2 ≤ 889356 by omega) (show n + 5922 * 2 ≤ 6433114 by omega) T X i (by omega) (k726 _)
        · exact absurd (i_rf _) c_57
      | succ d2 ih2 =>
        intro j w hj hA2
        obtain ⟨a, nw, nl, lm, σ, s, τ, t, ha, rfl, T⟩ := hA2
        subst ha
        refine j_iload C dL_law_54 rfl ?_
        refine j_iconst (v := 2) C dL_law_56 (by decide) ?_
        refine j_icmp_ge (tgt := 90) C dL_law_57 (by decide) (fun c_57 => ?_) (fun c_57 => ?_)
        · exact absurd ((nI_leI (a := 2) (by omega) (by omega)).mp c_57) (by omega)
        · refine j_aload_n C dL_law_60 rfl rfl ?_
          refine j_aload_n C dL_law_61 rfl rfl ?_
          refine j_iload C dL_law_62 rfl ?_
          refine j_iconst (v := 2) C dL_law_64 (by decide) ?_
          refine j_iload C dL_law_65 rfl ?_
          refine j_imul C dL_law_67 ?_
          refine j_ishr C dL_law_68 ?_
          refine j_sipush (v := 431) C dL_law_69 (by decide) ?_
          refine j_iload C dL_law_72 rfl ?_
          refine j_imul C dL_law_74 ?_
          refine j_iadd C dL_law_75 ?_
          refine j_callS (na := 3) C (jX_none C.2.2.2.2.2.2.2.2.2) dL_law_76 (l_act hl (eG E) T _) gL_law_L_act rfl rfl (by decide +kernel) rfl (Nat.le_of_ble_eq_true rfl) (by rw [R]; exact ⟨Nat.le_of_ble_eq_true rfl, Nat.le_of_ble_eq_true rfl⟩) (by rw [R]; exact ⟨show k + 514 * j + 514 ≤ 889356 by omega, show n + 5922 * j + 5922 ≤ 6433114 by omega⟩) (fun v' w' h => ?_)
          obtain ⟨rfl, hA3⟩ := h
          refine j_if_ne (tgt := 84) C dL_law_79 (by decide) (fun c_79 => ?_) (fun c_79 => ?_)
          · refine j_iinc C 0 [(5, _), (4, _), (3, _), (2, _), (1, _), (0, _)] dL_law_84 rfl (nI_i1 j) (by decide) rfl ?_
            refine j_goto (tgt := 54) C dL_law_87 (by decide) ?_
            exact j_wide (k + 514 * (j + 1)) (n + 5922 * (j + 1)) (by omega) (by omega) (ih2 (j + 1) _ (by omega) hA3)
          · exact absurd c_79 (by decide)
    refine j_iload_n C dL_law_22 rfl rfl ?_
    refine j_bipush (v := 24) C dL_law_23 (by decide) ?_
    refine j_icmp_ge (tgt := 732) C dL_law_25 (by decide) (fun c_25 => ?_) (fun c_25 => ?_)
    · exact absurd ((nI_leI (a := 24) (by omega) (by omega)).mp c_25) (by omega)
    · refine j_aload_n C dL_law_28 rfl rfl ?_
      refine j_iload_n C dL_law_29 rfl rfl ?_
      refine j_bipush (v := 16) C dL_law_30 (by decide) ?_
      refine j_irem C dL_law_32 (by decide) ?_
      rw [show nI i - nI i / 16 * 16 = nI (i % 16) from pk_rem (d := 16) (by omega) (by decide) (by decide)]
      refine j_callS (na := 2) C C.2.2.2.2.2.2.2.2.2 dL_law_33 (l_cell hl (eG E) _ b L (i % 16) xs hL (by omega)) gL_law_L_cell rfl rfl (by decide +kernel) rfl (Nat.le_of_ble_eq_true rfl) (by rw [R]; exact ⟨Nat.le_of_ble_eq_true rfl, Nat.le_of_ble_eq_true rfl⟩) (by rw [R]; exact ⟨show k ≤ 889356 by omega, show n ≤ 6433114 by omega⟩) (fun v' w' h => ?_)
      obtain ⟨r, rfl, rfl⟩ := h
      refine j_iload_n C dL_law_36 rfl rfl ?_
      refine j_bipush (v := 16) C dL_law_37 (by decide) ?_
      refine j_idiv C dL_law_39 (by decide) ?_
      refine j_iconst (v := 3) C dL_law_40 (by decide) ?_
      refine j_imul C dL_law_41 ?_
      refine j_ishr C dL_law_42 ?_
      refine j_sipush (v := 557) C dL_law_43 (by decide) ?_
      refine j_iload_n C dL_law_46 rfl rfl ?_
      refine j_imul C dL_law_47 ?_
      refine j_iadd C dL_law_48 ?_
      refine j_istore C [(4, _), (3, _), (2, _), (1, _), (0, _)] dL_law_49 (by decide) rfl ?_
      refine j_iconst (v := 0) C dL_law_51 (by decide) ?_
      refine j_istore C [(5, _), (4, _), (3, _), (2, _), (1, _), (0, _)] dL_law_52 (by decide) rfl ?_
      exact la _ 2 0 _ (Nat.zero_add _) hA
set_option maxHeartbeats 4000000 in
set_option maxRecDepth 100000 in
theorem lq_start {E : gE} {b L : Nat} {xs : Nat → Int32} (C : jC E cL_law 17 RL wsL_law (some (b, L, xs))) (hl : (eL E).stackTraces = false) (R : eR E = { frames := 12, cells := 889356, slots := 6433114, locals := 462 }) {ad : Nat → Nat} {x0 : va_W} (hL : L < 1000) (kk : ∀ k' n' lv w', k' ≤ 889356 → n' ≤ 6433114 → J E k' n' 737 lv [.int 1] w') : J E 12 184 8 [(1, .ref (ad 100)), (0, .ref b)] [] (wX (eG E) ad sgX zT ++ x0) := by
  refine j_aload_n C dL_law_8 rfl rfl ?_
  refine j_aload_n C dL_law_9 rfl rfl ?_
  refine j_callS (na := 2) C C.2.2.2.2.2.2.2.2.2 dL_law_10 (l_build hl (eG E) ad x0 b L xs hL) gL_law_L_build rfl rfl (by decide +kernel) rfl (Nat.le_of_ble_eq_true rfl) (by rw [R]; exact ⟨Nat.le_of_ble_eq_true rfl, Nat.le_of_ble_eq_true rfl⟩) (by rw [R]; exact ⟨Nat.le_of_ble_eq_true rfl, Nat.le_of_ble_eq_true rfl⟩) (fun v' w' h => ?_)
  obtain ⟨b2, rfl, hA⟩ := h
  refine j_astore_n C [(2, _), (1, _), (0, _)] dL_law_13 rfl (by decide) rfl ?_
  refine j_aload_n C dL_law_14 rfl rfl ?_
  refine j_nonnull (tgt := 20) C dL_law_15 (by decide) ?_
  refine j_iconst (v := 0) C dL_law_20 (by decide) ?_
  refine j_istore_n C [(3, _), (2, _), (1, _), (0, _)] dL_law_21 rfl (by decide) rfl ?_
  exact lq_loop C hl R hL kk 24 0 _ _ 83 b2 _ (Nat.zero_add _) (Nat.le_of_ble_eq_true rfl) (Nat.le_of_ble_eq_true rfl) (by decide) hA
