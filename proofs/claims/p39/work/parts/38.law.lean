/-! the law, piece by piece, from its end -/
/-- what goes on behind the step -/
def lKK (E : gE) (b : Nat) (ad : Nat → Nat) (b2 K k n i : Nat) (x0 : va_W) : Prop := ∀ k' n' w', k' ≤ k + 2 → n' ≤ n → AS (eG E) ad b2 K x0 w' → J E k' n' 726 [(3, .int (nI i)), (2, .ref b2), (1, .ref (ad 100)), (0, .ref b)] [] w'
set_option maxRecDepth 100000 in
theorem nwL_law_arI : Cond.arrayClass .int ∈ wsL_law := by decide +kernel
set_option maxRecDepth 100000 in
theorem nwL_law_f9 : Cond.fieldLink RL 9 "TelegraphPricesLaw$Sim" "word" "[I" ∈ wsL_law := by decide +kernel
set_option maxRecDepth 100000 in
theorem nwL_law_arZ : Cond.arrayClass .boolean ∈ wsL_law := by decide +kernel
set_option maxRecDepth 100000 in
theorem nwL_law_f66 : Cond.fieldLink RL 66 "TelegraphPricesLaw$Sim" "joined" "[Z" ∈ wsL_law := by decide +kernel
set_option maxRecDepth 100000 in
theorem nwL_law_f88 : Cond.fieldLink RL 88 "TelegraphPricesLaw$Sim" "sent" "I" ∈ wsL_law := by decide +kernel
set_option maxRecDepth 100000 in
theorem nwL_law_f91 : Cond.fieldLink RL 91 "TelegraphPricesLaw$Sim" "earned" "I" ∈ wsL_law := by decide +kernel
set_option maxHeartbeats 4000000 in
set_option maxRecDepth 100000 in
theorem lq_send {E : gE} {b L : Nat} {xs : Nat → Int32} (C : jC E cL_law 17 RL wsL_law (some (b, L, xs))) (hl : (eL E).stackTraces = false) (R : eR E = { frames := 12, cells := 889356, slots := 6433114, locals := 462 }) {k n : Nat} (hk : k + 2 ≤ 889356) (hn0 : n ≤ 6433114) {K : Nat} {ad a : Nat → Nat} {x0 : va_W} {nw nl lm : Nat} {σ s : gS} {τ t : gT} (T : TS σ τ nw nl lm K s t) (X : Int32) (i : Nat) (hK : K < 2 ^ 30) (kk : lKK E b ad (a 100) (K + 1) k n i x0) : J E k n 572 [(7, .int (nI nl)), (4, .int X), (3, .int (nI i)), (2, .ref (a 100)), (1, .ref (ad 100)), (0, .ref b)] [] (sW (eG E) a nl nl s t ++ (wX (eG E) ad σ τ ++ x0)) := by
  have hk0 : k ≤ 889356 := by omega
  have V := TS_V T
  have hnw := SV_nw V
  have hnl := SV_m V
  refine j_iload C dL_law_572 rfl ?_
  refine j_if_eq (tgt := 726) C dL_law_574 (by decide) (fun c_574 => ?_) (fun c_574 => ?_)
  · refine j_lv [2, 3, 4, 5] [(3, _), (2, _), (1, _), (0, _)] rfl ?_
    exact kk _ _ _ (show k ≤ k + 2 by omega) (Nat.le_refl _) ⟨a, nw, nl, lm, σ, s, τ, t, rfl, rfl, TS_up T (by omega)⟩
  · have h0 : nl ≠ 0 := fun q => c_574 (by rw [q]; rfl)
    refine j_iload C dL_law_577 rfl ?_
    refine j_iconst (v := 2) C dL_law_579 (by decide) ?_
    refine j_ishr C dL_law_580 ?_
    refine j_iconst (v := 5) C dL_law_581 (by decide) ?_
    refine j_below (N := 5) C hl R ⟨Nat.le_of_ble_eq_true rfl, Nat.le_of_ble_eq_true rfl⟩ ⟨hk0, hn0⟩ (Nat.le_of_ble_eq_true rfl) dL_law_582 gL_law_L_below (by decide) (by decide) (fun r1 hr1 => ?_)
    refine j_if_le (tgt := 591) C dL_law_585 (by decide) (fun c_585 => ?_) (fun c_585 => ?_)
    · refine j_iload C dL_law_591 rfl ?_
      refine j_iconst (v := 4) C dL_law_593 (by decide) ?_
      refine j_ishr C dL_law_594 ?_
      refine j_iconst (v := 4) C dL_law_595 (by decide) ?_
      refine j_below (N := 4) C hl R ⟨Nat.le_of_ble_eq_true rfl, Nat.le_of_ble_eq_true rfl⟩ ⟨hk0, hn0⟩ (Nat.le_of_ble_eq_true rfl) dL_law_596 gL_law_L_below (by decide) (by decide) (fun r hr => ?_)
      have hz : ¬ nI r < 0 ∧ nI r < 4 := ⟨nI_nlt (b := 0) (by omega) (by omega), (nI_ltI (b := 4) (by omega) (by omega)).mpr hr⟩
      have T2 := TS_send (f := fun _ => 0) (g := fun _ => 0) (x := CTx σ τ nl * σ 6 * (nI r + 2) / 2) T (fun _ => Or.inl rfl)
      refine j_istore C [(13, _), (7, _), (4, _), (3, _), (2, _), (1, _), (0, _)] dL_law_599 (by decide) rfl ?_
      refine j_aload_n C dL_law_601 rfl rfl ?_
      refine j_iload C dL_law_602 rfl ?_
      refine j_callXE (S := (sW _ _ _ _ _ _)) (na := 1) C dL_law_604 (c_priceTo hl (jG (eG E) ad _) σ τ zO nw nl lm (nI r) T.1 hz) gL_law_X0_priceTo rfl rfl (by decide +kernel) rfl (Nat.le_of_ble_eq_true rfl) (by rw [R]; exact ⟨Nat.le_of_ble_eq_true rfl, Nat.le_of_ble_eq_true rfl⟩) (by rw [R]; exact ⟨hk0, hn0⟩) ?_
      refine j_istore C [(14, _), (13, _), (7, _), (4, _), (3, _), (2, _), (1, _), (0, _)] dL_law_607 (by decide) rfl ?_
      refine j_aload_n C dL_law_609 rfl rfl ?_
      refine j_callXE (S := (sW _ _ _ _ _ _)) (na := 0) C dL_law_610 (c_earned hl (jG (eG E) ad _) σ τ zO) gL_law_X0_earned rfl rfl (by decide +kernel) rfl (Nat.le_of_ble_eq_true rfl) (by rw [R]; exact ⟨Nat.le_of_ble_eq_true rfl, Nat.le_of_ble_eq_true rfl⟩) (by rw [R]; exact ⟨hk0, hn0⟩) ?_
      refine j_istore C [(15, _), (14, _), (13, _), (7, _), (4, _), (3, _), (2, _), (1, _), (0, _)] dL_law_613 (by decide) rfl ?_
      refine j_aload_n C dL_law_615 rfl rfl ?_
      refine j_callXE (S := (sW _ _ _ _ _ _)) (na := 0) C dL_law_616 (c_sent hl (jG (eG E) ad _) σ τ zO) gL_law_X0_sent rfl rfl (by decide +kernel) rfl (Nat.le_of_ble_eq_true rfl) (by rw [R]; exact ⟨Nat.le_of_ble_eq_true rfl, Nat.le_of_ble_eq_true rfl⟩) (by rw [R]; exact ⟨hk0, hn0⟩) ?_
      refine j_istore C [(16, _), (15, _), (14, _), (13, _), (7, _), (4, _), (3, _), (2, _), (1, _), (0, _)] dL_law_619 (by decide) rfl ?_
      refine j_aload_n C dL_law_621 rfl rfl ?_
      refine j_iload C dL_law_622 rfl ?_
      refine j_callXE (S := (sW _ _ _ _ _ _)) (na := 1) C dL_law_624 (c_send hl (jG (eG E) ad _) σ τ zO nw nl lm (nI r) T.1 hz h0) gL_law_X0_send rfl rfl (by decide +kernel) rfl (Nat.le_of_ble_eq_true rfl) (by rw [R]; exact ⟨Nat.le_of_ble_eq_true rfl, Nat.le_of_ble_eq_true rfl⟩) (by rw [R]; exact ⟨hk0, hn0⟩) ?_
      refine j_iload C dL_law_627 rfl ?_
      refine j_icmp_ne (tgt := 689) C dL_law_629 (by decide) (fun c_629 => ?_) (fun c_629 => ?_)
      · exact absurd rfl c_629
      · refine j_aload_n C dL_law_632 rfl rfl ?_
        refine j_callXE (S := (sW _ _ _ _ _ _)) (na := 0) C dL_law_633 (c_earned hl (jG (eG E) ad _) (uS (uS (uS σ 10 (σ 10 + 1)) 11 (σ 11 + CTx σ τ nl * σ 6 * (nI r + 2) / 2)) 9 0) τ zO) gL_law_X0_earned rfl rfl (by decide +kernel) rfl (Nat.le_of_ble_eq_true rfl) (by rw [R]; exact ⟨Nat.le_of_ble_eq_true rfl, Nat.le_of_ble_eq_true rfl⟩) (by rw [R]; exact ⟨hk0, hn0⟩) ?_
        refine j_iload C dL_law_636 rfl ?_
        refine j_iload C dL_law_638 rfl ?_
        refine j_iadd C dL_law_640 ?_
        refine j_icmp_ne (tgt := 689) C dL_law_641 (by decide) (fun c_641 => ?_) (fun c_641 => ?_)
        · exact absurd rfl c_641
        · refine j_aload_n C dL_law_644 rfl rfl ?_
          refine j_callXE (S := (sW _ _ _ _ _ _)) (na := 0) C dL_law_645 (c_sent hl (jG (eG E) ad _) (uS (uS (uS σ 10 (σ 10 + 1)) 11 (σ 11 + CTx σ τ nl * σ 6 * (nI r + 2) / 2)) 9 0) τ zO) gL_law_X0_sent rfl rfl (by decide +kernel) rfl (Nat.le_of_ble_eq_true rfl) (by rw [R]; exact ⟨Nat.le_of_ble_eq_true rfl, Nat.le_of_ble_eq_true rfl⟩) (by rw [R]; exact ⟨hk0, hn0⟩) ?_
          refine j_iload C dL_law_648 rfl ?_
          refine j_iconst (v := 1) C dL_law_650 (by decide) ?_
          refine j_iadd C dL_law_651 ?_
          refine j_icmp_ne (tgt := 689) C dL_law_652 (by decide) (fun c_652 => ?_) (fun c_652 => ?_)
          · exact absurd rfl c_652
          · refine j_aload_n C dL_law_655 rfl rfl ?_
            refine j_callXE (S := (sW _ _ _ _ _ _)) (na := 0) C dL_law_656 (c_length hl (jG (eG E) ad _) (uS (uS (uS σ 10 (σ 10 + 1)) 11 (σ 11 + CTx σ τ nl * σ 6 * (nI r + 2) / 2)) 9 0) τ zO) gL_law_X0_length rfl rfl (by decide +kernel) rfl (Nat.le_of_ble_eq_true rfl) (by rw [R]; exact ⟨Nat.le_of_ble_eq_true rfl, Nat.le_of_ble_eq_true rfl⟩) (by rw [R]; exact ⟨hk0, hn0⟩) ?_
            refine j_if_ne (tgt := 689) C dL_law_659 (by decide) (fun c_659 => ?_) (fun c_659 => ?_)
            · exact absurd rfl c_659
            · refine j_aload_n C dL_law_662 rfl rfl ?_
              refine j_callXE (S := (sW _ _ _ _ _ _)) (na := 0) C dL_law_663 (c_count hl (jG (eG E) ad _) (uS (uS (uS σ 10 (σ 10 + 1)) 11 (σ 11 + CTx σ τ nl * σ 6 * (nI r + 2) / 2)) 9 0) τ zO nw 0 lm T2.1) gL_law_X0_count rfl rfl (by decide +kernel) rfl (Nat.le_of_ble_eq_true rfl) (by rw [R]; exact ⟨Nat.le_of_ble_eq_true rfl, Nat.le_of_ble_eq_true rfl⟩) (by rw [R]; exact ⟨hk0, hn0⟩) ?_
              refine j_if_ne (tgt := 689) C dL_law_666 (by decide) (fun c_666 => ?_) (fun c_666 => ?_)
              · exact absurd (TS_ct T2) c_666
              · have h10 : ¬ σ 10 + 1 = 0 := by
                  obtain ⟨j, ej, hj⟩ := TS_k T
                  rw [ej, nI_1]
                  exact nI_ne0 (by omega) (by omega)
                refine j_aload_n C dL_law_669 rfl rfl ?_
                refine j_callXE (S := (sW _ _ _ _ _ _)) (na := 0) C dL_law_670 (c_meanCost hl (jG (eG E) ad _) (uS (uS (uS σ 10 (σ 10 + 1)) 11 (σ 11 + CTx σ τ nl * σ 6 * (nI r + 2) / 2)) 9 0) τ zO h10 (mean_n h10)) gL_law_X0_meanCost rfl rfl (by decide +kernel) rfl (Nat.le_of_ble_eq_true rfl) (by rw [R]; exact ⟨Nat.le_of_ble_eq_true rfl, Nat.le_of_ble_eq_true rfl⟩) (by rw [R]; exact ⟨hk0, hn0⟩) ?_
                refine j_iload C dL_law_673 rfl ?_
                refine j_iload C dL_law_675 rfl ?_
                refine j_iadd C dL_law_677 ?_
                refine j_i2d C dL_law_678 ?_
                refine j_iload C dL_law_679 rfl ?_
                refine j_iconst (v := 1) C dL_law_681 (by decide) ?_
                refine j_iadd C dL_law_682 ?_
                refine j_i2d C dL_law_683 ?_
                refine j_ddiv C dL_law_684 (mean_n h10) ?_
                refine j_dcmp C dL_law_685 ?_
                refine j_if_eq (tgt := 691) C dL_law_686 (by decide) (fun c_686 => ?_) (fun c_686 => ?_)
                · refine j_aload_n C dL_law_691 rfl rfl ?_
                  refine j_iconst (v := 0) C dL_law_692 (by decide) ?_
                  refine j_newI C (0) (0) dL_law_693 nwL_law_arI rfl (Nat.le_refl _) (by decide) (by rw [R]; exact (show k + 1 ≤ 889356 by omega)) (by rw [R]; exact hn0) (fun q1 => ?_)
                  refine j_behind ?_
                  refine jS_word C dL_law_695 inlX1 nwL_law_f9 ?_
                  refine j_aload_n C dL_law_698 rfl rfl ?_
                  refine j_iconst (v := 0) C dL_law_699 (by decide) ?_
                  refine j_newZ C (0) (0) dL_law_700 nwL_law_arZ rfl (Nat.le_refl _) (by decide) (by rw [R]; exact (show k + 2 ≤ 889356 by omega)) (by rw [R]; exact hn0) (fun q2 => ?_)
                  refine j_behind ?_
                  refine jS_joined C dL_law_702 inlX1 nwL_law_f66 ?_
                  refine j_aload_n C dL_law_705 rfl rfl ?_
                  refine j_dup C dL_law_706 rfl ?_
                  refine j_get C 0 4 dL_law_707 inlX1 (by decide) nwL_law_f88 rfl rfl rfl ?_
                  refine j_iconst (v := 1) C dL_law_710 (by decide) ?_
                  refine j_iadd C dL_law_711 ?_
                  refine jS_put C [] 0 4 dL_law_712 inlX1 (by decide) nwL_law_f88 rfl rfl (by decide +kernel) rfl (Nat.le_of_ble_eq_true rfl) rfl ?_
                  refine j_aload_n C dL_law_715 rfl rfl ?_
                  refine j_dup C dL_law_716 rfl ?_
                  refine j_get C 0 5 dL_law_717 inlX1 (by decide) nwL_law_f91 rfl rfl rfl ?_
                  refine j_iload C dL_law_720 rfl ?_
                  refine j_iadd C dL_law_722 ?_
                  refine jS_put C [] 0 5 dL_law_723 inlX1 (by decide) nwL_law_f91 rfl rfl (by decide +kernel) rfl (Nat.le_of_ble_eq_true rfl) rfl ?_
                  refine j_lv [6, 7, 8, 9] [(3, _), (2, _), (1, _), (0, _)] rfl ?_
                  exact kk _ _ _ (show k + 2 ≤ k + 2 by omega) (Nat.le_refl _) ⟨(aU (aU a 9 q1) 10 q2), nw, 0, lm, _, _, τ, _, rfl, rfl, T2⟩
                · exact absurd (dc_self (mean_n h10)) c_686
    · refine j_goto (tgt := 726) C dL_law_588 (by decide) ?_
      refine j_lv [2, 3, 4, 5] [(3, _), (2, _), (1, _), (0, _)] rfl ?_
      exact kk _ _ _ (show k ≤ k + 2 by omega) (Nat.le_refl _) ⟨a, nw, nl, lm, σ, s, τ, t, rfl, rfl, TS_up T (by omega)⟩
set_option maxHeartbeats 4000000 in
set_option maxRecDepth 100000 in
theorem lq_half {E : gE} {b L : Nat} {xs : Nat → Int32} (C : jC E cL_law 17 RL wsL_law (some (b, L, xs))) (hl : (eL E).stackTraces = false) (R : eR E = { frames := 12, cells := 889356, slots := 6433114, locals := 462 }) {k n : Nat} (hk : k + 2 ≤ 889356) (hn0 : n ≤ 6433114) {K : Nat} {ad a : Nat → Nat} {x0 : va_W} {nw nl lm : Nat} {σ s : gS} {τ t : gT} (T : TS σ τ nw nl lm K s t) (X : Int32) (i : Nat) (hK : K < 2 ^ 30) (kk : lKK E b ad (a 100) (K + 1) k n i x0) : J E k n 513 [(7, .int (nI nl)), (4, .int X), (3, .int (nI i)), (2, .ref (a 100)), (1, .ref (ad 100)), (0, .ref b)] [] (sW (eG E) a nl nl s t ++ (wX (eG E) ad σ τ ++ x0)) := by
  have hk0 : k ≤ 889356 := by omega
  have V := TS_V T
  have hnw := SV_nw V
  have hnl := SV_m V
  obtain ⟨lc, e5, hlc⟩ := TS_lc T
  obtain ⟨co, e6, hco1, hco2⟩ := TS_co T
  obtain ⟨c, ec, -, -, -, hc3⟩ := ct_N T e5 hlc
  have lz : ∀ d z : Nat, z + d = 4 → J E k n 516 [(13, .int (nI z)), (7, .int (nI nl)), (4, .int X), (3, .int (nI i)), (2, .ref (a 100)), (1, .ref (ad 100)), (0, .ref b)] [] (sW (eG E) a nl nl s t ++ (wX (eG E) ad σ τ ++ x0)) := by
    intro d
    induction d with
    | zero =>
      intro z hz
      refine j_iload C dL_law_516 rfl ?_
      refine j_iconst (v := 4) C dL_law_518 (by decide) ?_
      refine j_icmp_ge (tgt := 572) C dL_law_519 (by decide) (fun c_519 => ?_) (fun c_519 => ?_)
      · refine j_lv [1, 2, 3, 4, 5, 6] [(7, _), (4, _), (3, _), (2, _), (1, _), (0, _)] rfl ?_
        exact lq_send C hl R hk hn0 T X i hK kk
      · exact absurd ((nI_leI (a := 4) (by omega) (by omega)).mpr (by omega)) c_519
    | succ d ih =>
      intro z hz
      have hzz : ¬ nI z < 0 ∧ nI z < 4 := ⟨nI_nlt (b := 0) (by omega) (by omega), (nI_ltI (b := 4) (by omega) (by omega)).mpr (by omega)⟩
      have eQ := pr_N (z := z) ec e6
      have hQ := pr_b (z := z) hc3 hco2 (by omega)
      refine j_iload C dL_law_516 rfl ?_
      refine j_iconst (v := 4) C dL_law_518 (by decide) ?_
      refine j_icmp_ge (tgt := 572) C dL_law_519 (by decide) (fun c_519 => ?_) (fun c_519 => ?_)
      · exact absurd ((nI_leI (a := 4) (by omega) (by omega)).mp c_519) (by omega)
      · refine j_aload_n C dL_law_522 rfl rfl ?_
        refine j_iload C dL_law_523 rfl ?_
        refine j_callXE (S := (sW _ _ _ _ _ _)) (na := 1) C dL_law_525 (c_priceTo hl (jG (eG E) ad _) σ τ zO nw nl lm (nI z) T.1 hzz) gL_law_X0_priceTo rfl rfl (by decide +kernel) rfl (Nat.le_of_ble_eq_true rfl) (by rw [R]; exact ⟨Nat.le_of_ble_eq_true rfl, Nat.le_of_ble_eq_true rfl⟩) (by rw [R]; exact ⟨hk0, hn0⟩) ?_
        refine j_iconst (v := 2) C dL_law_528 (by decide) ?_
        refine j_imul C dL_law_529 ?_
        refine j_aload_n C dL_law_530 rfl rfl ?_
        refine j_callXE (S := (sW _ _ _ _ _ _)) (na := 0) C dL_law_531 (c_price hl (jG (eG E) ad _) σ τ zO nw nl lm T.1) gL_law_X0_price rfl rfl (by decide +kernel) rfl (Nat.le_of_ble_eq_true rfl) (by rw [R]; exact ⟨Nat.le_of_ble_eq_true rfl, Nat.le_of_ble_eq_true rfl⟩) (by rw [R]; exact ⟨hk0, hn0⟩) ?_
        refine j_iload C dL_law_534 rfl ?_
        refine j_iconst (v := 2) C dL_law_536 (by decide) ?_
        refine j_iadd C dL_law_537 ?_
        refine j_imul C dL_law_538 ?_
        refine j_icmp_gt (tgt := 564) C dL_law_539 (by decide) (fun c_539 => ?_) (fun c_539 => ?_)
        · exact absurd (by rw [eQ] at c_539; exact c_539) (half_a hQ)
        · refine j_aload_n C dL_law_542 rfl rfl ?_
          refine j_iload C dL_law_543 rfl ?_
          refine j_callXE (S := (sW _ _ _ _ _ _)) (na := 1) C dL_law_545 (c_priceTo hl (jG (eG E) ad _) σ τ zO nw nl lm (nI z) T.1 hzz) gL_law_X0_priceTo rfl rfl (by decide +kernel) rfl (Nat.le_of_ble_eq_true rfl) (by rw [R]; exact ⟨Nat.le_of_ble_eq_true rfl, Nat.le_of_ble_eq_true rfl⟩) (by rw [R]; exact ⟨hk0, hn0⟩) ?_
          refine j_iconst (v := 2) C dL_law_548 (by decide) ?_
          refine j_imul C dL_law_549 ?_
          refine j_aload_n C dL_law_550 rfl rfl ?_
          refine j_callXE (S := (sW _ _ _ _ _ _)) (na := 0) C dL_law_551 (c_price hl (jG (eG E) ad _) σ τ zO nw nl lm T.1) gL_law_X0_price rfl rfl (by decide +kernel) rfl (Nat.le_of_ble_eq_true rfl) (by rw [R]; exact ⟨Nat.le_of_ble_eq_true rfl, Nat.le_of_ble_eq_true rfl⟩) (by rw [R]; exact ⟨hk0, hn0⟩) ?_
          refine j_iload C dL_law_554 rfl ?_
          refine j_iconst (v := 2) C dL_law_556 (by decide) ?_
          refine j_iadd C dL_law_557 ?_
          refine j_imul C dL_law_558 ?_
          refine j_iconst (v := 1) C dL_law_559 (by decide) ?_
          refine j_isub C dL_law_560 ?_
          refine j_icmp_ge (tgt := 566) C dL_law_561 (by decide) (fun c_561 => ?_) (fun c_561 => ?_)
          · refine j_iinc C 0 [(13, _), (7, _), (4, _), (3, _), (2, _), (1, _), (0, _)] dL_law_566 rfl (nI_i1 z) (by decide) rfl ?_
            refine j_goto (tgt := 516) C dL_law_569 (by decide) ?_
            exact ih (z + 1) (by omega)
          · exact absurd (by rw [eQ]; exact half_b hQ) c_561
  refine j_iconst (v := 0) C dL_law_513 (by decide) ?_
  refine j_istore C [(13, _), (7, _), (4, _), (3, _), (2, _), (1, _), (0, _)] dL_law_514 (by decide) rfl ?_
  exact lz 4 0 (Nat.zero_add _)
set_option maxRecDepth 100000 in
theorem nwL_law_l162 : Cond.methodLink RL 162 Lib.Math.max.name ∈ wsL_law := by decide +kernel
set_option maxRecDepth 100000 in
theorem nwL_law_smax : Cond.static Lib.Math.max.name ∈ wsL_law := by decide +kernel
set_option maxRecDepth 100000 in
theorem nwL_law_iMath : Cond.initialized "java/lang/Math" ∈ wsL_law := by decide +kernel
set_option maxRecDepth 100000 in
theorem nwL_law_kmax : Cond.code Lib.Math.max.name Lib.Math.max.code 2 (some .int) ∈ wsL_law := by decide +kernel
set_option maxHeartbeats 4000000 in
set_option maxRecDepth 100000 in
theorem lq_counts {E : gE} {b L : Nat} {xs : Nat → Int32} (C : jC E cL_law 17 RL wsL_law (some (b, L, xs))) (hl : (eL E).stackTraces = false) (R : eR E = { frames := 12, cells := 889356, slots := 6433114, locals := 462 }) {k n : Nat} (hk : k + 2 ≤ 889356) (hn0 : n ≤ 6433114) {K : Nat} {ad a : Nat → Nat} {x0 : va_W} {nw nl lm : Nat} {σ s : gS} {τ t : gT} (T : TS σ τ nw nl lm K s t) (X : Int32) (i : Nat) (hK : K < 2 ^ 30) (kk : lKK E b ad (a 100) (K + 1) k n i x0) : J E k n 393 [(9, .long (lN (wN t nw nl))), (8, .int (nI (ALx lm t nl))), (7, .int (nI nl)), (4, .int X), (3, .int (nI i)), (2, .ref (a 100)), (1, .ref (ad 100)), (0, .ref b)] [] (sW (eG E) a nl nl s t ++ (wX (eG E) ad σ τ ++ x0)) := by
  have hk0 : k ≤ 889356 := by omega
  have V := TS_V T
  have hnw := SV_nw V
  have hnl := SV_m V
  obtain ⟨lc, e5, hlc⟩ := TS_lc T
  obtain ⟨c, ec, hc0, hc1, hc2, hc3⟩ := ct_N T e5 hlc
  obtain ⟨g, eg, hg0, hg1, hg2, hg3⟩ := cc_N T e5 hlc
  have hal := AL_le V nl (Nat.le_refl _)
  have hwn := wN_le t nw nl
  have h480 : ∀ τ2 : gT, TS σ τ2 nw nl lm K s t → J E k n 480 [(12, .int (nI g)), (11, .int (nI c)), (7, .int (nI nl)), (4, .int X), (3, .int (nI i)), (2, .ref (a 100)), (1, .ref (ad 100)), (0, .ref b)] [] (sW (eG E) a nl nl s t ++ (wX (eG E) ad σ τ2 ++ x0)) := by
    intro τ2 T2
    have ct2 : CTx σ τ2 nl = nI c := (TS_ct T2).trans ((TS_ct T).symm.trans ec)
    have cc2 : CC0 σ τ2 nw nl = nI g := (TS_cc T2).trans ((TS_cc T).symm.trans eg)
    refine j_aload_n C dL_law_480 rfl rfl ?_
    refine j_callXE (S := (sW _ _ _ _ _ _)) (na := 0) C dL_law_481 (c_price hl (jG (eG E) ad _) σ τ2 zO nw nl lm T2.1) gL_law_X0_price rfl rfl (by decide +kernel) rfl (Nat.le_of_ble_eq_true rfl) (by rw [R]; exact ⟨Nat.le_of_ble_eq_true rfl, Nat.le_of_ble_eq_true rfl⟩) (by rw [R]; exact ⟨hk0, hn0⟩) ?_
    rw [ct2]
    refine j_iload C dL_law_484 rfl ?_
    refine j_aload_n C dL_law_486 rfl rfl ?_
    refine j_callXE (S := (sW _ _ _ _ _ _)) (na := 0) C dL_law_487 (c_coins hl (jG (eG E) ad _) σ τ2 zO) gL_law_X0_coins rfl rfl (by decide +kernel) rfl (Nat.le_of_ble_eq_true rfl) (by rw [R]; exact ⟨Nat.le_of_ble_eq_true rfl, Nat.le_of_ble_eq_true rfl⟩) (by rw [R]; exact ⟨hk0, hn0⟩) ?_
    refine j_imul C dL_law_490 ?_
    refine j_icmp_ne (tgt := 511) C dL_law_491 (by decide) (fun c_491 => ?_) (fun c_491 => ?_)
    · exact absurd rfl c_491
    · refine j_aload_n C dL_law_494 rfl rfl ?_
      refine j_callXi (S := (sW _ _ _ _ _ _)) (na := 0) C dL_law_495 (c_saves hl (jG (eG E) ad _) σ τ2 zO nw nl lm T2.1) gL_law_X0_saves rfl rfl (by decide +kernel) rfl (Nat.le_of_ble_eq_true rfl) (by rw [R]; exact ⟨Nat.le_of_ble_eq_true rfl, Nat.le_of_ble_eq_true rfl⟩) (by rw [R]; exact ⟨hk0, hn0⟩) (fun r3 σ3 τ3 o3 hq3 => ?_)
      obtain ⟨rfl, rfl, -, hx3⟩ := hq3
      have T3 := TS_x4 T2 hx3
      refine j_iload C dL_law_498 rfl ?_
      refine j_iload C dL_law_500 rfl ?_
      refine j_isub C dL_law_502 ?_
      refine j_aload_n C dL_law_503 rfl rfl ?_
      refine j_callXE (S := (sW _ _ _ _ _ _)) (na := 0) C dL_law_504 (c_coins hl (jG (eG E) ad _) σ3 τ3 zO) gL_law_X0_coins rfl rfl (by decide +kernel) rfl (Nat.le_of_ble_eq_true rfl) (by rw [R]; exact ⟨Nat.le_of_ble_eq_true rfl, Nat.le_of_ble_eq_true rfl⟩) (by rw [R]; exact ⟨hk0, hn0⟩) ?_
      refine j_imul C dL_law_507 ?_
      refine j_icmp_eq (tgt := 513) C dL_law_508 (by decide) (fun c_508 => ?_) (fun c_508 => ?_)
      · refine j_lv [2, 3, 4, 5, 6, 7] [(7, _), (4, _), (3, _), (2, _), (1, _), (0, _)] rfl ?_
        exact lq_half C hl R hk hn0 T3 X i hK kk
      · exact absurd (by rw [ct2, cc2, Int32.sub_mul]) c_508
  refine j_aload_n C dL_law_393 rfl rfl ?_
  refine j_callXE (S := (sW _ _ _ _ _ _)) (na := 0) C dL_law_394 (c_count hl (jG (eG E) ad _) σ τ zO nw nl lm T.1) gL_law_X0_count rfl rfl (by decide +kernel) rfl (Nat.le_of_ble_eq_true rfl) (by rw [R]; exact ⟨Nat.le_of_ble_eq_true rfl, Nat.le_of_ble_eq_true rfl⟩) (by rw [R]; exact ⟨hk0, hn0⟩) ?_
  rw [ec]
  refine j_istore C [(11, _), (9, _), (8, _), (7, _), (4, _), (3, _), (2, _), (1, _), (0, _)] dL_law_397 (by decide) rfl ?_
  refine j_aload_n C dL_law_399 rfl rfl ?_
  refine j_callXi (S := (sW _ _ _ _ _ _)) (na := 0) C dL_law_400 (c_cheapestCount hl (jG (eG E) ad _) σ τ zO nw nl lm T.1) gL_law_X0_cheapestCount rfl rfl (by decide +kernel) rfl (Nat.le_of_ble_eq_true rfl) (by rw [R]; exact ⟨Nat.le_of_ble_eq_true rfl, Nat.le_of_ble_eq_true rfl⟩) (by rw [R]; exact ⟨hk0, hn0⟩) (fun r2 σ2 τ2 o2 hq2 => ?_)
  obtain ⟨rfl, rfl, -, hx2, -⟩ := hq2
  have T2 := TS_x3 T hx2
  show J E _ _ _ _ (.int (CC0 σ2 τ nw nl) :: _) _
  rw [eg]
  refine j_istore C [(12, _), (11, _), (9, _), (8, _), (7, _), (4, _), (3, _), (2, _), (1, _), (0, _)] dL_law_403 (by decide) rfl ?_
  refine j_aload_n C dL_law_405 rfl rfl ?_
  refine j_callXE (S := (sW _ _ _ _ _ _)) (na := 0) C dL_law_406 (c_wordings hl (jG (eG E) ad _) σ2 τ2 zO nw nl lm T2.1) gL_law_X0_wordings rfl rfl (by decide +kernel) rfl (Nat.le_of_ble_eq_true rfl) (by rw [R]; exact ⟨Nat.le_of_ble_eq_true rfl, Nat.le_of_ble_eq_true rfl⟩) (by rw [R]; exact ⟨hk0, hn0⟩) ?_
  rw [TS_wo T2 nl (Nat.le_refl _)]
  refine j_i2l C dL_law_409 ?_
  rw [nI_l (by omega)]
  refine j_lload C dL_law_410 rfl ?_
  refine j_lcmp C dL_law_412 ?_
  refine j_if_ne (tgt := 511) C dL_law_413 (by decide) (fun c_413 => ?_) (fun c_413 => ?_)
  · exact absurd ((lg_cmp_eq _ _).mpr rfl) c_413
  · refine j_iload C dL_law_416 rfl ?_
    refine j_iload C dL_law_418 rfl ?_
    refine j_aload_n C dL_law_420 rfl rfl ?_
    refine j_callXE (S := (sW _ _ _ _ _ _)) (na := 0) C dL_law_421 (c_leastCount hl (jG (eG E) ad _) σ2 τ2 zO) gL_law_X0_leastCount rfl rfl (by decide +kernel) rfl (Nat.le_of_ble_eq_true rfl) (by rw [R]; exact ⟨Nat.le_of_ble_eq_true rfl, Nat.le_of_ble_eq_true rfl⟩) (by rw [R]; exact ⟨hk0, hn0⟩) ?_
    refine j_mmax C dL_law_424 nwL_law_l162 nwL_law_smax nwL_law_iMath nwL_law_kmax (by rw [R]; exact ⟨by decide, Nat.le_of_ble_eq_true rfl, hk0, hn0⟩) ?_
    rw [e5, nI_maxi (by omega) (by omega)]
    refine j_icmp_gt (tgt := 511) C dL_law_427 (by decide) (fun c_427 => ?_) (fun c_427 => ?_)
    · exact absurd c_427 (nI_nlt (by omega) (by omega))
    · refine j_iload C dL_law_430 rfl ?_
      refine j_iload C dL_law_432 rfl ?_
      refine j_aload_n C dL_law_434 rfl rfl ?_
      refine j_callXE (S := (sW _ _ _ _ _ _)) (na := 0) C dL_law_435 (c_leastCount hl (jG (eG E) ad _) σ2 τ2 zO) gL_law_X0_leastCount rfl rfl (by decide +kernel) rfl (Nat.le_of_ble_eq_true rfl) (by rw [R]; exact ⟨Nat.le_of_ble_eq_true rfl, Nat.le_of_ble_eq_true rfl⟩) (by rw [R]; exact ⟨hk0, hn0⟩) ?_
      refine j_mmax C dL_law_438 nwL_law_l162 nwL_law_smax nwL_law_iMath nwL_law_kmax (by rw [R]; exact ⟨by decide, Nat.le_of_ble_eq_true rfl, hk0, hn0⟩) ?_
      rw [e5, nI_maxi (by omega) (by omega)]
      refine j_icmp_gt (tgt := 511) C dL_law_441 (by decide) (fun c_441 => ?_) (fun c_441 => ?_)
      · exact absurd c_441 (nI_nlt (by omega) (by omega))
      · refine j_iload C dL_law_444 rfl ?_
        refine j_if_le (tgt := 467) C dL_law_446 (by decide) (fun c_446 => ?_) (fun c_446 => ?_)
        · have h0 : nl = 0 := by
            have := (nI_leI (b := 0) (by omega) (by omega)).mp c_446
            omega
          refine j_iload C dL_law_467 rfl ?_
          refine j_if_ne (tgt := 480) C dL_law_469 (by decide) (fun c_469 => ?_) (fun c_469 => ?_)
          · exact absurd (show nI nl = 0 by rw [h0]; rfl) c_469
          · refine j_iload C dL_law_472 rfl ?_
            refine j_iload C dL_law_474 rfl ?_
            refine j_iadd C dL_law_476 ?_
            rw [show nI c + nI g = 0 by rw [hc0 h0, hg0 h0]; rfl]
            refine j_if_ne (tgt := 511) C dL_law_477 (by decide) (fun c_477 => ?_) (fun c_477 => ?_)
            · exact absurd rfl c_477
            · refine j_lv [0, 1, 4, 5, 6, 7, 8, 9] [(12, _), (11, _), (7, _), (4, _), (3, _), (2, _), (1, _), (0, _)] rfl ?_
              exact h480 τ2 T2
        · have h0 : nl ≠ 0 := fun q => c_446 ((nI_leI (b := 0) (by omega) (by omega)).mpr (by omega))
          refine j_iload C dL_law_449 rfl ?_
          refine j_aload_n C dL_law_451 rfl rfl ?_
          refine j_callXE (S := (sW _ _ _ _ _ _)) (na := 0) C dL_law_452 (c_leastCount hl (jG (eG E) ad _) σ2 τ2 zO) gL_law_X0_leastCount rfl rfl (by decide +kernel) rfl (Nat.le_of_ble_eq_true rfl) (by rw [R]; exact ⟨Nat.le_of_ble_eq_true rfl, Nat.le_of_ble_eq_true rfl⟩) (by rw [R]; exact ⟨hk0, hn0⟩) ?_
          rw [e5]
          refine j_icmp_lt (tgt := 511) C dL_law_455 (by decide) (fun c_455 => ?_) (fun c_455 => ?_)
          · exact absurd c_455 (nI_nlt (hc1 h0) (by omega))
          · refine j_iload C dL_law_458 rfl ?_
            refine j_aload_n C dL_law_460 rfl rfl ?_
            refine j_callXE (S := (sW _ _ _ _ _ _)) (na := 0) C dL_law_461 (c_leastCount hl (jG (eG E) ad _) σ2 τ2 zO) gL_law_X0_leastCount rfl rfl (by decide +kernel) rfl (Nat.le_of_ble_eq_true rfl) (by rw [R]; exact ⟨Nat.le_of_ble_eq_true rfl, Nat.le_of_ble_eq_true rfl⟩) (by rw [R]; exact ⟨hk0, hn0⟩) ?_
            rw [e5]
            refine j_icmp_lt (tgt := 511) C dL_law_464 (by decide) (fun c_464 => ?_) (fun c_464 => ?_)
            · exact absurd c_464 (nI_nlt (hg1 h0) (by omega))
            · refine j_iload C dL_law_467 rfl ?_
              refine j_if_ne (tgt := 480) C dL_law_469 (by decide) (fun c_469 => ?_) (fun c_469 => ?_)
              · refine j_lv [0, 1, 4, 5, 6, 7, 8, 9] [(12, _), (11, _), (7, _), (4, _), (3, _), (2, _), (1, _), (0, _)] rfl ?_
                exact h480 τ2 T2
              · exact absurd (nI_eq0 c_469 (by omega)) h0
