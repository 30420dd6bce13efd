/-! act, the telegram -/
section
variable {E : gE} {k n pc : Nat} {lv : List (Nat × Value)} {st : List Value}
/-- the two cells behind the Sim change places -/
theorem j_sw12 {S z : va_W} {e1 e2 : Nat × va_E} (kk : J E k n pc lv st (S ++ (e2 :: e1 :: z))) : J E k n pc lv st (S ++ (e1 :: e2 :: z)) :=
  j_swap (a := S) (b := [e1, e2]) (c := z) (j_part (X := [e1, e2]) (cx := [e2, e1]) (pl := S ++ z) [1, 0] rfl rfl (j_swap (a := [e2, e1]) (b := S) (c := z) kk))
end
theorem le_m2 {p n : Nat} (hp : p < 2 ^ 30) (hn : n ≤ 16) (h : nI p ≤ nI n - 2) : p + 1 < n := by
  rcases (show n = 0 ∨ n = 1 ∨ 2 ≤ n by omega) with q | q | q
  · subst q
    exact absurd (i_tr (nI_le (Nat.zero_le p) (by omega)) h) (by decide)
  · subst q
    exact absurd (i_tr (nI_le (Nat.zero_le p) (by omega)) h) (by decide)
  · rw [show nI n - 2 = nI (n - 2) from pk_sub (b := 2) q] at h
    have := (nI_leI (by omega) (by omega)).mp h
    omega
/-- the Sim's rows behind a word struck -/
def KF (t : gT) (p i : Nat) (f g : Nat → Int32) : Prop := (∀ j, j < i → f j = t 9 (if j < p then j else j + 1) ∧ g j = (if j < p then (if j = p - 1 then 0 else t 10 j) else t 10 (j + 1))) ∧ ∀ j, g j = 0 ∨ g j = 1
theorem KF_next {t : gT} {p i : Nat} {f g : Nat → Int32} {x y : Int32} (h : KF t p i f g) (hx : x = t 9 (if i < p then i else i + 1)) (hy : y = (if i < p then (if i = p - 1 then 0 else t 10 i) else t 10 (i + 1))) (h2 : y = 0 ∨ y = 1) : KF t p (i + 1) (upd f i x) (upd g i y) := by
  refine ⟨fun j hj => ?_, upd_01 h.2 h2⟩
  by_cases e : j = i
  · rw [e, upd_eq, upd_eq]
    exact ⟨hx, hy⟩
  · rw [upd_ne e, upd_ne e]
    exact h.1 j (by omega)
set_option maxRecDepth 100000 in
theorem nwL_act_f9 : Cond.fieldLink RL 9 "TelegraphPricesLaw$Sim" "word" "[I" ∈ wsL_act := by decide +kernel
set_option maxRecDepth 100000 in
theorem nwL_act_f66 : Cond.fieldLink RL 66 "TelegraphPricesLaw$Sim" "joined" "[Z" ∈ wsL_act := by decide +kernel
set_option maxRecDepth 100000 in
theorem nwL_act_arI : Cond.arrayClass .int ∈ wsL_act := by decide +kernel
set_option maxRecDepth 100000 in
theorem nwL_act_arZ : Cond.arrayClass .boolean ∈ wsL_act := by decide +kernel
set_option maxHeartbeats 4000000 in
set_option maxRecDepth 100000 in
theorem act_strike {E : gE} (C : jC E cL_act 20 RL wsL_act none) (hl : (eL E).stackTraces = false) {K : Nat} {ad a : Nat → Nat} {x : va_W} {nw nl lm : Nat} {σ s : gS} {τ t : gT} (F : jF E (AP (eG E) ad (a 100) (K + 1) x) 514 5922 (some .boolean)) (R : eR E = { frames := 7, cells := 514, slots := 5922, locals := 224 }) (T9 : TS σ τ nw nl lm K s t) (X : Int32) (p : Nat) (hp9 : p < nl ∨ (nl = 0 ∧ p = 0)) : J E 0 0 458 [(7, .int (nI p)), (0, .ref (ad 100)), (1, .ref (a 100)), (2, .int X), (3, .int (nI nl))] [] (sW (eG E) a nl nl s t ++ (wX (eG E) ad σ τ ++ x)) := by
  have V9 := TS_V T9
  have hnw := SV_nw V9
  have hnl := SV_m V9
  have e0 : s 0 = nI nw := SV_0 V9
  have loop : nl ≠ 0 → p < nl → ∀ (q1 q2 d i : Nat) (f g : Nat → Int32), i + d = nl - 1 → KF t p i f g → J E (0 + 1 + 1) (0 + 15 + 15) 481 [(13, .int (nI i)), (12, .ref q2), (11, .ref q1), (7, .int (nI p)), (0, .ref (ad 100)), (1, .ref (a 100)), (2, .int X), (3, .int (nI nl))] [] (sW (eG E) a nl nl s t ++ ((q2, .inl (jC1 E, nl - 1, .inl g)) :: (q1, .inl (jC0 E, nl - 1, .inl f)) :: (wX (eG E) ad σ τ ++ x))) := by
    intro h0 hp q1 q2 d
    induction d with
    | zero =>
      intro i f g hi hk
      refine j_iload C dL_act_481 rfl ?_
      refine j_iload_n C dL_act_483 rfl rfl ?_
      refine j_iconst (v := 1) C dL_act_484 (by decide) ?_
      refine j_isub C dL_act_485 ?_
      rw [nI_m1 h0]
      refine j_icmp_ge (tgt := 569) C dL_act_486 (by decide) (fun c_486 => ?_) (fun c_486 => ?_)
      · refine j_sw12 ?_
        refine j_aload_n C dL_act_569 rfl rfl ?_
        refine j_aload C dL_act_570 rfl ?_
        refine jS_word C dL_act_572 nwL_act_in nwL_act_f9 ?_
        refine j_aload_n C dL_act_575 rfl rfl ?_
        refine j_aload C dL_act_576 rfl ?_
        refine jS_joined C dL_act_578 nwL_act_in nwL_act_f66 ?_
        refine j_aload_n C dL_act_581 rfl rfl ?_
        refine j_iload C dL_act_582 rfl ?_
        refine j_callXi (S := (sW _ _ _ _ _ _)) (na := 1) C dL_act_584 (c_strike hl (jG (eG E) ad _) σ τ zO nw nl lm p T9.1 hp) gL_act_X0_strike rfl rfl (by decide +kernel) rfl (Nat.le_of_ble_eq_true rfl) (by rw [R]; exact ⟨Nat.le_of_ble_eq_true rfl, Nat.le_of_ble_eq_true rfl⟩) (by rw [R]; exact ⟨Nat.le_of_ble_eq_true rfl, Nat.le_of_ble_eq_true rfl⟩) (fun r2 σ2 τ2 o2 hq => ?_)
        obtain ⟨rfl, rfl, -, hsk⟩ := hq
        refine j_iload_n C dL_act_587 rfl rfl ?_
        refine j_iconst (v := 1) C dL_act_588 (by decide) ?_
        refine j_isub C dL_act_589 ?_
        rw [nI_m1 h0]
        refine j_icmp_ne (tgt := 597) C dL_act_590 (by decide) (fun c_590 => ?_) (fun c_590 => ?_)
        · exact absurd rfl c_590
        · refine j_iconst (v := 1) C dL_act_593 (by decide) ?_
          refine j_goto (tgt := 598) C dL_act_594 (by decide) ?_
          exact j_zret C F dL_act_598 (Or.inr rfl) (Nat.le_of_ble_eq_true rfl) (Nat.le_of_ble_eq_true rfl) ⟨rfl, (aU (aU a 9 q1) 10 q2), nw, nl - 1, lm, _, _, _, _, rfl, rfl, TS_up (TS_sk T9 hp hsk (fun j hj => hk.1 j (by omega)) hk.2) (by omega)⟩
      · exact absurd (nI_le (by omega) (by omega)) c_486
    | succ d ih =>
      intro i f g hi hk
      refine j_iload C dL_act_481 rfl ?_
      refine j_iload_n C dL_act_483 rfl rfl ?_
      refine j_iconst (v := 1) C dL_act_484 (by decide) ?_
      refine j_isub C dL_act_485 ?_
      rw [nI_m1 h0]
      refine j_icmp_ge (tgt := 569) C dL_act_486 (by decide) (fun c_486 => ?_) (fun c_486 => ?_)
      · exact absurd c_486 (nI_ge (by omega) (by omega))
      · refine j_aload C dL_act_489 rfl ?_
        refine j_iload C dL_act_491 rfl ?_
        refine j_aload_n C dL_act_493 rfl rfl ?_
        refine j_get C 0 9 dL_act_494 nwL_act_in (by decide) nwL_act_f9 rfl rfl rfl ?_
        refine j_iload C dL_act_497 rfl ?_
        refine j_iload C dL_act_499 rfl ?_
        refine j_icmp_ge (tgt := 509) C dL_act_501 (by decide) (fun c_501 => ?_) (fun c_501 => ?_)
        · have hpi : ¬ i < p := fun q => c_501 |> fun z => absurd z (nI_ge q (by omega))
          refine j_iload C dL_act_509 rfl ?_
          refine j_iconst (v := 1) C dL_act_511 (by decide) ?_
          refine j_iadd C dL_act_512 ?_
          refine j_iald C 4 (i + 1) dL_act_513 rfl (nI_1 i) (by omega) (by omega) ?_
          refine jT_iast1 C (i) dL_act_514 rfl (by omega) (by omega) ?_
          refine j_aload C dL_act_515 rfl ?_
          refine j_iload C dL_act_517 rfl ?_
          refine j_iload C dL_act_519 rfl ?_
          refine j_iload C dL_act_521 rfl ?_
          refine j_icmp_ge (tgt := 553) C dL_act_523 (by decide) (fun c_523 => ?_) (fun c_523 => ?_)
          · refine j_aload_n C dL_act_553 rfl rfl ?_
            refine j_get C 0 10 dL_act_554 nwL_act_in (by decide) nwL_act_f66 rfl rfl rfl ?_
            refine j_iload C dL_act_557 rfl ?_
            refine j_iconst (v := 1) C dL_act_559 (by decide) ?_
            refine j_iadd C dL_act_560 ?_
            refine j_zald C 5 (i + 1) dL_act_561 rfl (nI_1 i) (by omega) (by omega) ?_
            refine jT_zast C (i) dL_act_562 rfl (by omega) (by omega) (SV_jd V9 (i + 1)) ?_
            refine j_iinc C 0 [(13, _), (12, _), (11, _), (7, _), (0, _), (1, _), (2, _), (3, _)] dL_act_563 rfl (nI_i1 i) (by decide) rfl ?_
            refine j_goto (tgt := 481) C dL_act_566 (by decide) ?_
            exact ih (i + 1) _ _ (by omega) (KF_next hk (by rw [if_neg hpi]) (by rw [if_neg hpi]) (SV_jd V9 (i + 1)))
          · exact absurd (nI_le (by omega) (by omega)) c_523
        · have hpi : i < p := Nat.not_le.mp (fun q => c_501 (nI_le q (by omega)))
          refine j_iload C dL_act_504 rfl ?_
          refine j_goto (tgt := 513) C dL_act_506 (by decide) ?_
          refine j_iald C 4 (i) dL_act_513 rfl rfl (by omega) (by omega) ?_
          refine jT_iast1 C (i) dL_act_514 rfl (by omega) (by omega) ?_
          refine j_aload C dL_act_515 rfl ?_
          refine j_iload C dL_act_517 rfl ?_
          refine j_iload C dL_act_519 rfl ?_
          refine j_iload C dL_act_521 rfl ?_
          refine j_icmp_ge (tgt := 553) C dL_act_523 (by decide) (fun c_523 => ?_) (fun c_523 => ?_)
          · exact absurd c_523 (nI_ge hpi (by omega))
          · refine j_iload C dL_act_526 rfl ?_
            refine j_iload C dL_act_528 rfl ?_
            refine j_iconst (v := 1) C dL_act_530 (by decide) ?_
            refine j_isub C dL_act_531 ?_
            rw [nI_m1 (show p ≠ 0 by omega)]
            refine j_icmp_eq (tgt := 549) C dL_act_532 (by decide) (fun c_532 => ?_) (fun c_532 => ?_)
            · have hip : i = p - 1 := nI_eqN c_532 (by omega) (by omega)
              refine j_iconst (v := 0) C dL_act_549 (by decide) ?_
              refine j_goto (tgt := 562) C dL_act_550 (by decide) ?_
              refine jT_zast C (i) dL_act_562 rfl (by omega) (by omega) (Or.inl rfl) ?_
              refine j_iinc C 0 [(13, _), (12, _), (11, _), (7, _), (0, _), (1, _), (2, _), (3, _)] dL_act_563 rfl (nI_i1 i) (by decide) rfl ?_
              refine j_goto (tgt := 481) C dL_act_566 (by decide) ?_
              exact ih (i + 1) _ _ (by omega) (KF_next hk (by rw [if_pos hpi]) (by rw [if_pos hpi, if_pos hip]) (Or.inl rfl))
            · have hip : ¬ i = p - 1 := fun q => c_532 (by rw [q])
              refine j_aload_n C dL_act_535 rfl rfl ?_
              refine j_get C 0 10 dL_act_536 nwL_act_in (by decide) nwL_act_f66 rfl rfl rfl ?_
              refine j_iload C dL_act_539 rfl ?_
              refine j_zald C 5 (i) dL_act_541 rfl rfl (by omega) (by omega) ?_
              refine j_if_eq (tgt := 549) C dL_act_542 (by decide) (fun c_542 => ?_) (fun c_542 => ?_)
              · refine j_iconst (v := 0) C dL_act_549 (by decide) ?_
                refine j_goto (tgt := 562) C dL_act_550 (by decide) ?_
                refine jT_zast C (i) dL_act_562 rfl (by omega) (by omega) (Or.inl rfl) ?_
                refine j_iinc C 0 [(13, _), (12, _), (11, _), (7, _), (0, _), (1, _), (2, _), (3, _)] dL_act_563 rfl (nI_i1 i) (by decide) rfl ?_
                refine j_goto (tgt := 481) C dL_act_566 (by decide) ?_
                exact ih (i + 1) _ _ (by omega) (KF_next hk (by rw [if_pos hpi]) (by rw [if_pos hpi, if_neg hip]; exact c_542.symm) (Or.inl rfl))
              · refine j_iconst (v := 1) C dL_act_545 (by decide) ?_
                refine j_goto (tgt := 562) C dL_act_546 (by decide) ?_
                refine jT_zast C (i) dL_act_562 rfl (by omega) (by omega) (Or.inr rfl) ?_
                refine j_iinc C 0 [(13, _), (12, _), (11, _), (7, _), (0, _), (1, _), (2, _), (3, _)] dL_act_563 rfl (nI_i1 i) (by decide) rfl ?_
                refine j_goto (tgt := 481) C dL_act_566 (by decide) ?_
                exact ih (i + 1) _ _ (by omega) (KF_next hk (by rw [if_pos hpi]) (by rw [if_pos hpi, if_neg hip]; exact ((SV_jd V9 i).resolve_left c_542).symm) (Or.inr rfl))
  refine j_iload_n C dL_act_458 rfl rfl ?_
  refine j_if_ne (tgt := 464) C dL_act_459 (by decide) (fun c_459 => ?_) (fun c_459 => ?_)
  · have h0 : nl ≠ 0 := fun q => c_459 (by rw [q]; rfl)
    refine j_iload_n C dL_act_464 rfl rfl ?_
    refine j_iconst (v := 1) C dL_act_465 (by decide) ?_
    refine j_isub C dL_act_466 ?_
    rw [nI_m1 h0]
    refine j_newI C (nl - 1) (15) dL_act_467 nwL_act_arI rfl (by omega) (by decide) (by rw [R]; exact Nat.le_of_ble_eq_true rfl) (by rw [R]; exact Nat.le_of_ble_eq_true rfl) (fun q1 => ?_)
    refine j_behind ?_
    refine j_astore C [(11, _), (7, _), (0, _), (1, _), (2, _), (3, _)] dL_act_469 (by decide) rfl ?_
    refine j_iload_n C dL_act_471 rfl rfl ?_
    refine j_iconst (v := 1) C dL_act_472 (by decide) ?_
    refine j_isub C dL_act_473 ?_
    rw [nI_m1 h0]
    refine j_newZ C (nl - 1) (15) dL_act_474 nwL_act_arZ rfl (by omega) (by decide) (by rw [R]; exact Nat.le_of_ble_eq_true rfl) (by rw [R]; exact Nat.le_of_ble_eq_true rfl) (fun q2 => ?_)
    refine j_behind ?_
    refine j_astore C [(12, _), (11, _), (7, _), (0, _), (1, _), (2, _), (3, _)] dL_act_476 (by decide) rfl ?_
    refine j_iconst (v := 0) C dL_act_478 (by decide) ?_
    refine j_istore C [(13, _), (12, _), (11, _), (7, _), (0, _), (1, _), (2, _), (3, _)] dL_act_479 (by decide) rfl ?_
    exact loop h0 (by omega) q1 q2 (nl - 1) 0 _ _ (Nat.zero_add _) ⟨fun j hj => absurd hj (Nat.not_lt_zero j), fun _ => Or.inl rfl⟩
  · refine j_iconst (v := 1) C dL_act_462 (by decide) ?_
    exact j_zret C F dL_act_463 (Or.inr rfl) (Nat.le_of_ble_eq_true rfl) (Nat.le_of_ble_eq_true rfl) ⟨rfl, a, nw, nl, lm, σ, s, τ, t, rfl, rfl, TS_up T9 (by omega)⟩
set_option maxHeartbeats 4000000 in
set_option maxRecDepth 100000 in
theorem act_off {E : gE} (C : jC E cL_act 20 RL wsL_act none) (hl : (eL E).stackTraces = false) {K : Nat} {ad a : Nat → Nat} {x : va_W} {nw nl lm : Nat} {σ s : gS} {τ t : gT} (F : jF E (AP (eG E) ad (a 100) (K + 1) x) 514 5922 (some .boolean)) (R : eR E = { frames := 7, cells := 514, slots := 5922, locals := 224 }) (T9 : TS σ τ nw nl lm K s t) (X : Int32) (p : Nat) (hp : p + 1 < nl) (hj : ¬ t 10 p = 0) : J E 0 0 675 [(7, .int (nI p)), (0, .ref (ad 100)), (1, .ref (a 100)), (2, .int X), (3, .int (nI nl))] [] (sW (eG E) a nl nl s t ++ (wX (eG E) ad σ τ ++ x)) := by
  have V9 := TS_V T9
  have hnw := SV_nw V9
  have hnl := SV_m V9
  have e0 : s 0 = nI nw := SV_0 V9
  have e8 := (TS_w T9 (show p < nl by omega)).2
  refine j_aload_n C dL_act_675 rfl rfl ?_
  refine j_get C 0 10 dL_act_676 nwL_act_in (by decide) nwL_act_f66 rfl rfl rfl ?_
  refine j_iload C dL_act_679 rfl ?_
  refine j_aload_n C dL_act_681 rfl rfl ?_
  refine j_get C 0 10 dL_act_682 nwL_act_in (by decide) nwL_act_f66 rfl rfl rfl ?_
  refine j_iload C dL_act_685 rfl ?_
  refine j_zald C 5 (p) dL_act_687 rfl rfl (by omega) (by omega) ?_
  refine j_if_ne (tgt := 695) C dL_act_688 (by decide) (fun c_688 => ?_) (fun c_688 => ?_)
  · refine j_iconst (v := 0) C dL_act_695 (by decide) ?_
    refine jS_zast C [] 5 10 (p) dL_act_696 rfl rfl (by omega) (by omega) (Or.inl rfl) rfl ?_
    refine j_aload_n C dL_act_697 rfl rfl ?_
    refine j_iload C dL_act_698 rfl ?_
    refine j_callXE (S := (sW _ _ _ _ _ _)) (na := 1) C dL_act_700 (c_turnJoinedOff hl (jG (eG E) ad _) σ τ zO nw nl lm p T9.1 hp (by rw [← e8]; exact hj)) gL_act_X0_turnJoined rfl rfl (by decide +kernel) rfl (Nat.le_of_ble_eq_true rfl) (by rw [R]; exact ⟨Nat.le_of_ble_eq_true rfl, Nat.le_of_ble_eq_true rfl⟩) (by rw [R]; exact ⟨Nat.le_of_ble_eq_true rfl, Nat.le_of_ble_eq_true rfl⟩) ?_
    refine j_aload_n C dL_act_703 rfl rfl ?_
    refine j_get C 0 10 dL_act_704 nwL_act_in (by decide) nwL_act_f66 rfl rfl rfl ?_
    refine j_iload C dL_act_707 rfl ?_
    refine j_zald C 5 (p) dL_act_709 rfl rfl (by omega) (by omega) ?_
    rw [uT_eq, upd_eq]
    refine j_icmp_ne (tgt := 717) C dL_act_710 (by decide) (fun c_710 => ?_) (fun c_710 => ?_)
    · exact absurd rfl c_710
    · refine j_iconst (v := 1) C dL_act_713 (by decide) ?_
      refine j_goto (tgt := 718) C dL_act_714 (by decide) ?_
      exact j_zret C F dL_act_718 (Or.inr rfl) (Nat.le_of_ble_eq_true rfl) (Nat.le_of_ble_eq_true rfl) ⟨rfl, a, nw, nl, lm, _, _, _, _, rfl, rfl, TS_up (TS_jd T9 hp (Or.inl rfl)) (by omega)⟩
  · exact absurd c_688 hj
set_option maxHeartbeats 4000000 in
set_option maxRecDepth 100000 in
theorem act_on {E : gE} (C : jC E cL_act 20 RL wsL_act none) (hl : (eL E).stackTraces = false) {K : Nat} {ad a : Nat → Nat} {x : va_W} {nw nl lm : Nat} {σ s : gS} {τ t : gT} (F : jF E (AP (eG E) ad (a 100) (K + 1) x) 514 5922 (some .boolean)) (R : eR E = { frames := 7, cells := 514, slots := 5922, locals := 224 }) (T9 : TS σ τ nw nl lm K s t) (X : Int32) (p : Nat) (hp : p + 1 < nl) (hj : t 10 p = 0) (h1 : t 10 (p + 1) = 0) (h2 : 0 < p → t 10 (p - 1) = 0) (hn : ¬ t (40 + tgF t p) (tgF t (p + 1)) = 0) : J E 0 0 675 [(7, .int (nI p)), (0, .ref (ad 100)), (1, .ref (a 100)), (2, .int X), (3, .int (nI nl))] [] (sW (eG E) a nl nl s t ++ (wX (eG E) ad σ τ ++ x)) := by
  have V9 := TS_V T9
  have hnw := SV_nw V9
  have hnl := SV_m V9
  have e0 : s 0 = nI nw := SV_0 V9
  have e8 := (TS_w T9 (show p < nl by omega)).2
  have e8b := (TS_w T9 hp).2
  obtain ⟨e7, h7⟩ := TS_tg T9 (show p < nl by omega)
  obtain ⟨e7b, h7b⟩ := TS_tg T9 hp
  have k2 : 0 < p → τ 8 (p - 1) = 0 := fun q => by rw [← (TS_w T9 (show p - 1 < nl by omega)).2]; exact h2 q
  have hc : ¬ cbj (τ 2) (τ 7) (τ 8) p = 0 := by
    unfold cbj
    rw [if_neg (fun z => by
      rcases z with ⟨z1, z2⟩ | z
      · exact z2 (k2 (by omega))
      · exact z (by rw [← e8b]; exact h1)), e7, e7b, nI_clamp (by omega), ← (TS_b T9 h7 h7b).2]
    exact hn
  refine j_aload_n C dL_act_675 rfl rfl ?_
  refine j_get C 0 10 dL_act_676 nwL_act_in (by decide) nwL_act_f66 rfl rfl rfl ?_
  refine j_iload C dL_act_679 rfl ?_
  refine j_aload_n C dL_act_681 rfl rfl ?_
  refine j_get C 0 10 dL_act_682 nwL_act_in (by decide) nwL_act_f66 rfl rfl rfl ?_
  refine j_iload C dL_act_685 rfl ?_
  refine j_zald C 5 (p) dL_act_687 rfl rfl (by omega) (by omega) ?_
  refine j_if_ne (tgt := 695) C dL_act_688 (by decide) (fun c_688 => ?_) (fun c_688 => ?_)
  · exact absurd hj c_688
  · refine j_iconst (v := 1) C dL_act_691 (by decide) ?_
    refine j_goto (tgt := 696) C dL_act_692 (by decide) ?_
    refine jS_zast C [] 5 10 (p) dL_act_696 rfl rfl (by omega) (by omega) (Or.inr rfl) rfl ?_
    refine j_aload_n C dL_act_697 rfl rfl ?_
    refine j_iload C dL_act_698 rfl ?_
    refine j_callXE (S := (sW _ _ _ _ _ _)) (na := 1) C dL_act_700 (c_turnJoinedOn hl (jG (eG E) ad _) σ τ zO nw nl lm p T9.1 hp (by rw [← e8]; exact hj) hc) gL_act_X0_turnJoined rfl rfl (by decide +kernel) rfl (Nat.le_of_ble_eq_true rfl) (by rw [R]; exact ⟨Nat.le_of_ble_eq_true rfl, Nat.le_of_ble_eq_true rfl⟩) (by rw [R]; exact ⟨Nat.le_of_ble_eq_true rfl, Nat.le_of_ble_eq_true rfl⟩) ?_
    refine j_aload_n C dL_act_703 rfl rfl ?_
    refine j_get C 0 10 dL_act_704 nwL_act_in (by decide) nwL_act_f66 rfl rfl rfl ?_
    refine j_iload C dL_act_707 rfl ?_
    refine j_zald C 5 (p) dL_act_709 rfl rfl (by omega) (by omega) ?_
    rw [uT_eq, upd_eq]
    refine j_icmp_ne (tgt := 717) C dL_act_710 (by decide) (fun c_710 => ?_) (fun c_710 => ?_)
    · exact absurd rfl c_710
    · refine j_iconst (v := 1) C dL_act_713 (by decide) ?_
      refine j_goto (tgt := 718) C dL_act_714 (by decide) ?_
      exact j_zret C F dL_act_718 (Or.inr rfl) (Nat.le_of_ble_eq_true rfl) (Nat.le_of_ble_eq_true rfl) ⟨rfl, a, nw, nl, lm, _, _, _, _, rfl, rfl, TS_up (TS_jd T9 hp (Or.inr ⟨rfl, by rw [← e8b]; exact h1, k2⟩)) (by omega)⟩
set_option maxHeartbeats 4000000 in
set_option maxRecDepth 100000 in
theorem act_joined {E : gE} (C : jC E cL_act 20 RL wsL_act none) (hl : (eL E).stackTraces = false) {K : Nat} {ad a : Nat → Nat} {x : va_W} {nw nl lm : Nat} {σ s : gS} {τ t : gT} (F : jF E (AP (eG E) ad (a 100) (K + 1) x) 514 5922 (some .boolean)) (R : eR E = { frames := 7, cells := 514, slots := 5922, locals := 224 }) (T9 : TS σ τ nw nl lm K s t) (X : Int32) (p : Nat) (hp9 : p < 16) : J E 0 0 599 [(7, .int (nI p)), (0, .ref (ad 100)), (1, .ref (a 100)), (2, .int X), (3, .int (nI nl))] [] (sW (eG E) a nl nl s t ++ (wX (eG E) ad σ τ ++ x)) := by
  have V9 := TS_V T9
  have hnw := SV_nw V9
  have hnl := SV_m V9
  have e0 : s 0 = nI nw := SV_0 V9
  refine j_iload C dL_act_599 rfl ?_
  refine j_iload_n C dL_act_601 rfl rfl ?_
  refine j_iconst (v := 2) C dL_act_602 (by decide) ?_
  refine j_isub C dL_act_603 ?_
  refine j_icmp_le (tgt := 609) C dL_act_604 (by decide) (fun c_604 => ?_) (fun c_604 => ?_)
  · have hp : p + 1 < nl := le_m2 (by omega) hnl c_604
    obtain ⟨e9, h9⟩ := SV_tg V9 (show p < nl by omega)
    obtain ⟨e9b, h9b⟩ := SV_tg V9 hp
    refine j_aload_n C dL_act_609 rfl rfl ?_
    refine j_get C 0 10 dL_act_610 nwL_act_in (by decide) nwL_act_f66 rfl rfl rfl ?_
    refine j_iload C dL_act_613 rfl ?_
    refine j_zald C 5 (p) dL_act_615 rfl rfl (by omega) (by omega) ?_
    refine j_if_ne (tgt := 675) C dL_act_616 (by decide) (fun c_616 => ?_) (fun c_616 => ?_)
    · exact act_off C hl F R T9 X p hp c_616
    · refine j_aload_n C dL_act_619 rfl rfl ?_
      refine j_get C 0 8 dL_act_620 nwL_act_in (by decide) nwL_act_f42 rfl rfl rfl ?_
      refine j_aload_n C dL_act_623 rfl rfl ?_
      refine j_get C 0 9 dL_act_624 nwL_act_in (by decide) nwL_act_f9 rfl rfl rfl ?_
      refine j_iload C dL_act_627 rfl ?_
      refine j_iald C 4 (p) dL_act_629 rfl rfl (by omega) (by omega) ?_
      rw [e9]
      refine jS_row C 3 8 40 (tgF t p) dL_act_630 rfl rfl (by omega) ?_
      refine j_aload_n C dL_act_631 rfl rfl ?_
      refine j_get C 0 9 dL_act_632 nwL_act_in (by decide) nwL_act_f9 rfl rfl rfl ?_
      refine j_iload C dL_act_635 rfl ?_
      refine j_iconst (v := 1) C dL_act_637 (by decide) ?_
      refine j_iadd C dL_act_638 ?_
      refine j_iald C 4 (p + 1) dL_act_639 rfl (nI_1 p) (by omega) (by omega) ?_
      rw [e9b]
      refine jS_jn C [] (tgF t p) (tgF t (p + 1)) dL_act_640 rfl (by omega) (by omega) ?_
      refine j_if_eq (tgt := 673) C dL_act_641 (by decide) (fun c_641 => ?_) (fun c_641 => ?_)
      · refine j_iconst (v := 1) C dL_act_673 (by decide) ?_
        exact j_zret C F dL_act_674 (Or.inr rfl) (Nat.le_of_ble_eq_true rfl) (Nat.le_of_ble_eq_true rfl) ⟨rfl, a, nw, nl, lm, σ, s, τ, t, rfl, rfl, TS_up T9 (by omega)⟩
      · refine j_aload_n C dL_act_644 rfl rfl ?_
        refine j_get C 0 10 dL_act_645 nwL_act_in (by decide) nwL_act_f66 rfl rfl rfl ?_
        refine j_iload C dL_act_648 rfl ?_
        refine j_iconst (v := 1) C dL_act_650 (by decide) ?_
        refine j_iadd C dL_act_651 ?_
        refine j_zald C 5 (p + 1) dL_act_652 rfl (nI_1 p) (by omega) (by omega) ?_
        refine j_if_ne (tgt := 673) C dL_act_653 (by decide) (fun c_653 => ?_) (fun c_653 => ?_)
        · refine j_iconst (v := 1) C dL_act_673 (by decide) ?_
          exact j_zret C F dL_act_674 (Or.inr rfl) (Nat.le_of_ble_eq_true rfl) (Nat.le_of_ble_eq_true rfl) ⟨rfl, a, nw, nl, lm, σ, s, τ, t, rfl, rfl, TS_up T9 (by omega)⟩
        · have h1 := c_653
          refine j_iload C dL_act_656 rfl ?_
          refine j_if_le (tgt := 675) C dL_act_658 (by decide) (fun c_658 => ?_) (fun c_658 => ?_)
          · exact act_on C hl F R T9 X p hp c_616 h1 (fun q => absurd c_658 (show ¬ nI p ≤ nI 0 from nI_ge q (by omega))) c_641
          · have h0 : p ≠ 0 := fun q => c_658 (by rw [q]; exact i_rf _)
            refine j_aload_n C dL_act_661 rfl rfl ?_
            refine j_get C 0 10 dL_act_662 nwL_act_in (by decide) nwL_act_f66 rfl rfl rfl ?_
            refine j_iload C dL_act_665 rfl ?_
            refine j_iconst (v := 1) C dL_act_667 (by decide) ?_
            refine j_isub C dL_act_668 ?_
            rw [nI_m1 h0]
            refine j_zald C 5 (p - 1) dL_act_669 rfl rfl (by omega) (by omega) ?_
            refine j_if_eq (tgt := 675) C dL_act_670 (by decide) (fun c_670 => ?_) (fun c_670 => ?_)
            · exact act_on C hl F R T9 X p hp c_616 h1 (fun _ => c_670) c_641
            · refine j_iconst (v := 1) C dL_act_673 (by decide) ?_
              exact j_zret C F dL_act_674 (Or.inr rfl) (Nat.le_of_ble_eq_true rfl) (Nat.le_of_ble_eq_true rfl) ⟨rfl, a, nw, nl, lm, σ, s, τ, t, rfl, rfl, TS_up T9 (by omega)⟩
  · refine j_iconst (v := 1) C dL_act_607 (by decide) ?_
    exact j_zret C F dL_act_608 (Or.inr rfl) (Nat.le_of_ble_eq_true rfl) (Nat.le_of_ble_eq_true rfl) ⟨rfl, a, nw, nl, lm, σ, s, τ, t, rfl, rfl, TS_up T9 (by omega)⟩
/-- the Sim's rows while it is worded anew -/
def RF (σ : gS) (τ : gT) (nw nl i : Nat) (t t2 : gT) : Prop := (∀ c, c ≠ 9 → c ≠ 10 → t2 c = t c) ∧ (∀ j, j < i → t2 9 j = cwd (prx σ τ nw nl) (Sx σ τ nw nl) (Ax σ τ nw nl) (Bx σ τ nw nl) j ∧ t2 10 j = cjd (prx σ τ nw nl) j) ∧ ∀ j, t2 10 j = 0 ∨ t2 10 j = 1
theorem RF_next {σ : gS} {τ t t2 : gT} {nw nl i : Nat} {x y : Int32} (h : RF σ τ nw nl i t t2) (hx : x = cwd (prx σ τ nw nl) (Sx σ τ nw nl) (Ax σ τ nw nl) (Bx σ τ nw nl) i) (hy : y = cjd (prx σ τ nw nl) i) (h2 : y = 0 ∨ y = 1) : RF σ τ nw nl (i + 1) t (uT (uT t2 9 i x) 10 i y) := by
  refine ⟨fun c h9 h10 => by rw [uT_ne h10, uT_ne h9]; exact h.1 c h9 h10, fun j hj => ?_, fun j => by rw [uT_eq]; exact upd_01 (f := uT t2 9 i x 10) (by rw [uT_ne (by decide)]; exact h.2.2) h2 j⟩
  rw [uT_ne (by decide), uT_eq, uT_eq]
  by_cases e : j = i
  · rw [e, upd_eq, upd_eq]
    exact ⟨hx, hy⟩
  · rw [upd_ne e, upd_ne e, uT_ne (by decide)]
    exact h.2.1 j (by omega)
set_option maxHeartbeats 4000000 in
set_option maxRecDepth 100000 in
theorem act_reword {E : gE} (C : jC E cL_act 20 RL wsL_act none) (hl : (eL E).stackTraces = false) {K : Nat} {ad a : Nat → Nat} {x : va_W} {nw nl lm : Nat} {σ s : gS} {τ t : gT} (F : jF E (AP (eG E) ad (a 100) (K + 1) x) 514 5922 (some .boolean)) (R : eR E = { frames := 7, cells := 514, slots := 5922, locals := 224 }) (T9 : TS σ τ nw nl lm K s t) (X : Int32)  : J E 0 0 719 [(0, .ref (ad 100)), (1, .ref (a 100)), (2, .int X), (3, .int (nI nl))] [] (sW (eG E) a nl nl s t ++ (wX (eG E) ad σ τ ++ x)) := by
  have V9 := TS_V T9
  have hnw := SV_nw V9
  have hnl := SV_m V9
  have e0 : s 0 = nI nw := SV_0 V9
  have loop : ∀ (q : Nat) (f : Nat → Int32), (∀ i, i < nl → f i = nI (wq (prx σ τ nw nl) (Sn σ τ nw nl) (Am σ τ nw nl) (Bm σ τ nw nl) i)) → ∀ (d i : Nat) (t2 : gT), i + d = nl → RF σ τ nw nl i t t2 → J E (0 + 0 + 514) (0 + 0 + 5922) 734 [(15, .int (nI i)), (14, .ref q), (13, .int (al nl (s 2) (nI (SSx lm t nl).1))), (0, .ref (ad 100)), (1, .ref (a 100)), (2, .int X), (3, .int (nI nl))] [] (sW (eG E) a nl nl s t2 ++ ((q, .inl (jC0 E, nl, .inl f)) :: (wX (eG E) ad σ τ ++ x))) := by
    intro q f hf d
    induction d with
    | zero =>
      intro i t2 hi hk
      have ei : i = nl := by omega
      subst ei
      refine j_iload C dL_act_734 rfl ?_
      refine j_iload_n C dL_act_736 rfl rfl ?_
      refine j_icmp_ge (tgt := 783) C dL_act_737 (by decide) (fun c_737 => ?_) (fun c_737 => ?_)
      · refine j_drop1 ?_
        refine j_aload_n C dL_act_783 rfl rfl ?_
        refine j_callXi (S := (sW _ _ _ _ _ _)) (na := 0) C dL_act_784 (c_reword hl (jG (eG E) ad _) σ τ zO nw i lm T9.1) gL_act_X0_reword rfl rfl (by decide +kernel) rfl (Nat.le_of_ble_eq_true rfl) (by rw [R]; exact ⟨Nat.le_of_ble_eq_true rfl, Nat.le_of_ble_eq_true rfl⟩) (by rw [R]; exact ⟨Nat.le_of_ble_eq_true rfl, Nat.le_of_ble_eq_true rfl⟩) (fun r2 σ2 τ2 o2 hq => ?_)
        obtain ⟨hr2, rfl, -, hrw⟩ := hq
        have T2 := TS_rw T9 hrw hk.1 hk.2.1 hk.2.2
        refine j_iload C dL_act_787 rfl ?_
        refine j_aload_n C dL_act_789 rfl rfl ?_
        refine j_callE (q0 := 0) (na := 0) C dL_act_790 (s_count hl (eG E) a i s t2 _ nw lm (TS_V T2)) gL_act_X1_count rfl rfl (by decide +kernel) rfl rfl (Nat.le_of_ble_eq_true rfl) (by rw [R]; exact ⟨Nat.le_of_ble_eq_true rfl, Nat.le_of_ble_eq_true rfl⟩) (by rw [R]; exact ⟨Nat.le_of_ble_eq_true rfl, Nat.le_of_ble_eq_true rfl⟩) ?_
        refine j_isub C dL_act_793 ?_
        refine j_icmp_ne (tgt := 801) C dL_act_794 (by decide) (fun c_794 => ?_) (fun c_794 => ?_)
        · exact absurd (by rw [hr2, TS_ct T9, TS_ct T2]) c_794
        · refine j_iconst (v := 1) C dL_act_797 (by decide) ?_
          refine j_goto (tgt := 802) C dL_act_798 (by decide) ?_
          exact j_zret C F dL_act_802 (Or.inr rfl) (Nat.le_of_ble_eq_true rfl) (Nat.le_of_ble_eq_true rfl) ⟨rfl, a, nw, i, lm, _, _, _, _, rfl, rfl, TS_up T2 (by omega)⟩
      · exact absurd (i_rf _) c_737
    | succ d ih =>
      intro i t2 hi hk
      have hin : i < nl := by omega
      obtain ⟨w, hw, ew, hcase⟩ := TS_wq T9 hin
      have e30 := hf i hin
      have hwq : wq (prx σ τ nw nl) (Sn σ τ nw nl) (Am σ τ nw nl) (Bm σ τ nw nl) i = w ∨ wq (prx σ τ nw nl) (Sn σ τ nw nl) (Am σ τ nw nl) (Bm σ τ nw nl) i = 100 + w := by rcases hcase with h | h; exact Or.inl h.2; exact Or.inr h.2
      have hrem : wq (prx σ τ nw nl) (Sn σ τ nw nl) (Am σ τ nw nl) (Bm σ τ nw nl) i % 100 = w := by omega
      refine j_iload C dL_act_734 rfl ?_
      refine j_iload_n C dL_act_736 rfl rfl ?_
      refine j_icmp_ge (tgt := 783) C dL_act_737 (by decide) (fun c_737 => ?_) (fun c_737 => ?_)
      · exact absurd c_737 (nI_ge hin (by omega))
      · refine j_aload_n C dL_act_740 rfl rfl ?_
        refine j_get C 0 9 dL_act_741 nwL_act_in (by decide) nwL_act_f9 rfl rfl rfl ?_
        refine j_iload C dL_act_744 rfl ?_
        refine j_aload C dL_act_746 rfl ?_
        refine j_iload C dL_act_748 rfl ?_
        refine j_iald C 30 (i) dL_act_750 rfl rfl hin (by omega) ?_
        rw [e30]
        refine j_bipush (v := 100) C dL_act_751 (by decide) ?_
        refine j_irem C dL_act_753 (by decide) ?_
        rw [show nI (wq (prx σ τ nw nl) (Sn σ τ nw nl) (Am σ τ nw nl) (Bm σ τ nw nl) i) - nI (wq (prx σ τ nw nl) (Sn σ τ nw nl) (Am σ τ nw nl) (Bm σ τ nw nl) i) / 100 * 100 = nI (wq (prx σ τ nw nl) (Sn σ τ nw nl) (Am σ τ nw nl) (Bm σ τ nw nl) i % 100) from pk_rem (d := 100) (by omega) (by decide) (by decide)]
        refine jS_iast C [] 4 9 (i) dL_act_754 rfl rfl hin (by omega) rfl ?_
        refine j_aload_n C dL_act_755 rfl rfl ?_
        refine j_get C 0 10 dL_act_756 nwL_act_in (by decide) nwL_act_f66 rfl rfl rfl ?_
        refine j_iload C dL_act_759 rfl ?_
        refine j_aload C dL_act_761 rfl ?_
        refine j_iload C dL_act_763 rfl ?_
        refine j_iald C 30 (i) dL_act_765 rfl rfl hin (by omega) ?_
        rw [e30]
        refine j_bipush (v := 100) C dL_act_766 (by decide) ?_
        refine j_icmp_lt (tgt := 775) C dL_act_768 (by decide) (fun c_768 => ?_) (fun c_768 => ?_)
        · refine j_iconst (v := 0) C dL_act_775 (by decide) ?_
          refine jS_zast C [] 5 10 (i) dL_act_776 rfl rfl hin (by omega) (Or.inl rfl) rfl ?_
          refine j_iinc C 0 [(15, _), (14, _), (13, _), (0, _), (1, _), (2, _), (3, _)] dL_act_777 rfl (nI_i1 i) (by decide) rfl ?_
          refine j_goto (tgt := 734) C dL_act_780 (by decide) ?_
          exact ih (i + 1) _ (by omega) (RF_next hk (by rw [hrem, ew]) (by rcases hcase with h | h; exact h.1.symm; exact absurd ((nI_ltI (b := 100) (by omega) (by omega)).mp c_768) (by omega)) (Or.inl rfl))
        · refine j_iconst (v := 1) C dL_act_771 (by decide) ?_
          refine j_goto (tgt := 776) C dL_act_772 (by decide) ?_
          refine jS_zast C [] 5 10 (i) dL_act_776 rfl rfl hin (by omega) (Or.inr rfl) rfl ?_
          refine j_iinc C 0 [(15, _), (14, _), (13, _), (0, _), (1, _), (2, _), (3, _)] dL_act_777 rfl (nI_i1 i) (by decide) rfl ?_
          refine j_goto (tgt := 734) C dL_act_780 (by decide) ?_
          exact ih (i + 1) _ (by omega) (RF_next hk (by rw [hrem, ew]) (by rcases hcase with h | h; exact absurd ((nI_ltI (b := 100) (by omega) (by omega)).mpr (by omega)) c_768; exact h.1.symm) (Or.inr rfl))
  refine j_aload_n C dL_act_719 rfl rfl ?_
  refine j_callE (q0 := 0) (na := 0) C dL_act_720 (s_count hl (eG E) a nl s t _ nw lm V9) gL_act_X1_count rfl rfl (by decide +kernel) rfl rfl (Nat.le_of_ble_eq_true rfl) (by rw [R]; exact ⟨Nat.le_of_ble_eq_true rfl, Nat.le_of_ble_eq_true rfl⟩) (by rw [R]; exact ⟨Nat.le_of_ble_eq_true rfl, Nat.le_of_ble_eq_true rfl⟩) ?_
  refine j_istore C [(13, _), (0, _), (1, _), (2, _), (3, _)] dL_act_723 (by decide) rfl ?_
  refine j_aload_n C dL_act_725 rfl rfl ?_
  refine j_callP (q0 := 0) (na := 0) C dL_act_726 (s_wording hl (eG E) a nl nl s t _ nw lm (prx σ τ nw nl) (Sn σ τ nw nl) (Am σ τ nw nl) (Bm σ τ nw nl) V9 (TS_WS T9)) gL_act_X1_wording rfl rfl (by decide +kernel) rfl rfl (Nat.le_of_ble_eq_true rfl) (by rw [R]; exact ⟨Nat.le_of_ble_eq_true rfl, Nat.le_of_ble_eq_true rfl⟩) (by rw [R]; exact ⟨Nat.le_of_ble_eq_true rfl, Nat.le_of_ble_eq_true rfl⟩) (fun v w' hq => ?_)
  obtain ⟨q, f, rfl, rfl, hf⟩ := hq
  show J E _ _ _ _ (.ref q :: _) _
  refine j_astore C [(14, _), (13, _), (0, _), (1, _), (2, _), (3, _)] dL_act_729 (by decide) rfl ?_
  refine j_iconst (v := 0) C dL_act_731 (by decide) ?_
  refine j_istore C [(15, _), (14, _), (13, _), (0, _), (1, _), (2, _), (3, _)] dL_act_732 (by decide) rfl ?_
  exact loop q f hf nl 0 t (Nat.zero_add _) ⟨fun c _ _ => rfl, fun j hj => absurd hj (Nat.not_lt_zero j), SV_jd V9⟩
set_option maxRecDepth 100000 in
theorem nwL_act_f88 : Cond.fieldLink RL 88 "TelegraphPricesLaw$Sim" "sent" "I" ∈ wsL_act := by decide +kernel
set_option maxRecDepth 100000 in
theorem nwL_act_f91 : Cond.fieldLink RL 91 "TelegraphPricesLaw$Sim" "earned" "I" ∈ wsL_act := by decide +kernel
set_option maxHeartbeats 4000000 in
set_option maxRecDepth 100000 in
theorem act_send {E : gE} (C : jC E cL_act 20 RL wsL_act none) (hl : (eL E).stackTraces = false) {K : Nat} {ad a : Nat → Nat} {x : va_W} {nw nl lm : Nat} {σ s : gS} {τ t : gT} (F : jF E (AP (eG E) ad (a 100) (K + 1) x) 514 5922 (some .boolean)) (R : eR E = { frames := 7, cells := 514, slots := 5922, locals := 224 }) (T9 : TS σ τ nw nl lm K s t) (X : Int32)  : J E 0 0 803 [(0, .ref (ad 100)), (1, .ref (a 100)), (2, .int X), (3, .int (nI nl))] [] (sW (eG E) a nl nl s t ++ (wX (eG E) ad σ τ ++ x)) := by
  have V9 := TS_V T9
  have hnw := SV_nw V9
  have hnl := SV_m V9
  have e0 : s 0 = nI nw := SV_0 V9
  refine j_iload_n C dL_act_803 rfl rfl ?_
  refine j_if_eq (tgt := 815) C dL_act_804 (by decide) (fun c_804 => ?_) (fun c_804 => ?_)
  · refine j_iconst (v := 1) C dL_act_815 (by decide) ?_
    exact j_zret C F dL_act_816 (Or.inr rfl) (Nat.le_of_ble_eq_true rfl) (Nat.le_of_ble_eq_true rfl) ⟨rfl, a, nw, nl, lm, σ, s, τ, t, rfl, rfl, TS_up T9 (by omega)⟩
  · have h0 : nl ≠ 0 := fun q => c_804 (by rw [q]; rfl)
    refine j_iload_n C dL_act_807 rfl rfl ?_
    refine j_iconst (v := 2) C dL_act_808 (by decide) ?_
    refine j_below (N := 2) C hl R ⟨Nat.le_of_ble_eq_true rfl, Nat.le_of_ble_eq_true rfl⟩ ⟨Nat.le_of_ble_eq_true rfl, Nat.le_of_ble_eq_true rfl⟩ (Nat.le_of_ble_eq_true rfl) dL_act_809 gL_act_L_below (by decide) (by decide) (fun r1 hr1 => ?_)
    refine j_if_ne (tgt := 817) C dL_act_812 (by decide) (fun c_812 => ?_) (fun c_812 => ?_)
    · refine j_iload_n C dL_act_817 rfl rfl ?_
      refine j_iconst (v := 2) C dL_act_818 (by decide) ?_
      refine j_ishr C dL_act_819 ?_
      refine j_iconst (v := 4) C dL_act_820 (by decide) ?_
      refine j_below (N := 4) C hl R ⟨Nat.le_of_ble_eq_true rfl, Nat.le_of_ble_eq_true rfl⟩ ⟨Nat.le_of_ble_eq_true rfl, Nat.le_of_ble_eq_true rfl⟩ (Nat.le_of_ble_eq_true rfl) dL_act_821 gL_act_L_below (by decide) (by decide) (fun r hr => ?_)
      refine j_istore C [(15, _), (0, _), (1, _), (2, _), (3, _)] dL_act_824 (by decide) rfl ?_
      refine j_aload_n C dL_act_826 rfl rfl ?_
      refine j_callE (q0 := 0) (na := 0) C dL_act_827 (s_count hl (eG E) a nl s t _ nw lm V9) gL_act_X1_count rfl rfl (by decide +kernel) rfl rfl (Nat.le_of_ble_eq_true rfl) (by rw [R]; exact ⟨Nat.le_of_ble_eq_true rfl, Nat.le_of_ble_eq_true rfl⟩) (by rw [R]; exact ⟨Nat.le_of_ble_eq_true rfl, Nat.le_of_ble_eq_true rfl⟩) ?_
      show J E _ _ _ _ (.int (al nl (s 2) (nI (SSx lm t nl).1)) :: _) _
      rw [← TS_ct T9]
      refine j_aload_n C dL_act_830 rfl rfl ?_
      refine j_get C 0 3 dL_act_831 nwL_act_in (by decide) nwL_act_f60 rfl rfl rfl ?_
      rw [(TS_n T9).2.1]
      refine j_imul C dL_act_834 ?_
      refine j_iload C dL_act_835 rfl ?_
      refine j_iconst (v := 2) C dL_act_837 (by decide) ?_
      refine j_iadd C dL_act_838 ?_
      refine j_imul C dL_act_839 ?_
      refine j_iconst (v := 2) C dL_act_840 (by decide) ?_
      refine j_idiv C dL_act_841 (by decide) ?_
      refine j_istore C [(16, _), (15, _), (0, _), (1, _), (2, _), (3, _)] dL_act_842 (by decide) rfl ?_
      refine j_aload_n C dL_act_844 rfl rfl ?_
      refine j_iconst (v := 0) C dL_act_845 (by decide) ?_
      refine j_newI C (0) (0) dL_act_846 nwL_act_arI rfl (Nat.le_refl _) (by decide) (by rw [R]; exact Nat.le_of_ble_eq_true rfl) (by rw [R]; exact Nat.le_of_ble_eq_true rfl) (fun q1 => ?_)
      refine j_behind ?_
      refine jS_word C dL_act_848 nwL_act_in nwL_act_f9 ?_
      refine j_aload_n C dL_act_851 rfl rfl ?_
      refine j_iconst (v := 0) C dL_act_852 (by decide) ?_
      refine j_newZ C (0) (0) dL_act_853 nwL_act_arZ rfl (Nat.le_refl _) (by decide) (by rw [R]; exact Nat.le_of_ble_eq_true rfl) (by rw [R]; exact Nat.le_of_ble_eq_true rfl) (fun q2 => ?_)
      refine j_behind ?_
      refine jS_joined C dL_act_855 nwL_act_in nwL_act_f66 ?_
      refine j_aload_n C dL_act_858 rfl rfl ?_
      refine j_dup C dL_act_859 rfl ?_
      refine j_get C 0 4 dL_act_860 nwL_act_in (by decide) nwL_act_f88 rfl rfl rfl ?_
      refine j_iconst (v := 1) C dL_act_863 (by decide) ?_
      refine j_iadd C dL_act_864 ?_
      refine jS_put C [] 0 4 dL_act_865 nwL_act_in (by decide) nwL_act_f88 rfl rfl (by decide +kernel) rfl (Nat.le_of_ble_eq_true rfl) rfl ?_
      refine j_aload_n C dL_act_868 rfl rfl ?_
      refine j_dup C dL_act_869 rfl ?_
      refine j_get C 0 5 dL_act_870 nwL_act_in (by decide) nwL_act_f91 rfl rfl rfl ?_
      show J E _ _ _ _ (.int (s 5) :: _) _
      refine j_iload C dL_act_873 rfl ?_
      refine j_iadd C dL_act_875 ?_
      refine jS_put C [] 0 5 dL_act_876 nwL_act_in (by decide) nwL_act_f91 rfl rfl (by decide +kernel) rfl (Nat.le_of_ble_eq_true rfl) rfl ?_
      refine j_aload_n C dL_act_879 rfl rfl ?_
      refine j_iload C dL_act_880 rfl ?_
      refine j_callXE (S := (sW _ _ _ _ _ _)) (na := 1) C dL_act_882 (c_send hl (jG (eG E) ad _) σ τ zO nw nl lm (nI r) T9.1 ⟨nI_nlt (b := 0) (by omega) (by omega), (nI_ltI (b := 4) (by omega) (by omega)).mpr hr⟩ h0) gL_act_X0_send rfl rfl (by decide +kernel) rfl (Nat.le_of_ble_eq_true rfl) (by rw [R]; exact ⟨Nat.le_of_ble_eq_true rfl, Nat.le_of_ble_eq_true rfl⟩) (by rw [R]; exact ⟨Nat.le_of_ble_eq_true rfl, Nat.le_of_ble_eq_true rfl⟩) ?_
      refine j_iload C dL_act_885 rfl ?_
      refine j_icmp_ne (tgt := 894) C dL_act_887 (by decide) (fun c_887 => ?_) (fun c_887 => ?_)
      · exact absurd rfl c_887
      · refine j_iconst (v := 1) C dL_act_890 (by decide) ?_
        refine j_goto (tgt := 895) C dL_act_891 (by decide) ?_
        exact j_zret C F dL_act_895 (Or.inr rfl) (Nat.le_of_ble_eq_true rfl) (Nat.le_of_ble_eq_true rfl) ⟨rfl, (aU (aU a 9 q1) 10 q2), nw, 0, lm, _, _, τ, _, rfl, rfl, TS_send T9 (fun _ => Or.inl rfl)⟩
    · refine j_iconst (v := 1) C dL_act_815 (by decide) ?_
      exact j_zret C F dL_act_816 (Or.inr rfl) (Nat.le_of_ble_eq_true rfl) (Nat.le_of_ble_eq_true rfl) ⟨rfl, a, nw, nl, lm, σ, s, τ, t, rfl, rfl, TS_up T9 (by omega)⟩
/-- the Sim's rows while they are copied -/
def WF (t : gT) (i : Nat) (f g : Nat → Int32) : Prop := (∀ j, j < i → f j = t 9 j ∧ g j = t 10 j) ∧ (∀ j, i ≤ j → g j = 0) ∧ ∀ j, g j = 0 ∨ g j = 1
theorem WF_next {t : gT} {i : Nat} {f g : Nat → Int32} (h : WF t i f g) (h2 : t 10 i = 0 ∨ t 10 i = 1) : WF t (i + 1) (upd f i (t 9 i)) (upd g i (t 10 i)) := by
  refine ⟨fun j hj => ?_, fun j hj => by rw [upd_ne (by omega)]; exact h.2.1 j (by omega), upd_01 h.2.2 h2⟩
  by_cases e : j = i
  · rw [e, upd_eq, upd_eq]
    exact ⟨rfl, rfl⟩
  · rw [upd_ne e, upd_ne e]
    exact h.1 j (by omega)
set_option maxHeartbeats 4000000 in
set_option maxRecDepth 100000 in
theorem act_write {E : gE} (C : jC E cL_act 20 RL wsL_act none) (hl : (eL E).stackTraces = false) {K : Nat} {ad a : Nat → Nat} {x : va_W} {nw nl lm : Nat} {σ s : gS} {τ t : gT} (F : jF E (AP (eG E) ad (a 100) (K + 1) x) 514 5922 (some .boolean)) (R : eR E = { frames := 7, cells := 514, slots := 5922, locals := 224 }) (T9 : TS σ τ nw nl lm K s t) (X : Int32) (a9 : Nat) (ha : a9 < nw) : J E 0 0 896 [(5, .int (nI a9)), (0, .ref (ad 100)), (1, .ref (a 100)), (2, .int X), (3, .int (nI nl))] [] (sW (eG E) a nl nl s t ++ (wX (eG E) ad σ τ ++ x)) := by
  have V9 := TS_V T9
  have hnw := SV_nw V9
  have hnl := SV_m V9
  have e0 : s 0 = nI nw := SV_0 V9
  have loop : nl < 16 → ∀ (q1 q2 d i : Nat) (f g : Nat → Int32), i + d = nl → WF t i f g → J E (0 + 1 + 1) (0 + 17 + 17) 921 [(19, .int (nI i)), (18, .ref q2), (17, .ref q1), (5, .int (nI a9)), (0, .ref (ad 100)), (1, .ref (a 100)), (2, .int X), (3, .int (nI nl))] [] (sW (eG E) a nl nl s t ++ ((q2, .inl (jC1 E, nl + 1, .inl g)) :: (q1, .inl (jC0 E, nl + 1, .inl f)) :: (wX (eG E) ad σ τ ++ x))) := by
    intro h16 q1 q2 d
    induction d with
    | zero =>
      intro i f g hi hk
      have ei : i = nl := by omega
      subst ei
      refine j_iload C dL_act_921 rfl ?_
      refine j_iload_n C dL_act_923 rfl rfl ?_
      refine j_icmp_ge (tgt := 957) C dL_act_924 (by decide) (fun c_924 => ?_) (fun c_924 => ?_)
      · refine j_aload C dL_act_957 rfl ?_
        refine j_iload_n C dL_act_959 rfl rfl ?_
        refine j_iload C dL_act_960 rfl ?_
        refine jT_iast1 C (i) dL_act_962 rfl (by omega) (by omega) ?_
        refine j_sw12 ?_
        refine j_aload_n C dL_act_963 rfl rfl ?_
        refine j_aload C dL_act_964 rfl ?_
        refine jS_word C dL_act_966 nwL_act_in nwL_act_f9 ?_
        refine j_aload_n C dL_act_969 rfl rfl ?_
        refine j_aload C dL_act_970 rfl ?_
        refine jS_joined C dL_act_972 nwL_act_in nwL_act_f66 ?_
        refine j_aload_n C dL_act_975 rfl rfl ?_
        refine j_iload C dL_act_976 rfl ?_
        refine j_callXE (S := (sW _ _ _ _ _ _)) (na := 1) C dL_act_978 (c_write hl (jG (eG E) ad _) σ τ zO nw i lm a9 T9.1 ha h16) gL_act_X0_write rfl rfl (by decide +kernel) rfl (Nat.le_of_ble_eq_true rfl) (by rw [R]; exact ⟨Nat.le_of_ble_eq_true rfl, Nat.le_of_ble_eq_true rfl⟩) (by rw [R]; exact ⟨Nat.le_of_ble_eq_true rfl, Nat.le_of_ble_eq_true rfl⟩) ?_
        refine j_iload_n C dL_act_981 rfl rfl ?_
        refine j_iconst (v := 1) C dL_act_982 (by decide) ?_
        refine j_iadd C dL_act_983 ?_
        rw [nI_1]
        refine j_icmp_ne (tgt := 991) C dL_act_984 (by decide) (fun c_984 => ?_) (fun c_984 => ?_)
        · exact absurd rfl c_984
        · refine j_iconst (v := 1) C dL_act_987 (by decide) ?_
          refine j_goto (tgt := 992) C dL_act_988 (by decide) ?_
          exact j_zret C F dL_act_992 (Or.inr rfl) (Nat.le_of_ble_eq_true rfl) (Nat.le_of_ble_eq_true rfl) ⟨rfl, (aU (aU a 9 q1) 10 q2), nw, i + 1, lm, _, _, _, _, rfl, rfl, TS_up (TS_write T9 ha h16 (fun j hj => ⟨by rw [upd_ne (by omega)]; exact (hk.1 j hj).1, (hk.1 j hj).2⟩) upd_eq hk.2.2 (hk.2.1 i (Nat.le_refl i))) (by omega)⟩
      · exact absurd (i_rf _) c_924
    | succ d ih =>
      intro i f g hi hk
      have hin : i < nl := by omega
      refine j_iload C dL_act_921 rfl ?_
      refine j_iload_n C dL_act_923 rfl rfl ?_
      refine j_icmp_ge (tgt := 957) C dL_act_924 (by decide) (fun c_924 => ?_) (fun c_924 => ?_)
      · exact absurd c_924 (nI_ge hin (by omega))
      · refine j_aload C dL_act_927 rfl ?_
        refine j_iload C dL_act_929 rfl ?_
        refine j_aload_n C dL_act_931 rfl rfl ?_
        refine j_get C 0 9 dL_act_932 nwL_act_in (by decide) nwL_act_f9 rfl rfl rfl ?_
        refine j_iload C dL_act_935 rfl ?_
        refine j_iald C 4 (i) dL_act_937 rfl rfl hin (by omega) ?_
        refine jT_iast1 C (i) dL_act_938 rfl (by omega) (by omega) ?_
        refine j_aload C dL_act_939 rfl ?_
        refine j_iload C dL_act_941 rfl ?_
        refine j_aload_n C dL_act_943 rfl rfl ?_
        refine j_get C 0 10 dL_act_944 nwL_act_in (by decide) nwL_act_f66 rfl rfl rfl ?_
        refine j_iload C dL_act_947 rfl ?_
        refine j_zald C 5 (i) dL_act_949 rfl rfl hin (by omega) ?_
        refine jT_zast C (i) dL_act_950 rfl (by omega) (by omega) (SV_jd V9 i) ?_
        refine j_iinc C 0 [(19, _), (18, _), (17, _), (5, _), (0, _), (1, _), (2, _), (3, _)] dL_act_951 rfl (nI_i1 i) (by decide) rfl ?_
        refine j_goto (tgt := 921) C dL_act_954 (by decide) ?_
        exact ih (i + 1) _ _ (by omega) (WF_next hk (SV_jd V9 i))
  refine j_iload_n C dL_act_896 rfl rfl ?_
  refine j_bipush (v := 16) C dL_act_897 (by decide) ?_
  refine j_icmp_ne (tgt := 904) C dL_act_899 (by decide) (fun c_899 => ?_) (fun c_899 => ?_)
  · have h16 : nl < 16 := by
      have : ¬ nl = 16 := fun q => c_899 (by rw [q]; rfl)
      omega
    refine j_iload_n C dL_act_904 rfl rfl ?_
    refine j_iconst (v := 1) C dL_act_905 (by decide) ?_
    refine j_iadd C dL_act_906 ?_
    rw [nI_1]
    refine j_newI C (nl + 1) (17) dL_act_907 nwL_act_arI rfl (by omega) (by decide) (by rw [R]; exact Nat.le_of_ble_eq_true rfl) (by rw [R]; exact Nat.le_of_ble_eq_true rfl) (fun q1 => ?_)
    refine j_behind ?_
    refine j_astore C [(17, _), (5, _), (0, _), (1, _), (2, _), (3, _)] dL_act_909 (by decide) rfl ?_
    refine j_iload_n C dL_act_911 rfl rfl ?_
    refine j_iconst (v := 1) C dL_act_912 (by decide) ?_
    refine j_iadd C dL_act_913 ?_
    rw [nI_1]
    refine j_newZ C (nl + 1) (17) dL_act_914 nwL_act_arZ rfl (by omega) (by decide) (by rw [R]; exact Nat.le_of_ble_eq_true rfl) (by rw [R]; exact Nat.le_of_ble_eq_true rfl) (fun q2 => ?_)
    refine j_behind ?_
    refine j_astore C [(18, _), (17, _), (5, _), (0, _), (1, _), (2, _), (3, _)] dL_act_916 (by decide) rfl ?_
    refine j_iconst (v := 0) C dL_act_918 (by decide) ?_
    refine j_istore C [(19, _), (18, _), (17, _), (5, _), (0, _), (1, _), (2, _), (3, _)] dL_act_919 (by decide) rfl ?_
    exact loop h16 q1 q2 nl 0 _ _ (Nat.zero_add _) ⟨fun j hj => absurd hj (Nat.not_lt_zero j), fun _ _ => rfl, fun _ => Or.inl rfl⟩
  · refine j_iconst (v := 1) C dL_act_902 (by decide) ?_
    exact j_zret C F dL_act_903 (Or.inr rfl) (Nat.le_of_ble_eq_true rfl) (Nat.le_of_ble_eq_true rfl) ⟨rfl, a, nw, nl, lm, σ, s, τ, t, rfl, rfl, TS_up T9 (by omega)⟩
