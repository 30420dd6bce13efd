/-! isSame -/
theorem dc_self {x : UInt64} (h : vf_n64 x) : Op.cmpValue (FP.dcmp x x) .l = 0 := by
  have h1 : FP.Core.dIsNaN x = false := by
    cases e : FP.Core.dIsNaN x with
    | false => rfl
    | true =>
      have h2 := (FP.Core.isNaN_bits _).mp e
      unfold vf_n64 at h
      have h3 := (UInt64.le_iff_toNat_le).mp h
      rw [UInt64.toNat_and, show (0x7fffffffffffffff : UInt64).toNat = 2 ^ 63 - 1 from rfl, Nat.and_two_pow_sub_one_eq_mod, show (0x7ff0000000000000 : UInt64).toNat = 9218868437227405312 from rfl] at h3
      omega
  have h2 : FP.dcmp x x = some .eq := FP.Core.dcmp_self ((FP.Core.notNaN_iff x).mp h1)
  rw [h2]
  rfl
theorem dc_0 : Op.cmpValue (FP.dcmp FP.dconst0 FP.dconst0) .l = 0 := by decide +kernel
set_option maxRecDepth 100000 in
theorem nwX1_isSame_f102 : Cond.fieldLink RX1 102 "TelegraphPricesLaw$Sim" "sent" "I" ∈ wsX1_isSame := by decide +kernel
set_option maxRecDepth 100000 in
theorem nwX1_isSame_in : ∀ w ∈ wsX10, w ∈ wsX1_isSame := by decide +kernel
set_option maxRecDepth 100000 in
theorem nwX1_isSame_f107 : Cond.fieldLink RX1 107 "TelegraphPricesLaw$Sim" "earned" "I" ∈ wsX1_isSame := by decide +kernel
set_option maxRecDepth 100000 in
theorem nwX1_isSame_f31 : Cond.fieldLink RX1 31 "TelegraphPricesLaw$Sim" "word" "[I" ∈ wsX1_isSame := by decide +kernel
set_option maxRecDepth 100000 in
theorem nwX1_isSame_f34 : Cond.fieldLink RX1 34 "TelegraphPricesLaw$Sim" "joined" "[Z" ∈ wsX1_isSame := by decide +kernel
set_option maxRecDepth 100000 in
theorem nwX1_isSame_c137 : Cond.constantLong RX1 137 (1000000) ∈ wsX1_isSame := by decide +kernel
set_option maxRecDepth 100000 in
theorem nwX1_isSame_f49 : Cond.fieldLink RX1 49 "TelegraphPricesLaw$Sim" "words" "I" ∈ wsX1_isSame := by decide +kernel
set_option maxRecDepth 100000 in
theorem nwX1_isSame_f19 : Cond.fieldLink RX1 19 "TelegraphPricesLaw$Sim" "letters" "[I" ∈ wsX1_isSame := by decide +kernel
set_option maxRecDepth 100000 in
theorem nwX1_isSame_f28 : Cond.fieldLink RX1 28 "TelegraphPricesLaw$Sim" "join" "[[Z" ∈ wsX1_isSame := by decide +kernel
set_option maxRecDepth 100000 in
theorem nwX1_isSame_f16 : Cond.fieldLink RX1 16 "TelegraphPricesLaw$Sim" "coins" "I" ∈ wsX1_isSame := by decide +kernel
set_option maxRecDepth 100000 in
theorem nwX1_isSame_f7 : Cond.fieldLink RX1 7 "TelegraphPricesLaw$Sim" "limit" "I" ∈ wsX1_isSame := by decide +kernel
set_option maxRecDepth 100000 in
theorem nwX1_isSame_f13 : Cond.fieldLink RX1 13 "TelegraphPricesLaw$Sim" "least" "I" ∈ wsX1_isSame := by decide +kernel
set_option maxHeartbeats 4000000 in
set_option maxRecDepth 100000 in
theorem s_isSame {l : Launch} (hl : l.stackTraces = false) (Γ : gG) {K : Nat} {ad a : Nat → Nat} {x : va_W} {nw nl lm : Nat} {σ s : gS} {τ t : gT} (T9 : TS σ τ nw nl lm K s t) : CtJ l yX1_isSame wsX1_isSame 7 224 2 34 [.ref (a 100), .ref (ad 100)] Γ none (sW Γ a nl nl s t ++ (wX Γ ad σ τ ++ x)) (fun v _ => v = some (.int 1)) := by
  refine ctj_of (by decide +kernel) rfl (Nat.le_of_ble_eq_true rfl) ?_
  intro E C F N9 hΓ hL R
  subst hΓ
  subst hL
  show J E 0 0 0 [(0, .ref (a 100)), (1, .ref (ad 100))] [] (sW (eG E) a nl nl s t ++ (wX (eG E) ad σ τ ++ x))
  have V := TS_V T9
  have hnw := SV_nw V
  have hnl := SV_m V
  have N9 := TS_n T9
  have q3 : σ 3 = s 0 := (Iv_h3 T9.1).trans (SV_0 V).symm
  have q4 : σ 4 = s 1 := (Iv_h4 T9.1).trans (SV_1 V).symm
  have tail : ∀ τ : gT, TS σ τ nw nl lm K s t → J E 2 34 396 [(3, .long (lN (wN t nw nl))), (2, .int (nI nl)), (0, .ref (a 100)), (1, .ref (ad 100))] [] (sW (eG E) a nl nl s t ++ (wX (eG E) ad σ τ ++ x)) := by
    intro τ T
    have hwn := wN_le t nw nl
    by_cases h10 : σ 10 = 0
    · refine j_aload_n C dX1_isSame_396 rfl rfl ?_
      refine j_callXE (S := (sW _ _ _ _ _ _)) (na := 0) C dX1_isSame_397 (c_wordings hl (jG (eG E) ad _) σ τ zO nw nl lm T.1) gX1_isSame_X0_wordings rfl rfl (by decide +kernel) rfl (Nat.le_of_ble_eq_true rfl) (by rw [R]; exact ⟨Nat.le_of_ble_eq_true rfl, Nat.le_of_ble_eq_true rfl⟩) (by rw [R]; exact ⟨Nat.le_of_ble_eq_true rfl, Nat.le_of_ble_eq_true rfl⟩) ?_
      rw [TS_wo T nl (Nat.le_refl _)]
      refine j_i2l C dX1_isSame_400 ?_
      rw [nI_l (by omega)]
      refine j_lload_n C dX1_isSame_401 rfl rfl ?_
      refine j_lcmp C dX1_isSame_402 ?_
      refine j_if_ne (tgt := 440) C dX1_isSame_403 (by decide) (fun c_403 => ?_) (fun c_403 => ?_)
      · exact absurd ((lg_cmp_eq _ _).mpr rfl) c_403
      · refine j_aload_n C dX1_isSame_406 rfl rfl ?_
        refine j_callXE (S := (sW _ _ _ _ _ _)) (na := 0) C dX1_isSame_407 (c_meanCost0 hl (jG (eG E) ad _) σ τ zO h10) gX1_isSame_X0_meanCost rfl rfl (by decide +kernel) rfl (Nat.le_of_ble_eq_true rfl) (by rw [R]; exact ⟨Nat.le_of_ble_eq_true rfl, Nat.le_of_ble_eq_true rfl⟩) (by rw [R]; exact ⟨Nat.le_of_ble_eq_true rfl, Nat.le_of_ble_eq_true rfl⟩) ?_
        refine j_aload_n C dX1_isSame_410 rfl rfl ?_
        refine j_get C 0 4 dX1_isSame_411 nwX1_isSame_in (by decide) nwX1_isSame_f102 rfl rfl rfl ?_
        refine j_if_ne (tgt := 421) C dX1_isSame_414 (by decide) (fun c_414 => ?_) (fun c_414 => ?_)
        · exact absurd (N9.2.2.1.trans h10) c_414
        · refine j_dconst0 C dX1_isSame_417 ?_
          refine j_goto (tgt := 432) C dX1_isSame_418 (by decide) ?_
          refine j_dcmp C dX1_isSame_432 ?_
          refine j_if_ne (tgt := 440) C dX1_isSame_433 (by decide) (fun c_433 => ?_) (fun c_433 => ?_)
          · exact absurd dc_0 c_433
          · refine j_iconst (v := 1) C dX1_isSame_436 (by decide) ?_
            refine j_goto (tgt := 441) C dX1_isSame_437 (by decide) ?_
            exact j_zret C F dX1_isSame_441 (Or.inr rfl) (Nat.le_of_ble_eq_true rfl) (Nat.le_of_ble_eq_true rfl) rfl
    · refine j_aload_n C dX1_isSame_396 rfl rfl ?_
      refine j_callXE (S := (sW _ _ _ _ _ _)) (na := 0) C dX1_isSame_397 (c_wordings hl (jG (eG E) ad _) σ τ zO nw nl lm T.1) gX1_isSame_X0_wordings rfl rfl (by decide +kernel) rfl (Nat.le_of_ble_eq_true rfl) (by rw [R]; exact ⟨Nat.le_of_ble_eq_true rfl, Nat.le_of_ble_eq_true rfl⟩) (by rw [R]; exact ⟨Nat.le_of_ble_eq_true rfl, Nat.le_of_ble_eq_true rfl⟩) ?_
      rw [TS_wo T nl (Nat.le_refl _)]
      refine j_i2l C dX1_isSame_400 ?_
      rw [nI_l (by omega)]
      refine j_lload_n C dX1_isSame_401 rfl rfl ?_
      refine j_lcmp C dX1_isSame_402 ?_
      refine j_if_ne (tgt := 440) C dX1_isSame_403 (by decide) (fun c_403 => ?_) (fun c_403 => ?_)
      · exact absurd ((lg_cmp_eq _ _).mpr rfl) c_403
      · refine j_aload_n C dX1_isSame_406 rfl rfl ?_
        refine j_callXE (S := (sW _ _ _ _ _ _)) (na := 0) C dX1_isSame_407 (c_meanCost hl (jG (eG E) ad _) σ τ zO h10 (mean_n h10)) gX1_isSame_X0_meanCost rfl rfl (by decide +kernel) rfl (Nat.le_of_ble_eq_true rfl) (by rw [R]; exact ⟨Nat.le_of_ble_eq_true rfl, Nat.le_of_ble_eq_true rfl⟩) (by rw [R]; exact ⟨Nat.le_of_ble_eq_true rfl, Nat.le_of_ble_eq_true rfl⟩) ?_
        refine j_aload_n C dX1_isSame_410 rfl rfl ?_
        refine j_get C 0 4 dX1_isSame_411 nwX1_isSame_in (by decide) nwX1_isSame_f102 rfl rfl rfl ?_
        refine j_if_ne (tgt := 421) C dX1_isSame_414 (by decide) (fun c_414 => ?_) (fun c_414 => ?_)
        · refine j_aload_n C dX1_isSame_421 rfl rfl ?_
          refine j_get C 0 5 dX1_isSame_422 nwX1_isSame_in (by decide) nwX1_isSame_f107 rfl rfl rfl ?_
          rw [N9.2.2.2]
          refine j_i2d C dX1_isSame_425 ?_
          refine j_aload_n C dX1_isSame_426 rfl rfl ?_
          refine j_get C 0 4 dX1_isSame_427 nwX1_isSame_in (by decide) nwX1_isSame_f102 rfl rfl rfl ?_
          rw [N9.2.2.1]
          refine j_i2d C dX1_isSame_430 ?_
          refine j_ddiv C dX1_isSame_431 (mean_n h10) ?_
          refine j_dcmp C dX1_isSame_432 ?_
          refine j_if_ne (tgt := 440) C dX1_isSame_433 (by decide) (fun c_433 => ?_) (fun c_433 => ?_)
          · exact absurd (dc_self (mean_n h10)) c_433
          · refine j_iconst (v := 1) C dX1_isSame_436 (by decide) ?_
            refine j_goto (tgt := 441) C dX1_isSame_437 (by decide) ?_
            exact j_zret C F dX1_isSame_441 (Or.inr rfl) (Nat.le_of_ble_eq_true rfl) (Nat.le_of_ble_eq_true rfl) rfl
        · exact absurd (N9.2.2.1.symm.trans c_414) h10
  have l3 : ∀ τ : gT, TS σ τ nw nl lm K s t → ∀ d p : Nat, p + d = nl → J E 2 34 323 [(5, .int (nI p)), (3, .long (lN (wN t nw p))), (2, .int (nI nl)), (0, .ref (a 100)), (1, .ref (ad 100))] [] (sW (eG E) a nl nl s t ++ (wX (eG E) ad σ τ ++ x)) := by
    intro τ T d
    induction d with
    | zero =>
      intro p hp
      refine j_iload C dX1_isSame_323 rfl ?_
      refine j_iload_n C dX1_isSame_325 rfl rfl ?_
      refine j_icmp_ge (tgt := 396) C dX1_isSame_326 (by decide) (fun c_326 => ?_) (fun c_326 => ?_)
      · refine j_lv [1, 2, 3, 4] [(3, _), (2, _), (0, _), (1, _)] rfl ?_
        rw [show p = nl by omega]
        exact tail τ T
      · exact absurd (nI_le (by omega) (by omega)) c_326
    | succ d ih =>
      intro p hp9
      have hp : p < nl := by omega
      have hw := (SV_tg V hp).2
      have hwn := wN_le t nw p
      have hmn := mnF_le t (tgF t p) nw
      have hmul : wN t nw p * mnF t (tgF t p) nw ≤ 1000000 * 12 := Nat.mul_le_mul hwn (by omega)
      have ew : wN t nw (p + 1) = min 1000000 (wN t nw p * mnF t (tgF t p) nw) := rfl
      refine j_iload C dX1_isSame_323 rfl ?_
      refine j_iload_n C dX1_isSame_325 rfl rfl ?_
      refine j_icmp_ge (tgt := 396) C dX1_isSame_326 (by decide) (fun c_326 => ?_) (fun c_326 => ?_)
      · exact absurd c_326 (nI_ge (by omega) (by omega))
      · refine j_aload_n C dX1_isSame_329 rfl rfl ?_
        refine j_iload C dX1_isSame_330 rfl ?_
        refine j_callXE (S := (sW _ _ _ _ _ _)) (na := 1) C dX1_isSame_332 (c_wordAt hl (jG (eG E) ad _) σ τ zO nw nl lm p T.1 hp) gX1_isSame_X0_wordAt rfl rfl (by decide +kernel) rfl (Nat.le_of_ble_eq_true rfl) (by rw [R]; exact ⟨Nat.le_of_ble_eq_true rfl, Nat.le_of_ble_eq_true rfl⟩) (by rw [R]; exact ⟨Nat.le_of_ble_eq_true rfl, Nat.le_of_ble_eq_true rfl⟩) ?_
        refine j_aload_n C dX1_isSame_335 rfl rfl ?_
        refine j_get C 0 9 dX1_isSame_336 nwX1_isSame_in (by decide) nwX1_isSame_f31 rfl rfl rfl ?_
        refine j_iload C dX1_isSame_339 rfl ?_
        refine j_iald C 4 (p) dX1_isSame_341 rfl rfl hp (by omega) ?_
        refine j_icmp_ne (tgt := 361) C dX1_isSame_342 (by decide) (fun c_342 => ?_) (fun c_342 => ?_)
        · exact absurd (TS_w T hp).1.symm c_342
        · refine j_aload_n C dX1_isSame_345 rfl rfl ?_
          refine j_iload C dX1_isSame_346 rfl ?_
          refine j_callXE (S := (sW _ _ _ _ _ _)) (na := 1) C dX1_isSame_348 (c_isJoined hl (jG (eG E) ad _) σ τ zO nw nl lm p T.1 hp) gX1_isSame_X0_isJoined rfl rfl (by decide +kernel) rfl (Nat.le_of_ble_eq_true rfl) (by rw [R]; exact ⟨Nat.le_of_ble_eq_true rfl, Nat.le_of_ble_eq_true rfl⟩) (by rw [R]; exact ⟨Nat.le_of_ble_eq_true rfl, Nat.le_of_ble_eq_true rfl⟩) ?_
          refine j_aload_n C dX1_isSame_351 rfl rfl ?_
          refine j_get C 0 10 dX1_isSame_352 nwX1_isSame_in (by decide) nwX1_isSame_f34 rfl rfl rfl ?_
          refine j_iload C dX1_isSame_355 rfl ?_
          refine j_zald C 5 (p) dX1_isSame_357 rfl rfl hp (by omega) ?_
          refine j_icmp_eq (tgt := 363) C dX1_isSame_358 (by decide) (fun c_358 => ?_) (fun c_358 => ?_)
          · refine j_lload_n C dX1_isSame_363 rfl rfl ?_
            refine j_aload_n C dX1_isSame_364 rfl rfl ?_
            refine j_aload_n C dX1_isSame_365 rfl rfl ?_
            refine j_get C 0 9 dX1_isSame_366 nwX1_isSame_in (by decide) nwX1_isSame_f31 rfl rfl rfl ?_
            refine j_iload C dX1_isSame_369 rfl ?_
            refine j_iald C 4 (p) dX1_isSame_371 rfl rfl hp (by omega) ?_
            rw [(SV_tg V hp).1]
            refine j_callXE (S := (sW _ _ _ _ _ _)) (na := 1) C dX1_isSame_372 (c_standInsOf hl (jG (eG E) ad _) σ τ zO nw nl lm (tgF t p) T.1 hw) gX1_isSame_X0_standInsOf rfl rfl (by decide +kernel) rfl (Nat.le_of_ble_eq_true rfl) (by rw [R]; exact ⟨Nat.le_of_ble_eq_true rfl, Nat.le_of_ble_eq_true rfl⟩) (by rw [R]; exact ⟨Nat.le_of_ble_eq_true rfl, Nat.le_of_ble_eq_true rfl⟩) ?_
            rw [(TS_mn T hw).1]
            refine j_i2l C dX1_isSame_375 ?_
            rw [nI_l (by omega)]
            refine j_lmul C dX1_isSame_376 ?_
            rw [lN_mul]
            refine j_lstore_n C [(3, _), (5, _), (2, _), (0, _), (1, _)] dX1_isSame_377 rfl (by decide) rfl ?_
            refine j_lload_n C dX1_isSame_378 rfl rfl ?_
            refine j_ldc2 C dX1_isSame_379 nwX1_isSame_c137 ?_
            refine j_lcmp C dX1_isSame_382 ?_
            refine j_if_le (tgt := 390) C dX1_isSame_383 (by decide) (fun c_383 => ?_) (fun c_383 => ?_)
            · have hle := (lN_le (b := 1000000) (by omega) (by omega)).mp ((lg_cmp_le _ _).mp c_383)
              refine j_iinc C 1 [(5, _), (3, _), (2, _), (0, _), (1, _)] dX1_isSame_390 rfl (nI_i1 p) (by decide) rfl ?_
              refine j_goto (tgt := 323) C dX1_isSame_393 (by decide) ?_
              rw [show wN t nw p * mnF t (tgF t p) nw = wN t nw (p + 1) by omega]
              exact ih (p + 1) (by omega)
            · have hgt : ¬ wN t nw p * mnF t (tgF t p) nw ≤ 1000000 := fun q => c_383 ((lg_cmp_le _ _).mpr ((lN_le (b := 1000000) (by omega) (by omega)).mpr q))
              refine j_ldc2 C dX1_isSame_386 nwX1_isSame_c137 ?_
              refine j_lstore_n C [(3, _), (5, _), (2, _), (0, _), (1, _)] dX1_isSame_389 rfl (by decide) rfl ?_
              refine j_iinc C 1 [(5, _), (3, _), (2, _), (0, _), (1, _)] dX1_isSame_390 rfl (nI_i1 p) (by decide) rfl ?_
              refine j_goto (tgt := 323) C dX1_isSame_393 (by decide) ?_
              rw [show (1000000 : Int64) = lN (wN t nw (p + 1)) by rw [show wN t nw (p + 1) = 1000000 by omega]; rfl]
              exact ih (p + 1) (by omega)
          · exact absurd (TS_w T hp).2.symm c_358
  have lw : ∀ τ : gT, TS σ τ nw nl lm K s t → ∀ d w9 : Nat, w9 + d = nw → J E 2 34 181 [(3, .int (nI w9)), (2, .int (nI nl)), (0, .ref (a 100)), (1, .ref (ad 100))] [] (sW (eG E) a nl nl s t ++ (wX (eG E) ad σ τ ++ x)) := by
    intro τ T d
    induction d with
    | zero =>
      intro w9 hw9
      refine j_iload_n C dX1_isSame_181 rfl rfl ?_
      refine j_aload_n C dX1_isSame_182 rfl rfl ?_
      refine j_get C 0 0 dX1_isSame_183 nwX1_isSame_in (by decide) nwX1_isSame_f49 rfl rfl rfl ?_
      refine j_icmp_ge (tgt := 318) C dX1_isSame_186 (by decide) (fun c_186 => ?_) (fun c_186 => ?_)
      · refine j_lconst (v := 1) C dX1_isSame_318 (by decide) ?_
        refine j_lstore_n C [(3, _), (2, _), (0, _), (1, _)] dX1_isSame_319 rfl (by decide) rfl ?_
        refine j_iconst (v := 0) C dX1_isSame_320 (by decide) ?_
        refine j_istore C [(5, _), (3, _), (2, _), (0, _), (1, _)] dX1_isSame_321 (by decide) rfl ?_
        exact l3 τ T nl 0 (Nat.zero_add _)
      · exact absurd (by rw [SV_0 V]; exact nI_le (by omega) (by omega)) c_186
    | succ d ih =>
      intro w9 hw9
      have hw : w9 < nw := by omega
      have lb : ∀ e b : Nat, b + e = nw → J E 2 34 195 [(5, .int (nI b)), (4, .int (nI (mnF t w9 b))), (3, .int (nI w9)), (2, .int (nI nl)), (0, .ref (a 100)), (1, .ref (ad 100))] [] (sW (eG E) a nl nl s t ++ (wX (eG E) ad σ τ ++ x)) := by
        intro e
        induction e with
        | zero =>
          intro b hb
          refine j_iload C dX1_isSame_195 rfl ?_
          refine j_aload_n C dX1_isSame_197 rfl rfl ?_
          refine j_get C 0 0 dX1_isSame_198 nwX1_isSame_in (by decide) nwX1_isSame_f49 rfl rfl rfl ?_
          refine j_icmp_ge (tgt := 268) C dX1_isSame_201 (by decide) (fun c_201 => ?_) (fun c_201 => ?_)
          · refine j_aload_n C dX1_isSame_268 rfl rfl ?_
            refine j_iload_n C dX1_isSame_269 rfl rfl ?_
            refine j_callXE (S := (sW _ _ _ _ _ _)) (na := 1) C dX1_isSame_270 (c_lettersOf hl (jG (eG E) ad _) σ τ zO nw nl lm w9 T.1 hw) gX1_isSame_X0_lettersOf rfl rfl (by decide +kernel) rfl (Nat.le_of_ble_eq_true rfl) (by rw [R]; exact ⟨Nat.le_of_ble_eq_true rfl, Nat.le_of_ble_eq_true rfl⟩) (by rw [R]; exact ⟨Nat.le_of_ble_eq_true rfl, Nat.le_of_ble_eq_true rfl⟩) ?_
            refine j_aload_n C dX1_isSame_273 rfl rfl ?_
            refine j_get C 0 6 dX1_isSame_274 nwX1_isSame_in (by decide) nwX1_isSame_f19 rfl rfl rfl ?_
            refine j_iload_n C dX1_isSame_277 rfl rfl ?_
            refine j_iald C 1 (w9) dX1_isSame_278 rfl rfl (by omega) (by decide) ?_
            refine j_icmp_ne (tgt := 310) C dX1_isSame_279 (by decide) (fun c_279 => ?_) (fun c_279 => ?_)
            · exact absurd (TS_l T hw).symm c_279
            · refine j_aload_n C dX1_isSame_282 rfl rfl ?_
              refine j_iload_n C dX1_isSame_283 rfl rfl ?_
              refine j_callXE (S := (sW _ _ _ _ _ _)) (na := 1) C dX1_isSame_284 (c_countOf hl (jG (eG E) ad _) σ τ zO nw nl lm w9 T.1 hw) gX1_isSame_X0_countOf rfl rfl (by decide +kernel) rfl (Nat.le_of_ble_eq_true rfl) (by rw [R]; exact ⟨Nat.le_of_ble_eq_true rfl, Nat.le_of_ble_eq_true rfl⟩) (by rw [R]; exact ⟨Nat.le_of_ble_eq_true rfl, Nat.le_of_ble_eq_true rfl⟩) ?_
              refine j_aload_n C dX1_isSame_287 rfl rfl ?_
              refine j_aload_n C dX1_isSame_288 rfl rfl ?_
              refine j_get C 0 6 dX1_isSame_289 nwX1_isSame_in (by decide) nwX1_isSame_f19 rfl rfl rfl ?_
              refine j_iload_n C dX1_isSame_292 rfl rfl ?_
              refine j_iald C 1 (w9) dX1_isSame_293 rfl rfl (by omega) (by decide) ?_
              rw [(SV_lt V hw).1]
              refine j_callE (q0 := 0) (na := 1) C dX1_isSame_294 (s_counts hl (eG E) a nl nl s t _ lm (ltF t w9) (SV_1 V) (SV_lm V) (by have := (SV_lt V hw).2; omega)) gX1_isSame_X1_counts rfl rfl (by decide +kernel) rfl rfl (Nat.le_of_ble_eq_true rfl) (by rw [R]; exact ⟨Nat.le_of_ble_eq_true rfl, Nat.le_of_ble_eq_true rfl⟩) (by rw [R]; exact ⟨Nat.le_of_ble_eq_true rfl, Nat.le_of_ble_eq_true rfl⟩) ?_
              refine j_icmp_ne (tgt := 310) C dX1_isSame_297 (by decide) (fun c_297 => ?_) (fun c_297 => ?_)
              · exact absurd (TS_c1 T hw).1 c_297
              · refine j_aload_n C dX1_isSame_300 rfl rfl ?_
                refine j_iload_n C dX1_isSame_301 rfl rfl ?_
                refine j_callXE (S := (sW _ _ _ _ _ _)) (na := 1) C dX1_isSame_302 (c_standInsOf hl (jG (eG E) ad _) σ τ zO nw nl lm w9 T.1 hw) gX1_isSame_X0_standInsOf rfl rfl (by decide +kernel) rfl (Nat.le_of_ble_eq_true rfl) (by rw [R]; exact ⟨Nat.le_of_ble_eq_true rfl, Nat.le_of_ble_eq_true rfl⟩) (by rw [R]; exact ⟨Nat.le_of_ble_eq_true rfl, Nat.le_of_ble_eq_true rfl⟩) ?_
                refine j_iload C dX1_isSame_305 rfl ?_
                refine j_icmp_eq (tgt := 312) C dX1_isSame_307 (by decide) (fun c_307 => ?_) (fun c_307 => ?_)
                · refine j_iinc C 2 [(3, _), (5, _), (4, _), (2, _), (0, _), (1, _)] dX1_isSame_312 rfl (nI_i1 w9) (by decide) rfl ?_
                  refine j_goto (tgt := 181) C dX1_isSame_315 (by decide) ?_
                  refine j_lv [0, 3, 4, 5] [(3, _), (2, _), (0, _), (1, _)] rfl ?_
                  exact ih (w9 + 1) (by omega)
                · exact absurd (by rw [show b = nw by omega]; exact (TS_mn T hw).1) c_307
          · exact absurd (by rw [SV_0 V]; exact nI_le (by omega) (by omega)) c_201
        | succ e ih2 =>
          intro b hb
          have hbn : b < nw := by omega
          refine j_iload C dX1_isSame_195 rfl ?_
          refine j_aload_n C dX1_isSame_197 rfl rfl ?_
          refine j_get C 0 0 dX1_isSame_198 nwX1_isSame_in (by decide) nwX1_isSame_f49 rfl rfl rfl ?_
          refine j_icmp_ge (tgt := 268) C dX1_isSame_201 (by decide) (fun c_201 => ?_) (fun c_201 => ?_)
          · exact absurd (by rw [SV_0 V] at c_201; exact c_201) (nI_ge (by omega) (by omega))
          · refine j_iload C dX1_isSame_204 rfl ?_
            refine j_aload_n C dX1_isSame_206 rfl rfl ?_
            refine j_iload_n C dX1_isSame_207 rfl rfl ?_
            refine j_iload C dX1_isSame_208 rfl ?_
            refine j_callE (q0 := 0) (na := 2) C dX1_isSame_210 (s_may hl (eG E) a nl nl s t _ w9 b (by omega) (by omega)) gX1_isSame_X1_may rfl rfl (by decide +kernel) rfl rfl (Nat.le_of_ble_eq_true rfl) (by rw [R]; exact ⟨Nat.le_of_ble_eq_true rfl, Nat.le_of_ble_eq_true rfl⟩) (by rw [R]; exact ⟨Nat.le_of_ble_eq_true rfl, Nat.le_of_ble_eq_true rfl⟩) ?_
            refine j_if_eq (tgt := 220) C dX1_isSame_213 (by decide) (fun c_213 => ?_) (fun c_213 => ?_)
            · have hm := zb_0 c_213
              refine j_iconst (v := 0) C dX1_isSame_220 (by decide) ?_
              refine j_iadd C dX1_isSame_221 ?_
              rw [show nI (mnF t w9 b) + 0 = nI (mnF t w9 (b + 1)) by
                show _ = nI (mnF t w9 b + (if mayF t w9 b = true then 1 else 0))
                rw [hm]
                exact Int32.add_zero _]
              refine j_istore C [(4, _), (5, _), (3, _), (2, _), (0, _), (1, _)] dX1_isSame_222 (by decide) rfl ?_
              refine j_aload_n C dX1_isSame_224 rfl rfl ?_
              refine j_iload_n C dX1_isSame_225 rfl rfl ?_
              refine j_iload C dX1_isSame_226 rfl ?_
              refine j_callXE (S := (sW _ _ _ _ _ _)) (na := 2) C dX1_isSame_228 (c_mayStandFor hl (jG (eG E) ad _) σ τ zO nw nl lm w9 b T.1 hw hbn) gX1_isSame_X0_mayStandFor rfl rfl (by decide +kernel) rfl (Nat.le_of_ble_eq_true rfl) (by rw [R]; exact ⟨Nat.le_of_ble_eq_true rfl, Nat.le_of_ble_eq_true rfl⟩) (by rw [R]; exact ⟨Nat.le_of_ble_eq_true rfl, Nat.le_of_ble_eq_true rfl⟩) ?_
              refine j_aload_n C dX1_isSame_231 rfl rfl ?_
              refine j_iload_n C dX1_isSame_232 rfl rfl ?_
              refine j_iload C dX1_isSame_233 rfl ?_
              refine j_callE (q0 := 0) (na := 2) C dX1_isSame_235 (s_may hl (eG E) a nl nl s t _ w9 b (by omega) (by omega)) gX1_isSame_X1_may rfl rfl (by decide +kernel) rfl rfl (Nat.le_of_ble_eq_true rfl) (by rw [R]; exact ⟨Nat.le_of_ble_eq_true rfl, Nat.le_of_ble_eq_true rfl⟩) (by rw [R]; exact ⟨Nat.le_of_ble_eq_true rfl, Nat.le_of_ble_eq_true rfl⟩) ?_
              refine j_icmp_ne (tgt := 260) C dX1_isSame_238 (by decide) (fun c_238 => ?_) (fun c_238 => ?_)
              · exact absurd (TS_may T hw hbn) c_238
              · refine j_aload_n C dX1_isSame_241 rfl rfl ?_
                refine j_iload_n C dX1_isSame_242 rfl rfl ?_
                refine j_iload C dX1_isSame_243 rfl ?_
                refine j_callXE (S := (sW _ _ _ _ _ _)) (na := 2) C dX1_isSame_245 (c_mayJoin hl (jG (eG E) ad _) σ τ zO nw nl lm w9 b T.1 hw hbn) gX1_isSame_X0_mayJoin rfl rfl (by decide +kernel) rfl (Nat.le_of_ble_eq_true rfl) (by rw [R]; exact ⟨Nat.le_of_ble_eq_true rfl, Nat.le_of_ble_eq_true rfl⟩) (by rw [R]; exact ⟨Nat.le_of_ble_eq_true rfl, Nat.le_of_ble_eq_true rfl⟩) ?_
                refine j_aload_n C dX1_isSame_248 rfl rfl ?_
                refine j_get C 0 8 dX1_isSame_249 nwX1_isSame_in (by decide) nwX1_isSame_f28 rfl rfl rfl ?_
                refine j_iload_n C dX1_isSame_252 rfl rfl ?_
                refine jS_row C 3 8 40 (w9) dX1_isSame_253 rfl rfl (by omega) ?_
                refine j_iload C dX1_isSame_254 rfl ?_
                refine jS_jn C [] (w9) (b) dX1_isSame_256 rfl (by omega) (by omega) ?_
                refine j_icmp_eq (tgt := 262) C dX1_isSame_257 (by decide) (fun c_257 => ?_) (fun c_257 => ?_)
                · refine j_iinc C 1 [(5, _), (4, _), (3, _), (2, _), (0, _), (1, _)] dX1_isSame_262 rfl (nI_i1 b) (by decide) rfl ?_
                  refine j_goto (tgt := 195) C dX1_isSame_265 (by decide) ?_
                  exact ih2 (b + 1) (by omega)
                · exact absurd (TS_b T hw hbn).2.symm c_257
            · have hm := zb_1 c_213
              refine j_iconst (v := 1) C dX1_isSame_216 (by decide) ?_
              refine j_goto (tgt := 221) C dX1_isSame_217 (by decide) ?_
              refine j_iadd C dX1_isSame_221 ?_
              rw [show nI (mnF t w9 b) + 1 = nI (mnF t w9 (b + 1)) by
                show _ = nI (mnF t w9 b + (if mayF t w9 b = true then 1 else 0))
                rw [hm]
                exact nI_1 _]
              refine j_istore C [(4, _), (5, _), (3, _), (2, _), (0, _), (1, _)] dX1_isSame_222 (by decide) rfl ?_
              refine j_aload_n C dX1_isSame_224 rfl rfl ?_
              refine j_iload_n C dX1_isSame_225 rfl rfl ?_
              refine j_iload C dX1_isSame_226 rfl ?_
              refine j_callXE (S := (sW _ _ _ _ _ _)) (na := 2) C dX1_isSame_228 (c_mayStandFor hl (jG (eG E) ad _) σ τ zO nw nl lm w9 b T.1 hw hbn) gX1_isSame_X0_mayStandFor rfl rfl (by decide +kernel) rfl (Nat.le_of_ble_eq_true rfl) (by rw [R]; exact ⟨Nat.le_of_ble_eq_true rfl, Nat.le_of_ble_eq_true rfl⟩) (by rw [R]; exact ⟨Nat.le_of_ble_eq_true rfl, Nat.le_of_ble_eq_true rfl⟩) ?_
              refine j_aload_n C dX1_isSame_231 rfl rfl ?_
              refine j_iload_n C dX1_isSame_232 rfl rfl ?_
              refine j_iload C dX1_isSame_233 rfl ?_
              refine j_callE (q0 := 0) (na := 2) C dX1_isSame_235 (s_may hl (eG E) a nl nl s t _ w9 b (by omega) (by omega)) gX1_isSame_X1_may rfl rfl (by decide +kernel) rfl rfl (Nat.le_of_ble_eq_true rfl) (by rw [R]; exact ⟨Nat.le_of_ble_eq_true rfl, Nat.le_of_ble_eq_true rfl⟩) (by rw [R]; exact ⟨Nat.le_of_ble_eq_true rfl, Nat.le_of_ble_eq_true rfl⟩) ?_
              refine j_icmp_ne (tgt := 260) C dX1_isSame_238 (by decide) (fun c_238 => ?_) (fun c_238 => ?_)
              · exact absurd (TS_may T hw hbn) c_238
              · refine j_aload_n C dX1_isSame_241 rfl rfl ?_
                refine j_iload_n C dX1_isSame_242 rfl rfl ?_
                refine j_iload C dX1_isSame_243 rfl ?_
                refine j_callXE (S := (sW _ _ _ _ _ _)) (na := 2) C dX1_isSame_245 (c_mayJoin hl (jG (eG E) ad _) σ τ zO nw nl lm w9 b T.1 hw hbn) gX1_isSame_X0_mayJoin rfl rfl (by decide +kernel) rfl (Nat.le_of_ble_eq_true rfl) (by rw [R]; exact ⟨Nat.le_of_ble_eq_true rfl, Nat.le_of_ble_eq_true rfl⟩) (by rw [R]; exact ⟨Nat.le_of_ble_eq_true rfl, Nat.le_of_ble_eq_true rfl⟩) ?_
                refine j_aload_n C dX1_isSame_248 rfl rfl ?_
                refine j_get C 0 8 dX1_isSame_249 nwX1_isSame_in (by decide) nwX1_isSame_f28 rfl rfl rfl ?_
                refine j_iload_n C dX1_isSame_252 rfl rfl ?_
                refine jS_row C 3 8 40 (w9) dX1_isSame_253 rfl rfl (by omega) ?_
                refine j_iload C dX1_isSame_254 rfl ?_
                refine jS_jn C [] (w9) (b) dX1_isSame_256 rfl (by omega) (by omega) ?_
                refine j_icmp_eq (tgt := 262) C dX1_isSame_257 (by decide) (fun c_257 => ?_) (fun c_257 => ?_)
                · refine j_iinc C 1 [(5, _), (4, _), (3, _), (2, _), (0, _), (1, _)] dX1_isSame_262 rfl (nI_i1 b) (by decide) rfl ?_
                  refine j_goto (tgt := 195) C dX1_isSame_265 (by decide) ?_
                  exact ih2 (b + 1) (by omega)
                · exact absurd (TS_b T hw hbn).2.symm c_257
      refine j_iload_n C dX1_isSame_181 rfl rfl ?_
      refine j_aload_n C dX1_isSame_182 rfl rfl ?_
      refine j_get C 0 0 dX1_isSame_183 nwX1_isSame_in (by decide) nwX1_isSame_f49 rfl rfl rfl ?_
      refine j_icmp_ge (tgt := 318) C dX1_isSame_186 (by decide) (fun c_186 => ?_) (fun c_186 => ?_)
      · exact absurd (by rw [SV_0 V] at c_186; exact c_186) (nI_ge (by omega) (by omega))
      · refine j_iconst (v := 0) C dX1_isSame_189 (by decide) ?_
        refine j_istore C [(4, _), (3, _), (2, _), (0, _), (1, _)] dX1_isSame_190 (by decide) rfl ?_
        refine j_iconst (v := 0) C dX1_isSame_192 (by decide) ?_
        refine j_istore C [(5, _), (4, _), (3, _), (2, _), (0, _), (1, _)] dX1_isSame_193 (by decide) rfl ?_
        exact lb nw 0 (Nat.zero_add _)
  have lp : ∀ τ : gT, TS σ τ nw nl lm K s t → ∀ d z : Nat, z + d = 4 → J E 2 34 143 [(3, .int (nI z)), (2, .int (nI nl)), (0, .ref (a 100)), (1, .ref (ad 100))] [] (sW (eG E) a nl nl s t ++ (wX (eG E) ad σ τ ++ x)) := by
    intro τ T d
    induction d with
    | zero =>
      intro z hz
      refine j_iload_n C dX1_isSame_143 rfl rfl ?_
      refine j_iconst (v := 4) C dX1_isSame_144 (by decide) ?_
      refine j_icmp_ge (tgt := 179) C dX1_isSame_145 (by decide) (fun c_145 => ?_) (fun c_145 => ?_)
      · refine j_iconst (v := 0) C dX1_isSame_179 (by decide) ?_
        refine j_istore_n C [(3, _), (2, _), (0, _), (1, _)] dX1_isSame_180 rfl (by decide) rfl ?_
        exact lw τ T nw 0 (Nat.zero_add _)
      · exact absurd ((nI_leI (a := 4) (by omega) (by omega)).mpr (by omega)) c_145
    | succ d ih =>
      intro z hz
      refine j_iload_n C dX1_isSame_143 rfl rfl ?_
      refine j_iconst (v := 4) C dX1_isSame_144 (by decide) ?_
      refine j_icmp_ge (tgt := 179) C dX1_isSame_145 (by decide) (fun c_145 => ?_) (fun c_145 => ?_)
      · exact absurd ((nI_leI (a := 4) (by omega) (by omega)).mp c_145) (by omega)
      · refine j_aload_n C dX1_isSame_148 rfl rfl ?_
        refine j_iload_n C dX1_isSame_149 rfl rfl ?_
        refine j_callXE (S := (sW _ _ _ _ _ _)) (na := 1) C dX1_isSame_150 (c_priceTo hl (jG (eG E) ad _) σ τ zO nw nl lm (nI z) T.1 ⟨nI_nlt (b := 0) (by omega) (by omega), (nI_ltI (b := 4) (by omega) (by omega)).mpr (by omega)⟩) gX1_isSame_X0_priceTo rfl rfl (by decide +kernel) rfl (Nat.le_of_ble_eq_true rfl) (by rw [R]; exact ⟨Nat.le_of_ble_eq_true rfl, Nat.le_of_ble_eq_true rfl⟩) (by rw [R]; exact ⟨Nat.le_of_ble_eq_true rfl, Nat.le_of_ble_eq_true rfl⟩) ?_
        refine j_aload_n C dX1_isSame_153 rfl rfl ?_
        refine j_callE (q0 := 0) (na := 0) C dX1_isSame_154 (s_count hl (eG E) a nl s t _ nw lm V) gX1_isSame_X1_count rfl rfl (by decide +kernel) rfl rfl (Nat.le_of_ble_eq_true rfl) (by rw [R]; exact ⟨Nat.le_of_ble_eq_true rfl, Nat.le_of_ble_eq_true rfl⟩) (by rw [R]; exact ⟨Nat.le_of_ble_eq_true rfl, Nat.le_of_ble_eq_true rfl⟩) ?_
        refine j_aload_n C dX1_isSame_157 rfl rfl ?_
        refine j_get C 0 3 dX1_isSame_158 nwX1_isSame_in (by decide) nwX1_isSame_f16 rfl rfl rfl ?_
        refine j_imul C dX1_isSame_161 ?_
        refine j_iload_n C dX1_isSame_162 rfl rfl ?_
        refine j_iconst (v := 2) C dX1_isSame_163 (by decide) ?_
        refine j_iadd C dX1_isSame_164 ?_
        refine j_imul C dX1_isSame_165 ?_
        refine j_iconst (v := 2) C dX1_isSame_166 (by decide) ?_
        refine j_idiv C dX1_isSame_167 (by decide) ?_
        refine j_icmp_eq (tgt := 173) C dX1_isSame_168 (by decide) (fun c_168 => ?_) (fun c_168 => ?_)
        · refine j_iinc C 0 [(3, _), (2, _), (0, _), (1, _)] dX1_isSame_173 rfl (nI_i1 z) (by decide) rfl ?_
          refine j_goto (tgt := 143) C dX1_isSame_176 (by decide) ?_
          exact ih (z + 1) (by omega)
        · exact absurd (by rw [TS_ct T, N9.2.1]) c_168
  refine j_aload_n C dX1_isSame_0 rfl rfl ?_
  refine j_get C 0 9 dX1_isSame_1 nwX1_isSame_in (by decide) nwX1_isSame_f31 rfl rfl rfl ?_
  refine j_alen C 4 0 dX1_isSame_4 rfl rfl ?_
  refine j_istore_n C [(2, _), (0, _), (1, _)] dX1_isSame_5 rfl (by decide) rfl ?_
  refine j_aload_n C dX1_isSame_6 rfl rfl ?_
  refine j_callXE (S := (sW _ _ _ _ _ _)) (na := 0) C dX1_isSame_7 (c_words hl (jG (eG E) ad _) σ τ zO) gX1_isSame_X0_words rfl rfl (by decide +kernel) rfl (Nat.le_of_ble_eq_true rfl) (by rw [R]; exact ⟨Nat.le_of_ble_eq_true rfl, Nat.le_of_ble_eq_true rfl⟩) (by rw [R]; exact ⟨Nat.le_of_ble_eq_true rfl, Nat.le_of_ble_eq_true rfl⟩) ?_
  refine j_aload_n C dX1_isSame_10 rfl rfl ?_
  refine j_get C 0 0 dX1_isSame_11 nwX1_isSame_in (by decide) nwX1_isSame_f49 rfl rfl rfl ?_
  refine j_icmp_ne (tgt := 139) C dX1_isSame_14 (by decide) (fun c_14 => ?_) (fun c_14 => ?_)
  · exact absurd q3 c_14
  · refine j_aload_n C dX1_isSame_17 rfl rfl ?_
    refine j_callXE (S := (sW _ _ _ _ _ _)) (na := 0) C dX1_isSame_18 (c_limit hl (jG (eG E) ad _) σ τ zO) gX1_isSame_X0_limit rfl rfl (by decide +kernel) rfl (Nat.le_of_ble_eq_true rfl) (by rw [R]; exact ⟨Nat.le_of_ble_eq_true rfl, Nat.le_of_ble_eq_true rfl⟩) (by rw [R]; exact ⟨Nat.le_of_ble_eq_true rfl, Nat.le_of_ble_eq_true rfl⟩) ?_
    refine j_aload_n C dX1_isSame_21 rfl rfl ?_
    refine j_get C 0 1 dX1_isSame_22 nwX1_isSame_in (by decide) nwX1_isSame_f7 rfl rfl rfl ?_
    refine j_icmp_ne (tgt := 139) C dX1_isSame_25 (by decide) (fun c_25 => ?_) (fun c_25 => ?_)
    · exact absurd q4 c_25
    · refine j_aload_n C dX1_isSame_28 rfl rfl ?_
      refine j_callXE (S := (sW _ _ _ _ _ _)) (na := 0) C dX1_isSame_29 (c_leastCount hl (jG (eG E) ad _) σ τ zO) gX1_isSame_X0_leastCount rfl rfl (by decide +kernel) rfl (Nat.le_of_ble_eq_true rfl) (by rw [R]; exact ⟨Nat.le_of_ble_eq_true rfl, Nat.le_of_ble_eq_true rfl⟩) (by rw [R]; exact ⟨Nat.le_of_ble_eq_true rfl, Nat.le_of_ble_eq_true rfl⟩) ?_
      refine j_aload_n C dX1_isSame_32 rfl rfl ?_
      refine j_get C 0 2 dX1_isSame_33 nwX1_isSame_in (by decide) nwX1_isSame_f13 rfl rfl rfl ?_
      refine j_icmp_ne (tgt := 139) C dX1_isSame_36 (by decide) (fun c_36 => ?_) (fun c_36 => ?_)
      · exact absurd N9.1.symm c_36
      · refine j_aload_n C dX1_isSame_39 rfl rfl ?_
        refine j_callXE (S := (sW _ _ _ _ _ _)) (na := 0) C dX1_isSame_40 (c_coins hl (jG (eG E) ad _) σ τ zO) gX1_isSame_X0_coins rfl rfl (by decide +kernel) rfl (Nat.le_of_ble_eq_true rfl) (by rw [R]; exact ⟨Nat.le_of_ble_eq_true rfl, Nat.le_of_ble_eq_true rfl⟩) (by rw [R]; exact ⟨Nat.le_of_ble_eq_true rfl, Nat.le_of_ble_eq_true rfl⟩) ?_
        refine j_aload_n C dX1_isSame_43 rfl rfl ?_
        refine j_get C 0 3 dX1_isSame_44 nwX1_isSame_in (by decide) nwX1_isSame_f16 rfl rfl rfl ?_
        refine j_icmp_ne (tgt := 139) C dX1_isSame_47 (by decide) (fun c_47 => ?_) (fun c_47 => ?_)
        · exact absurd N9.2.1.symm c_47
        · refine j_aload_n C dX1_isSame_50 rfl rfl ?_
          refine j_callXE (S := (sW _ _ _ _ _ _)) (na := 0) C dX1_isSame_51 (c_length hl (jG (eG E) ad _) σ τ zO) gX1_isSame_X0_length rfl rfl (by decide +kernel) rfl (Nat.le_of_ble_eq_true rfl) (by rw [R]; exact ⟨Nat.le_of_ble_eq_true rfl, Nat.le_of_ble_eq_true rfl⟩) (by rw [R]; exact ⟨Nat.le_of_ble_eq_true rfl, Nat.le_of_ble_eq_true rfl⟩) ?_
          refine j_iload_n C dX1_isSame_54 rfl rfl ?_
          refine j_icmp_ne (tgt := 139) C dX1_isSame_55 (by decide) (fun c_55 => ?_) (fun c_55 => ?_)
          · exact absurd (Iv_h9 T9.1) c_55
          · refine j_aload_n C dX1_isSame_58 rfl rfl ?_
            refine j_callXE (S := (sW _ _ _ _ _ _)) (na := 0) C dX1_isSame_59 (c_count hl (jG (eG E) ad _) σ τ zO nw nl lm T9.1) gX1_isSame_X0_count rfl rfl (by decide +kernel) rfl (Nat.le_of_ble_eq_true rfl) (by rw [R]; exact ⟨Nat.le_of_ble_eq_true rfl, Nat.le_of_ble_eq_true rfl⟩) (by rw [R]; exact ⟨Nat.le_of_ble_eq_true rfl, Nat.le_of_ble_eq_true rfl⟩) ?_
            refine j_aload_n C dX1_isSame_62 rfl rfl ?_
            refine j_callE (q0 := 0) (na := 0) C dX1_isSame_63 (s_count hl (eG E) a nl s t _ nw lm V) gX1_isSame_X1_count rfl rfl (by decide +kernel) rfl rfl (Nat.le_of_ble_eq_true rfl) (by rw [R]; exact ⟨Nat.le_of_ble_eq_true rfl, Nat.le_of_ble_eq_true rfl⟩) (by rw [R]; exact ⟨Nat.le_of_ble_eq_true rfl, Nat.le_of_ble_eq_true rfl⟩) ?_
            refine j_icmp_ne (tgt := 139) C dX1_isSame_66 (by decide) (fun c_66 => ?_) (fun c_66 => ?_)
            · exact absurd (TS_ct T9) c_66
            · refine j_aload_n C dX1_isSame_69 rfl rfl ?_
              refine j_callXE (S := (sW _ _ _ _ _ _)) (na := 0) C dX1_isSame_70 (c_price hl (jG (eG E) ad _) σ τ zO nw nl lm T9.1) gX1_isSame_X0_price rfl rfl (by decide +kernel) rfl (Nat.le_of_ble_eq_true rfl) (by rw [R]; exact ⟨Nat.le_of_ble_eq_true rfl, Nat.le_of_ble_eq_true rfl⟩) (by rw [R]; exact ⟨Nat.le_of_ble_eq_true rfl, Nat.le_of_ble_eq_true rfl⟩) ?_
              refine j_aload_n C dX1_isSame_73 rfl rfl ?_
              refine j_callE (q0 := 0) (na := 0) C dX1_isSame_74 (s_count hl (eG E) a nl s t _ nw lm V) gX1_isSame_X1_count rfl rfl (by decide +kernel) rfl rfl (Nat.le_of_ble_eq_true rfl) (by rw [R]; exact ⟨Nat.le_of_ble_eq_true rfl, Nat.le_of_ble_eq_true rfl⟩) (by rw [R]; exact ⟨Nat.le_of_ble_eq_true rfl, Nat.le_of_ble_eq_true rfl⟩) ?_
              refine j_aload_n C dX1_isSame_77 rfl rfl ?_
              refine j_get C 0 3 dX1_isSame_78 nwX1_isSame_in (by decide) nwX1_isSame_f16 rfl rfl rfl ?_
              refine j_imul C dX1_isSame_81 ?_
              refine j_icmp_ne (tgt := 139) C dX1_isSame_82 (by decide) (fun c_82 => ?_) (fun c_82 => ?_)
              · exact absurd (by rw [TS_ct T9, N9.2.1]) c_82
              · refine j_aload_n C dX1_isSame_85 rfl rfl ?_
                refine j_callXi (S := (sW _ _ _ _ _ _)) (na := 0) C dX1_isSame_86 (c_cheapestCount hl (jG (eG E) ad _) σ τ zO nw nl lm T9.1) gX1_isSame_X0_cheapestCount rfl rfl (by decide +kernel) rfl (Nat.le_of_ble_eq_true rfl) (by rw [R]; exact ⟨Nat.le_of_ble_eq_true rfl, Nat.le_of_ble_eq_true rfl⟩) (by rw [R]; exact ⟨Nat.le_of_ble_eq_true rfl, Nat.le_of_ble_eq_true rfl⟩) (fun r2 σ2 τ2 o2 hq2 => ?_)
                obtain ⟨rfl, rfl, -, hx2, -⟩ := hq2
                have T2 := TS_x3 T9 hx2
                refine j_aload_n C dX1_isSame_89 rfl rfl ?_
                refine j_callE (q0 := 0) (na := 0) C dX1_isSame_90 (s_cheapest hl (eG E) a nl nl s t _ nw lm V) gX1_isSame_X1_cheapest rfl rfl (by decide +kernel) rfl rfl (Nat.le_of_ble_eq_true rfl) (by rw [R]; exact ⟨Nat.le_of_ble_eq_true rfl, Nat.le_of_ble_eq_true rfl⟩) (by rw [R]; exact ⟨Nat.le_of_ble_eq_true rfl, Nat.le_of_ble_eq_true rfl⟩) ?_
                refine j_icmp_ne (tgt := 139) C dX1_isSame_93 (by decide) (fun c_93 => ?_) (fun c_93 => ?_)
                · exact absurd (TS_cc T9) c_93
                · refine j_aload_n C dX1_isSame_96 rfl rfl ?_
                  refine j_callXE (S := (sW _ _ _ _ _ _)) (na := 0) C dX1_isSame_97 (c_sent hl (jG (eG E) ad _) σ2 τ2 zO) gX1_isSame_X0_sent rfl rfl (by decide +kernel) rfl (Nat.le_of_ble_eq_true rfl) (by rw [R]; exact ⟨Nat.le_of_ble_eq_true rfl, Nat.le_of_ble_eq_true rfl⟩) (by rw [R]; exact ⟨Nat.le_of_ble_eq_true rfl, Nat.le_of_ble_eq_true rfl⟩) ?_
                  refine j_aload_n C dX1_isSame_100 rfl rfl ?_
                  refine j_get C 0 4 dX1_isSame_101 nwX1_isSame_in (by decide) nwX1_isSame_f102 rfl rfl rfl ?_
                  refine j_icmp_ne (tgt := 139) C dX1_isSame_104 (by decide) (fun c_104 => ?_) (fun c_104 => ?_)
                  · exact absurd N9.2.2.1.symm c_104
                  · refine j_aload_n C dX1_isSame_107 rfl rfl ?_
                    refine j_callXE (S := (sW _ _ _ _ _ _)) (na := 0) C dX1_isSame_108 (c_earned hl (jG (eG E) ad _) σ2 τ2 zO) gX1_isSame_X0_earned rfl rfl (by decide +kernel) rfl (Nat.le_of_ble_eq_true rfl) (by rw [R]; exact ⟨Nat.le_of_ble_eq_true rfl, Nat.le_of_ble_eq_true rfl⟩) (by rw [R]; exact ⟨Nat.le_of_ble_eq_true rfl, Nat.le_of_ble_eq_true rfl⟩) ?_
                    refine j_aload_n C dX1_isSame_111 rfl rfl ?_
                    refine j_get C 0 5 dX1_isSame_112 nwX1_isSame_in (by decide) nwX1_isSame_f107 rfl rfl rfl ?_
                    refine j_icmp_ne (tgt := 139) C dX1_isSame_115 (by decide) (fun c_115 => ?_) (fun c_115 => ?_)
                    · exact absurd N9.2.2.2.symm c_115
                    · refine j_aload_n C dX1_isSame_118 rfl rfl ?_
                      refine j_callXi (S := (sW _ _ _ _ _ _)) (na := 0) C dX1_isSame_119 (c_saves hl (jG (eG E) ad _) σ2 τ2 zO nw nl lm T2.1) gX1_isSame_X0_saves rfl rfl (by decide +kernel) rfl (Nat.le_of_ble_eq_true rfl) (by rw [R]; exact ⟨Nat.le_of_ble_eq_true rfl, Nat.le_of_ble_eq_true rfl⟩) (by rw [R]; exact ⟨Nat.le_of_ble_eq_true rfl, Nat.le_of_ble_eq_true rfl⟩) (fun r3 σ3 τ3 o3 hq3 => ?_)
                      obtain ⟨rfl, rfl, -, hx3⟩ := hq3
                      have T3 := TS_x4 T2 hx3
                      refine j_aload_n C dX1_isSame_122 rfl rfl ?_
                      refine j_get C 0 3 dX1_isSame_123 nwX1_isSame_in (by decide) nwX1_isSame_f16 rfl rfl rfl ?_
                      refine j_aload_n C dX1_isSame_126 rfl rfl ?_
                      refine j_callE (q0 := 0) (na := 0) C dX1_isSame_127 (s_count hl (eG E) a nl s t _ nw lm V) gX1_isSame_X1_count rfl rfl (by decide +kernel) rfl rfl (Nat.le_of_ble_eq_true rfl) (by rw [R]; exact ⟨Nat.le_of_ble_eq_true rfl, Nat.le_of_ble_eq_true rfl⟩) (by rw [R]; exact ⟨Nat.le_of_ble_eq_true rfl, Nat.le_of_ble_eq_true rfl⟩) ?_
                      refine j_aload_n C dX1_isSame_130 rfl rfl ?_
                      refine j_callE (q0 := 0) (na := 0) C dX1_isSame_131 (s_cheapest hl (eG E) a nl nl s t _ nw lm V) gX1_isSame_X1_cheapest rfl rfl (by decide +kernel) rfl rfl (Nat.le_of_ble_eq_true rfl) (by rw [R]; exact ⟨Nat.le_of_ble_eq_true rfl, Nat.le_of_ble_eq_true rfl⟩) (by rw [R]; exact ⟨Nat.le_of_ble_eq_true rfl, Nat.le_of_ble_eq_true rfl⟩) ?_
                      refine j_isub C dX1_isSame_134 ?_
                      refine j_imul C dX1_isSame_135 ?_
                      refine j_icmp_eq (tgt := 141) C dX1_isSame_136 (by decide) (fun c_136 => ?_) (fun c_136 => ?_)
                      · refine j_iconst (v := 0) C dX1_isSame_141 (by decide) ?_
                        refine j_istore_n C [(3, _), (2, _), (0, _), (1, _)] dX1_isSame_142 rfl (by decide) rfl ?_
                        exact lp τ3 T3 4 0 (Nat.zero_add _)
                      · exact absurd (by rw [TS_ct T2, TS_cc T2, N9.2.1, Int32.mul_comm (σ3 6), Int32.sub_mul]) c_136
