/-! the law: places, words, limits -/
set_option maxRecDepth 100000 in
theorem nwL_law_c141 : Cond.constantLong RL 141 (1000000) ∈ wsL_law := by decide +kernel
set_option maxRecDepth 100000 in
theorem nwL_law_l143 : Cond.methodLink RL 143 Lib.MathLoose.min_long.x ∈ wsL_law := by decide +kernel
set_option maxRecDepth 100000 in
theorem nwL_law_sminl : Cond.static Lib.MathLoose.min_long.x ∈ wsL_law := by decide +kernel
set_option maxRecDepth 100000 in
theorem nwL_law_kminl : Cond.code Lib.MathLoose.min_long.x Lib.MathLoose.min_long.code 4 (some .long) ∈ wsL_law := by decide +kernel
set_option maxHeartbeats 4000000 in
set_option maxRecDepth 100000 in
theorem lq_places {E : gE} {b L : Nat} {xs : Nat → Int32} (C : jC E cL_law 17 RL wsL_law (some (b, L, xs))) (hl : (eL E).stackTraces = false) (R : eR E = { frames := 12, cells := 889356, slots := 6433114, locals := 462 }) {k n : Nat} (hk : k + 2 ≤ 889356) (hn0 : n ≤ 6433114) {K : Nat} {ad a : Nat → Nat} {x0 : va_W} {nw nl lm : Nat} {σ s : gS} {τ t : gT} (T : TS σ τ nw nl lm K s t) (X : Int32) (i : Nat) (hK : K < 2 ^ 30) (kk : lKK E b ad (a 100) (K + 1) k n i x0) : J E k n 268 [(4, .int X), (3, .int (nI i)), (2, .ref (a 100)), (1, .ref (ad 100)), (0, .ref b)] [] (sW (eG E) a nl nl s t ++ (wX (eG E) ad σ τ ++ x0)) := by
  have hk0 : k ≤ 889356 := by omega
  have V := TS_V T
  have hnw := SV_nw V
  have hnl := SV_m V
  have lp : ∀ (d p : Nat) (τ : gT), TS σ τ nw nl lm K s t → p + d = nl → J E k n 283 [(11, .int (nI p)), (9, .long (lN (wN t nw p))), (8, .int (nI (ALx lm t p))), (7, .int (nI nl)), (4, .int X), (3, .int (nI i)), (2, .ref (a 100)), (1, .ref (ad 100)), (0, .ref b)] [] (sW (eG E) a nl nl s t ++ (wX (eG E) ad σ τ ++ x0)) := by
    intro d
    induction d with
    | zero =>
      intro p τ T hp
      have ep : p = nl := by omega
      subst ep
      refine j_iload C dL_law_283 rfl ?_
      refine j_iload C dL_law_285 rfl ?_
      refine j_icmp_ge (tgt := 393) C dL_law_287 (by decide) (fun c_287 => ?_) (fun c_287 => ?_)
      · refine j_lv [1, 2, 3, 4, 5, 6, 7, 8] [(9, _), (8, _), (7, _), (4, _), (3, _), (2, _), (1, _), (0, _)] rfl ?_
        exact lq_counts C hl R hk hn0 T X i hK kk
      · exact absurd (i_rf _) c_287
    | succ d ih =>
      intro p τ T hp9
      have hp : p < nl := by omega
      have hw := (TS_tg T hp).2
      have hwn := wN_le t nw p
      have hmn := mnF_le t (tgF t p) nw
      have hmul : wN t nw p * mnF t (tgF t p) nw ≤ 1000000 * 12 := Nat.mul_le_mul hwn (by omega)
      have h01 : 0 < nl := by omega
      have h356 : J E k n 356 [(11, .int (nI p)), (9, .long (lN (wN t nw (p + 1)))), (8, .int (nI (ALx lm t (p + 1)))), (7, .int (nI nl)), (4, .int X), (3, .int (nI i)), (2, .ref (a 100)), (1, .ref (ad 100)), (0, .ref b)] [] (sW (eG E) a nl nl s t ++ (wX (eG E) ad σ τ ++ x0)) := by
        refine j_aload_n C dL_law_356 rfl rfl ?_
        refine j_iload C dL_law_357 rfl ?_
        refine j_callXi (S := (sW _ _ _ _ _ _)) (na := 1) C dL_law_359 (c_isJoinedInCheapest hl (jG (eG E) ad _) σ τ zO nw nl lm p T.1 hp) gL_law_X0_isJoinedInCheapest rfl rfl (by decide +kernel) rfl (Nat.le_of_ble_eq_true rfl) (by rw [R]; exact ⟨Nat.le_of_ble_eq_true rfl, Nat.le_of_ble_eq_true rfl⟩) (by rw [R]; exact ⟨hk0, hn0⟩) (fun r2 σ2 τ2 o2 hq2 => ?_)
        obtain ⟨rfl, rfl, -, hx2⟩ := hq2
        have T2 := TS_CH T hx2
        refine j_if_eq (tgt := 387) C dL_law_362 (by decide) (fun c_362 => ?_) (fun c_362 => ?_)
        · refine j_iinc C 0 [(11, _), (9, _), (8, _), (7, _), (4, _), (3, _), (2, _), (1, _), (0, _)] dL_law_387 rfl (nI_i1 p) (by decide) rfl ?_
          refine j_goto (tgt := 283) C dL_law_390 (by decide) ?_
          exact ih (p + 1) τ2 T2 (by omega)
        · refine j_iload C dL_law_365 rfl ?_
          refine j_iload C dL_law_367 rfl ?_
          refine j_iconst (v := 1) C dL_law_369 (by decide) ?_
          refine j_isub C dL_law_370 ?_
          rw [nI_m1 (by omega)]
          refine j_icmp_eq (tgt := 385) C dL_law_371 (by decide) (fun c_371 => ?_) (fun c_371 => ?_)
          · have ep : p = nl - 1 := nI_eqN c_371 (by omega) (by omega)
            exact absurd (by rw [ep]; exact cjx_last T.1 h01) c_362
          · have hp1 : p + 1 < nl := by
              have : p ≠ nl - 1 := fun q => c_371 (by rw [← q])
              omega
            refine j_aload_n C dL_law_374 rfl rfl ?_
            refine j_iload C dL_law_375 rfl ?_
            refine j_iconst (v := 1) C dL_law_377 (by decide) ?_
            refine j_iadd C dL_law_378 ?_
            rw [nI_1]
            refine j_callXi (S := (sW _ _ _ _ _ _)) (na := 1) C dL_law_379 (c_isJoinedInCheapest hl (jG (eG E) ad _) σ2 τ2 zO nw nl lm (p + 1) T2.1 hp1) gL_law_X0_isJoinedInCheapest rfl rfl (by decide +kernel) rfl (Nat.le_of_ble_eq_true rfl) (by rw [R]; exact ⟨Nat.le_of_ble_eq_true rfl, Nat.le_of_ble_eq_true rfl⟩) (by rw [R]; exact ⟨hk0, hn0⟩) (fun r3 σ3 τ3 o3 hq3 => ?_)
            obtain ⟨rfl, rfl, -, hx3⟩ := hq3
            have T3 := TS_CH T2 hx3
            refine j_if_eq (tgt := 387) C dL_law_382 (by decide) (fun c_382 => ?_) (fun c_382 => ?_)
            · refine j_iinc C 0 [(11, _), (9, _), (8, _), (7, _), (4, _), (3, _), (2, _), (1, _), (0, _)] dL_law_387 rfl (nI_i1 p) (by decide) rfl ?_
              refine j_goto (tgt := 283) C dL_law_390 (by decide) ?_
              exact ih (p + 1) τ3 T3 (by omega)
            · exact absurd (by rw [prx_s (CH_xs hx2)]; exact cjd_two c_362) c_382
      refine j_iload C dL_law_283 rfl ?_
      refine j_iload C dL_law_285 rfl ?_
      refine j_icmp_ge (tgt := 393) C dL_law_287 (by decide) (fun c_287 => ?_) (fun c_287 => ?_)
      · exact absurd c_287 (nI_ge hp (by omega))
      · refine j_iload C dL_law_290 rfl ?_
        refine j_aload_n C dL_law_292 rfl rfl ?_
        refine j_aload_n C dL_law_293 rfl rfl ?_
        refine j_iload C dL_law_294 rfl ?_
        refine j_callXE (S := (sW _ _ _ _ _ _)) (na := 1) C dL_law_296 (c_wordAt hl (jG (eG E) ad _) σ τ zO nw nl lm p T.1 hp) gL_law_X0_wordAt rfl rfl (by decide +kernel) rfl (Nat.le_of_ble_eq_true rfl) (by rw [R]; exact ⟨Nat.le_of_ble_eq_true rfl, Nat.le_of_ble_eq_true rfl⟩) (by rw [R]; exact ⟨hk0, hn0⟩) ?_
        rw [(TS_tg T hp).1]
        refine j_callXE (S := (sW _ _ _ _ _ _)) (na := 1) C dL_law_299 (c_countOf hl (jG (eG E) ad _) σ τ zO nw nl lm (tgF t p) T.1 hw) gL_law_X0_countOf rfl rfl (by decide +kernel) rfl (Nat.le_of_ble_eq_true rfl) (by rw [R]; exact ⟨Nat.le_of_ble_eq_true rfl, Nat.le_of_ble_eq_true rfl⟩) (by rw [R]; exact ⟨hk0, hn0⟩) ?_
        rw [(TS_c1 T hw).1]
        refine j_iadd C dL_law_302 ?_
        rw [nI_add]
        refine j_istore C [(8, _), (11, _), (9, _), (7, _), (4, _), (3, _), (2, _), (1, _), (0, _)] dL_law_303 (by decide) rfl ?_
        refine j_ldc2 C dL_law_305 nwL_law_c141 ?_
        refine j_lload C dL_law_308 rfl ?_
        refine j_aload_n C dL_law_310 rfl rfl ?_
        refine j_aload_n C dL_law_311 rfl rfl ?_
        refine j_iload C dL_law_312 rfl ?_
        refine j_callXE (S := (sW _ _ _ _ _ _)) (na := 1) C dL_law_314 (c_wordAt hl (jG (eG E) ad _) σ τ zO nw nl lm p T.1 hp) gL_law_X0_wordAt rfl rfl (by decide +kernel) rfl (Nat.le_of_ble_eq_true rfl) (by rw [R]; exact ⟨Nat.le_of_ble_eq_true rfl, Nat.le_of_ble_eq_true rfl⟩) (by rw [R]; exact ⟨hk0, hn0⟩) ?_
        rw [(TS_tg T hp).1]
        refine j_callXE (S := (sW _ _ _ _ _ _)) (na := 1) C dL_law_317 (c_standInsOf hl (jG (eG E) ad _) σ τ zO nw nl lm (tgF t p) T.1 hw) gL_law_X0_standInsOf rfl rfl (by decide +kernel) rfl (Nat.le_of_ble_eq_true rfl) (by rw [R]; exact ⟨Nat.le_of_ble_eq_true rfl, Nat.le_of_ble_eq_true rfl⟩) (by rw [R]; exact ⟨hk0, hn0⟩) ?_
        rw [(TS_mn T hw).1]
        refine j_i2l C dL_law_320 ?_
        rw [nI_l (by omega)]
        refine j_lmul C dL_law_321 ?_
        rw [lN_mul]
        refine j_mminl C dL_law_322 nwL_law_l143 nwL_law_sminl nwL_law_iMath nwL_law_kminl (by rw [R]; exact ⟨by decide, Nat.le_of_ble_eq_true rfl, hk0, hn0⟩) ?_
        rw [wN_min (by omega)]
        refine j_lstore C [(9, _), (8, _), (11, _), (7, _), (4, _), (3, _), (2, _), (1, _), (0, _)] dL_law_325 (by decide) rfl ?_
        refine j_aload_n C dL_law_327 rfl rfl ?_
        refine j_iload C dL_law_328 rfl ?_
        refine j_callXE (S := (sW _ _ _ _ _ _)) (na := 1) C dL_law_330 (c_isJoined hl (jG (eG E) ad _) σ τ zO nw nl lm p T.1 hp) gL_law_X0_isJoined rfl rfl (by decide +kernel) rfl (Nat.le_of_ble_eq_true rfl) (by rw [R]; exact ⟨Nat.le_of_ble_eq_true rfl, Nat.le_of_ble_eq_true rfl⟩) (by rw [R]; exact ⟨hk0, hn0⟩) ?_
        refine j_if_eq (tgt := 356) C dL_law_333 (by decide) (fun c_333 => ?_) (fun c_333 => ?_)
        · refine j_lv [2, 0, 1, 3, 4, 5, 6, 7, 8] [(11, _), (9, _), (8, _), (7, _), (4, _), (3, _), (2, _), (1, _), (0, _)] rfl ?_
          exact h356
        · refine j_iload C dL_law_336 rfl ?_
          refine j_iload C dL_law_338 rfl ?_
          refine j_iconst (v := 1) C dL_law_340 (by decide) ?_
          refine j_isub C dL_law_341 ?_
          rw [nI_m1 (by omega)]
          refine j_icmp_eq (tgt := 385) C dL_law_342 (by decide) (fun c_342 => ?_) (fun c_342 => ?_)
          · have ep : p = nl - 1 := nI_eqN c_342 (by omega) (by omega)
            exact absurd (by rw [ep]; exact Iv_last T.1 h01) c_333
          · have hp1 : p + 1 < nl := by
              have : p ≠ nl - 1 := fun q => c_342 (by rw [← q])
              omega
            refine j_aload_n C dL_law_345 rfl rfl ?_
            refine j_iload C dL_law_346 rfl ?_
            refine j_iconst (v := 1) C dL_law_348 (by decide) ?_
            refine j_iadd C dL_law_349 ?_
            rw [nI_1]
            refine j_callXE (S := (sW _ _ _ _ _ _)) (na := 1) C dL_law_350 (c_isJoined hl (jG (eG E) ad _) σ τ zO nw nl lm (p + 1) T.1 hp1) gL_law_X0_isJoined rfl rfl (by decide +kernel) rfl (Nat.le_of_ble_eq_true rfl) (by rw [R]; exact ⟨Nat.le_of_ble_eq_true rfl, Nat.le_of_ble_eq_true rfl⟩) (by rw [R]; exact ⟨hk0, hn0⟩) ?_
            refine j_if_ne (tgt := 385) C dL_law_353 (by decide) (fun c_353 => ?_) (fun c_353 => ?_)
            · exact absurd ((TS_r T hp1).resolve_left c_333) c_353
            · refine j_lv [2, 0, 1, 3, 4, 5, 6, 7, 8] [(11, _), (9, _), (8, _), (7, _), (4, _), (3, _), (2, _), (1, _), (0, _)] rfl ?_
              exact h356
  refine j_aload_n C dL_law_268 rfl rfl ?_
  refine j_callXE (S := (sW _ _ _ _ _ _)) (na := 0) C dL_law_269 (c_length hl (jG (eG E) ad _) σ τ zO) gL_law_X0_length rfl rfl (by decide +kernel) rfl (Nat.le_of_ble_eq_true rfl) (by rw [R]; exact ⟨Nat.le_of_ble_eq_true rfl, Nat.le_of_ble_eq_true rfl⟩) (by rw [R]; exact ⟨hk0, hn0⟩) ?_
  rw [Iv_h9 T.1]
  refine j_istore C [(7, _), (4, _), (3, _), (2, _), (1, _), (0, _)] dL_law_272 (by decide) rfl ?_
  refine j_iconst (v := 0) C dL_law_274 (by decide) ?_
  refine j_istore C [(8, _), (7, _), (4, _), (3, _), (2, _), (1, _), (0, _)] dL_law_275 (by decide) rfl ?_
  refine j_lconst (v := 1) C dL_law_277 (by decide) ?_
  refine j_lstore C [(9, _), (8, _), (7, _), (4, _), (3, _), (2, _), (1, _), (0, _)] dL_law_278 (by decide) rfl ?_
  refine j_iconst (v := 0) C dL_law_280 (by decide) ?_
  refine j_istore C [(11, _), (9, _), (8, _), (7, _), (4, _), (3, _), (2, _), (1, _), (0, _)] dL_law_281 (by decide) rfl ?_
  exact lp nl 0 τ T (Nat.zero_add _)
set_option maxHeartbeats 4000000 in
set_option maxRecDepth 100000 in
theorem lq_words {E : gE} {b L : Nat} {xs : Nat → Int32} (C : jC E cL_law 17 RL wsL_law (some (b, L, xs))) (hl : (eL E).stackTraces = false) (R : eR E = { frames := 12, cells := 889356, slots := 6433114, locals := 462 }) {k n : Nat} (hk : k + 2 ≤ 889356) (hn0 : n ≤ 6433114) {K : Nat} {ad a : Nat → Nat} {x0 : va_W} {nw nl lm : Nat} {σ s : gS} {τ t : gT} (T : TS σ τ nw nl lm K s t) (X : Int32) (i : Nat) (hK : K < 2 ^ 30) (kk : lKK E b ad (a 100) (K + 1) k n i x0) : J E k n 150 [(6, .int (nI lm)), (5, .int (nI nw)), (4, .int X), (3, .int (nI i)), (2, .ref (a 100)), (1, .ref (ad 100)), (0, .ref b)] [] (sW (eG E) a nl nl s t ++ (wX (eG E) ad σ τ ++ x0)) := by
  have hk0 : k ≤ 889356 := by omega
  have V := TS_V T
  have hnw := SV_nw V
  have hnl := SV_m V
  have hlm := SV_lm V
  have lw : ∀ d w9 : Nat, w9 + d = nw → J E k n 153 [(7, .int (nI w9)), (6, .int (nI lm)), (5, .int (nI nw)), (4, .int X), (3, .int (nI i)), (2, .ref (a 100)), (1, .ref (ad 100)), (0, .ref b)] [] (sW (eG E) a nl nl s t ++ (wX (eG E) ad σ τ ++ x0)) := by
    intro d
    induction d with
    | zero =>
      intro w9 hw9
      refine j_iload C dL_law_153 rfl ?_
      refine j_iload C dL_law_155 rfl ?_
      refine j_icmp_ge (tgt := 268) C dL_law_157 (by decide) (fun c_157 => ?_) (fun c_157 => ?_)
      · refine j_lv [3, 4, 5, 6, 7] [(4, _), (3, _), (2, _), (1, _), (0, _)] rfl ?_
        exact lq_places C hl R hk hn0 T X i hK kk
      · exact absurd (nI_le (by omega) (by omega)) c_157
    | succ d ih =>
      intro w9 hw9
      have hw : w9 < nw := by omega
      have hc1 := TS_c1 T hw
      have hlt := TS_lt T hw
      have hup := cN_up (x := ltF t w9) hlm
      have hcl : cN lm (ltF t w9) * lm ≤ 30 * 15 := Nat.mul_le_mul hc1.2.2 hlm.2
      have hcl2 : (cN lm (ltF t w9) - 1) * lm ≤ 30 * 15 := Nat.mul_le_mul (by omega) hlm.2
      have lb : ∀ e b9 : Nat, b9 + e = nw → J E k n 174 [(10, .int (nI b9)), (9, .int (nI (mnF t w9 b9))), (8, .int (nI (cN lm (ltF t w9)))), (7, .int (nI w9)), (6, .int (nI lm)), (5, .int (nI nw)), (4, .int X), (3, .int (nI i)), (2, .ref (a 100)), (1, .ref (ad 100)), (0, .ref b)] [] (sW (eG E) a nl nl s t ++ (wX (eG E) ad σ τ ++ x0)) := by
        intro e
        induction e with
        | zero =>
          intro b9 hb9
          refine j_iload C dL_law_174 rfl ?_
          refine j_iload C dL_law_176 rfl ?_
          refine j_icmp_ge (tgt := 208) C dL_law_178 (by decide) (fun c_178 => ?_) (fun c_178 => ?_)
          · refine j_aload_n C dL_law_208 rfl rfl ?_
            refine j_iload C dL_law_209 rfl ?_
            refine j_callXE (S := (sW _ _ _ _ _ _)) (na := 1) C dL_law_211 (c_lettersOf hl (jG (eG E) ad _) σ τ zO nw nl lm w9 T.1 hw) gL_law_X0_lettersOf rfl rfl (by decide +kernel) rfl (Nat.le_of_ble_eq_true rfl) (by rw [R]; exact ⟨Nat.le_of_ble_eq_true rfl, Nat.le_of_ble_eq_true rfl⟩) (by rw [R]; exact ⟨hk0, hn0⟩) ?_
            rw [hlt.1]
            refine j_iload C dL_law_214 rfl ?_
            refine j_iload C dL_law_216 rfl ?_
            refine j_imul C dL_law_218 ?_
            rw [pk_mul]
            refine j_icmp_gt (tgt := 260) C dL_law_219 (by decide) (fun c_219 => ?_) (fun c_219 => ?_)
            · exact absurd c_219 (nI_nlt (by omega) (by omega))
            · refine j_aload_n C dL_law_222 rfl rfl ?_
              refine j_iload C dL_law_223 rfl ?_
              refine j_callXE (S := (sW _ _ _ _ _ _)) (na := 1) C dL_law_225 (c_lettersOf hl (jG (eG E) ad _) σ τ zO nw nl lm w9 T.1 hw) gL_law_X0_lettersOf rfl rfl (by decide +kernel) rfl (Nat.le_of_ble_eq_true rfl) (by rw [R]; exact ⟨Nat.le_of_ble_eq_true rfl, Nat.le_of_ble_eq_true rfl⟩) (by rw [R]; exact ⟨hk0, hn0⟩) ?_
              rw [hlt.1]
              refine j_iload C dL_law_228 rfl ?_
              refine j_iconst (v := 1) C dL_law_230 (by decide) ?_
              refine j_isub C dL_law_231 ?_
              rw [nI_m1 (by omega)]
              refine j_iload C dL_law_232 rfl ?_
              refine j_imul C dL_law_234 ?_
              rw [pk_mul]
              refine j_icmp_le (tgt := 260) C dL_law_235 (by decide) (fun c_235 => ?_) (fun c_235 => ?_)
              · exact absurd ((nI_leI (by omega) (by omega)).mp c_235) (by omega)
              · refine j_iload C dL_law_238 rfl ?_
                refine j_aload_n C dL_law_240 rfl rfl ?_
                refine j_iload C dL_law_241 rfl ?_
                refine j_callXE (S := (sW _ _ _ _ _ _)) (na := 1) C dL_law_243 (c_standInsOf hl (jG (eG E) ad _) σ τ zO nw nl lm w9 T.1 hw) gL_law_X0_standInsOf rfl rfl (by decide +kernel) rfl (Nat.le_of_ble_eq_true rfl) (by rw [R]; exact ⟨Nat.le_of_ble_eq_true rfl, Nat.le_of_ble_eq_true rfl⟩) (by rw [R]; exact ⟨hk0, hn0⟩) ?_
                rw [(TS_mn T hw).1]
                refine j_icmp_ne (tgt := 260) C dL_law_246 (by decide) (fun c_246 => ?_) (fun c_246 => ?_)
                · exact absurd (by rw [show b9 = nw by omega]) c_246
                · refine j_aload_n C dL_law_249 rfl rfl ?_
                  refine j_iload C dL_law_250 rfl ?_
                  refine j_iload C dL_law_252 rfl ?_
                  refine j_callXE (S := (sW _ _ _ _ _ _)) (na := 2) C dL_law_254 (c_mayStandFor hl (jG (eG E) ad _) σ τ zO nw nl lm w9 w9 T.1 hw hw) gL_law_X0_mayStandFor rfl rfl (by decide +kernel) rfl (Nat.le_of_ble_eq_true rfl) (by rw [R]; exact ⟨Nat.le_of_ble_eq_true rfl, Nat.le_of_ble_eq_true rfl⟩) (by rw [R]; exact ⟨hk0, hn0⟩) ?_
                  rw [TS_may T hw hw, mayF_own]
                  refine j_if_ne (tgt := 262) C dL_law_257 (by decide) (fun c_257 => ?_) (fun c_257 => ?_)
                  · refine j_iinc C 3 [(7, _), (10, _), (9, _), (8, _), (6, _), (5, _), (4, _), (3, _), (2, _), (1, _), (0, _)] dL_law_262 rfl (nI_i1 w9) (by decide) rfl ?_
                    refine j_goto (tgt := 153) C dL_law_265 (by decide) ?_
                    refine j_lv [0, 4, 5, 6, 7, 8, 9, 10] [(7, _), (6, _), (5, _), (4, _), (3, _), (2, _), (1, _), (0, _)] rfl ?_
                    exact ih (w9 + 1) (by omega)
                  · exact absurd c_257 (by decide)
          · exact absurd (nI_le (by omega) (by omega)) c_178
        | succ e ih2 =>
          intro b9 hb9
          have hbn : b9 < nw := by omega
          refine j_iload C dL_law_174 rfl ?_
          refine j_iload C dL_law_176 rfl ?_
          refine j_icmp_ge (tgt := 208) C dL_law_178 (by decide) (fun c_178 => ?_) (fun c_178 => ?_)
          · exact absurd c_178 (nI_ge hbn (by omega))
          · refine j_iload C dL_law_181 rfl ?_
            refine j_aload_n C dL_law_183 rfl rfl ?_
            refine j_iload C dL_law_184 rfl ?_
            refine j_iload C dL_law_186 rfl ?_
            refine j_callXE (S := (sW _ _ _ _ _ _)) (na := 2) C dL_law_188 (c_mayStandFor hl (jG (eG E) ad _) σ τ zO nw nl lm w9 b9 T.1 hw hbn) gL_law_X0_mayStandFor rfl rfl (by decide +kernel) rfl (Nat.le_of_ble_eq_true rfl) (by rw [R]; exact ⟨Nat.le_of_ble_eq_true rfl, Nat.le_of_ble_eq_true rfl⟩) (by rw [R]; exact ⟨hk0, hn0⟩) ?_
            rw [TS_may T hw hbn]
            refine j_if_eq (tgt := 198) C dL_law_191 (by decide) (fun c_191 => ?_) (fun c_191 => ?_)
            · have hm := zb_0 c_191
              refine j_iconst (v := 0) C dL_law_198 (by decide) ?_
              refine j_iadd C dL_law_199 ?_
              rw [show nI (mnF t w9 b9) + 0 = nI (mnF t w9 (b9 + 1)) by
                show _ = nI (mnF t w9 b9 + (if mayF t w9 b9 = true then 1 else 0))
                rw [hm]
                exact Int32.add_zero _]
              refine j_istore C [(9, _), (10, _), (8, _), (7, _), (6, _), (5, _), (4, _), (3, _), (2, _), (1, _), (0, _)] dL_law_200 (by decide) rfl ?_
              refine j_iinc C 1 [(10, _), (9, _), (8, _), (7, _), (6, _), (5, _), (4, _), (3, _), (2, _), (1, _), (0, _)] dL_law_202 rfl (nI_i1 b9) (by decide) rfl ?_
              refine j_goto (tgt := 174) C dL_law_205 (by decide) ?_
              exact ih2 (b9 + 1) (by omega)
            · have hm := zb_1 c_191
              refine j_iconst (v := 1) C dL_law_194 (by decide) ?_
              refine j_goto (tgt := 199) C dL_law_195 (by decide) ?_
              refine j_iadd C dL_law_199 ?_
              rw [show nI (mnF t w9 b9) + 1 = nI (mnF t w9 (b9 + 1)) by
                show _ = nI (mnF t w9 b9 + (if mayF t w9 b9 = true then 1 else 0))
                rw [hm]
                exact nI_1 _]
              refine j_istore C [(9, _), (10, _), (8, _), (7, _), (6, _), (5, _), (4, _), (3, _), (2, _), (1, _), (0, _)] dL_law_200 (by decide) rfl ?_
              refine j_iinc C 1 [(10, _), (9, _), (8, _), (7, _), (6, _), (5, _), (4, _), (3, _), (2, _), (1, _), (0, _)] dL_law_202 rfl (nI_i1 b9) (by decide) rfl ?_
              refine j_goto (tgt := 174) C dL_law_205 (by decide) ?_
              exact ih2 (b9 + 1) (by omega)
      refine j_iload C dL_law_153 rfl ?_
      refine j_iload C dL_law_155 rfl ?_
      refine j_icmp_ge (tgt := 268) C dL_law_157 (by decide) (fun c_157 => ?_) (fun c_157 => ?_)
      · exact absurd c_157 (nI_ge hw (by omega))
      · refine j_aload_n C dL_law_160 rfl rfl ?_
        refine j_iload C dL_law_161 rfl ?_
        refine j_callXE (S := (sW _ _ _ _ _ _)) (na := 1) C dL_law_163 (c_countOf hl (jG (eG E) ad _) σ τ zO nw nl lm w9 T.1 hw) gL_law_X0_countOf rfl rfl (by decide +kernel) rfl (Nat.le_of_ble_eq_true rfl) (by rw [R]; exact ⟨Nat.le_of_ble_eq_true rfl, Nat.le_of_ble_eq_true rfl⟩) (by rw [R]; exact ⟨hk0, hn0⟩) ?_
        rw [hc1.1]
        refine j_istore C [(8, _), (7, _), (6, _), (5, _), (4, _), (3, _), (2, _), (1, _), (0, _)] dL_law_166 (by decide) rfl ?_
        refine j_iconst (v := 0) C dL_law_168 (by decide) ?_
        refine j_istore C [(9, _), (8, _), (7, _), (6, _), (5, _), (4, _), (3, _), (2, _), (1, _), (0, _)] dL_law_169 (by decide) rfl ?_
        refine j_iconst (v := 0) C dL_law_171 (by decide) ?_
        refine j_istore C [(10, _), (9, _), (8, _), (7, _), (6, _), (5, _), (4, _), (3, _), (2, _), (1, _), (0, _)] dL_law_172 (by decide) rfl ?_
        exact lb nw 0 (Nat.zero_add _)
  refine j_iconst (v := 0) C dL_law_150 (by decide) ?_
  refine j_istore C [(7, _), (6, _), (5, _), (4, _), (3, _), (2, _), (1, _), (0, _)] dL_law_151 (by decide) rfl ?_
  exact lw nw 0 (Nat.zero_add _)
set_option maxHeartbeats 4000000 in
set_option maxRecDepth 100000 in
theorem lq_limits {E : gE} {b L : Nat} {xs : Nat → Int32} (C : jC E cL_law 17 RL wsL_law (some (b, L, xs))) (hl : (eL E).stackTraces = false) (R : eR E = { frames := 12, cells := 889356, slots := 6433114, locals := 462 }) {k n : Nat} (hk : k + 2 ≤ 889356) (hn0 : n ≤ 6433114) {K : Nat} {ad a : Nat → Nat} {x0 : va_W} {nw nl lm : Nat} {σ s : gS} {τ t : gT} (T : TS σ τ nw nl lm K s t) (X : Int32) (i : Nat) (hK : K < 2 ^ 30) (kk : lKK E b ad (a 100) (K + 1) k n i x0) : J E k n 90 [(4, .int X), (3, .int (nI i)), (2, .ref (a 100)), (1, .ref (ad 100)), (0, .ref b)] [] (sW (eG E) a nl nl s t ++ (wX (eG E) ad σ τ ++ x0)) := by
  have hk0 : k ≤ 889356 := by omega
  have V := TS_V T
  have hnw := SV_nw V
  have hnl := SV_m V
  obtain ⟨lc, e5, hlc⟩ := TS_lc T
  obtain ⟨co, e6, hco1, hco2⟩ := TS_co T
  have hlm := SV_lm V
  refine j_aload_n C dL_law_90 rfl rfl ?_
  refine j_callXE (S := (sW _ _ _ _ _ _)) (na := 0) C dL_law_91 (c_words hl (jG (eG E) ad _) σ τ zO) gL_law_X0_words rfl rfl (by decide +kernel) rfl (Nat.le_of_ble_eq_true rfl) (by rw [R]; exact ⟨Nat.le_of_ble_eq_true rfl, Nat.le_of_ble_eq_true rfl⟩) (by rw [R]; exact ⟨hk0, hn0⟩) ?_
  rw [Iv_h3 T.1]
  refine j_istore C [(5, _), (4, _), (3, _), (2, _), (1, _), (0, _)] dL_law_94 (by decide) rfl ?_
  refine j_aload_n C dL_law_96 rfl rfl ?_
  refine j_callXE (S := (sW _ _ _ _ _ _)) (na := 0) C dL_law_97 (c_limit hl (jG (eG E) ad _) σ τ zO) gL_law_X0_limit rfl rfl (by decide +kernel) rfl (Nat.le_of_ble_eq_true rfl) (by rw [R]; exact ⟨Nat.le_of_ble_eq_true rfl, Nat.le_of_ble_eq_true rfl⟩) (by rw [R]; exact ⟨hk0, hn0⟩) ?_
  rw [Iv_h4 T.1]
  refine j_istore C [(6, _), (5, _), (4, _), (3, _), (2, _), (1, _), (0, _)] dL_law_100 (by decide) rfl ?_
  refine j_iload C dL_law_102 rfl ?_
  refine j_iconst (v := 3) C dL_law_104 (by decide) ?_
  refine j_icmp_lt (tgt := 148) C dL_law_105 (by decide) (fun c_105 => ?_) (fun c_105 => ?_)
  · exact absurd c_105 (nI_nlt (b := 3) (by omega) (by omega))
  · refine j_iload C dL_law_108 rfl ?_
    refine j_bipush (v := 15) C dL_law_110 (by decide) ?_
    refine j_icmp_gt (tgt := 148) C dL_law_112 (by decide) (fun c_112 => ?_) (fun c_112 => ?_)
    · exact absurd c_112 (nI_nlt (a := 15) (by omega) (by omega))
    · refine j_aload_n C dL_law_115 rfl rfl ?_
      refine j_callXE (S := (sW _ _ _ _ _ _)) (na := 0) C dL_law_116 (c_leastCount hl (jG (eG E) ad _) σ τ zO) gL_law_X0_leastCount rfl rfl (by decide +kernel) rfl (Nat.le_of_ble_eq_true rfl) (by rw [R]; exact ⟨Nat.le_of_ble_eq_true rfl, Nat.le_of_ble_eq_true rfl⟩) (by rw [R]; exact ⟨hk0, hn0⟩) ?_
      rw [e5]
      refine j_if_lt (tgt := 148) C dL_law_119 (by decide) (fun c_119 => ?_) (fun c_119 => ?_)
      · exact absurd c_119 (nI_nlt (b := 0) (by omega) (by omega))
      · refine j_aload_n C dL_law_122 rfl rfl ?_
        refine j_callXE (S := (sW _ _ _ _ _ _)) (na := 0) C dL_law_123 (c_leastCount hl (jG (eG E) ad _) σ τ zO) gL_law_X0_leastCount rfl rfl (by decide +kernel) rfl (Nat.le_of_ble_eq_true rfl) (by rw [R]; exact ⟨Nat.le_of_ble_eq_true rfl, Nat.le_of_ble_eq_true rfl⟩) (by rw [R]; exact ⟨hk0, hn0⟩) ?_
        rw [e5]
        refine j_bipush (v := 20) C dL_law_126 (by decide) ?_
        refine j_icmp_gt (tgt := 148) C dL_law_128 (by decide) (fun c_128 => ?_) (fun c_128 => ?_)
        · exact absurd c_128 (nI_nlt (a := 20) (by omega) (by omega))
        · refine j_aload_n C dL_law_131 rfl rfl ?_
          refine j_callXE (S := (sW _ _ _ _ _ _)) (na := 0) C dL_law_132 (c_coins hl (jG (eG E) ad _) σ τ zO) gL_law_X0_coins rfl rfl (by decide +kernel) rfl (Nat.le_of_ble_eq_true rfl) (by rw [R]; exact ⟨Nat.le_of_ble_eq_true rfl, Nat.le_of_ble_eq_true rfl⟩) (by rw [R]; exact ⟨hk0, hn0⟩) ?_
          rw [e6]
          refine j_iconst (v := 1) C dL_law_135 (by decide) ?_
          refine j_icmp_lt (tgt := 148) C dL_law_136 (by decide) (fun c_136 => ?_) (fun c_136 => ?_)
          · exact absurd c_136 (nI_nlt (b := 1) (by omega) (by omega))
          · refine j_aload_n C dL_law_139 rfl rfl ?_
            refine j_callXE (S := (sW _ _ _ _ _ _)) (na := 0) C dL_law_140 (c_coins hl (jG (eG E) ad _) σ τ zO) gL_law_X0_coins rfl rfl (by decide +kernel) rfl (Nat.le_of_ble_eq_true rfl) (by rw [R]; exact ⟨Nat.le_of_ble_eq_true rfl, Nat.le_of_ble_eq_true rfl⟩) (by rw [R]; exact ⟨hk0, hn0⟩) ?_
            rw [e6]
            refine j_bipush (v := 50) C dL_law_143 (by decide) ?_
            refine j_icmp_le (tgt := 150) C dL_law_145 (by decide) (fun c_145 => ?_) (fun c_145 => ?_)
            · exact lq_words C hl R hk hn0 T X i hK kk
            · exact absurd ((nI_leI (b := 50) (by omega) (by omega)).mpr hco2) c_145
