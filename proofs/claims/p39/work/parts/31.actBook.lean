/-! act, case by case: the Sim first, then the class, both alike -/
set_option maxRecDepth 100000 in
theorem nwL_act_f21 : Cond.fieldLink RL 21 "TelegraphPricesLaw$Sim" "words" "I" ∈ wsL_act := by decide +kernel
set_option maxRecDepth 100000 in
theorem nwL_act_in : ∀ w ∈ wsX10, w ∈ wsL_act := by decide +kernel
set_option maxRecDepth 100000 in
theorem nwL_act_f25 : Cond.fieldLink RL 25 "TelegraphPricesLaw$Sim" "letters" "[I" ∈ wsL_act := by decide +kernel
set_option maxHeartbeats 4000000 in
set_option maxRecDepth 100000 in
theorem act_add {E : gE} (C : jC E cL_act 20 RL wsL_act none) (hl : (eL E).stackTraces = false) {K : Nat} {ad a : Nat → Nat} {x : va_W} {nw nl lm : Nat} {σ s : gS} {τ t : gT} (F : jF E (AP (eG E) ad (a 100) (K + 1) x) 514 5922 (some .boolean)) (R : eR E = { frames := 7, cells := 514, slots := 5922, locals := 224 }) (T9 : TS σ τ nw nl lm K s t) (X : Int32) (r4 : Nat) : J E 0 0 30 [(4, .int (nI r4)), (0, .ref (ad 100)), (1, .ref (a 100)), (2, .int X), (3, .int (nI nl))] [] (sW (eG E) a nl nl s t ++ (wX (eG E) ad σ τ ++ x)) := by
  have V9 := TS_V T9
  have hnw := SV_nw V9
  have hnl := SV_m V9
  have e0 : s 0 = nI nw := SV_0 V9
  refine j_aload_n C dL_act_30 rfl rfl ?_
  refine j_get C 0 0 dL_act_31 nwL_act_in (by decide) nwL_act_f21 rfl rfl rfl ?_
  rw [e0]
  refine j_bipush (v := 12) C dL_act_34 (by decide) ?_
  refine j_icmp_ne (tgt := 41) C dL_act_36 (by decide) (fun c_36 => ?_) (fun c_36 => ?_)
  · have h12 : nw < 12 := by
      have : ¬ nw = 12 := fun q => c_36 (by rw [q]; rfl)
      omega
    refine j_aload_n C dL_act_41 rfl rfl ?_
    refine j_get C 0 6 dL_act_42 nwL_act_in (by decide) nwL_act_f25 rfl rfl rfl ?_
    refine j_aload_n C dL_act_45 rfl rfl ?_
    refine j_get C 0 0 dL_act_46 nwL_act_in (by decide) nwL_act_f21 rfl rfl rfl ?_
    rw [e0]
    refine j_iconst (v := 1) C dL_act_49 (by decide) ?_
    refine j_iload_n C dL_act_50 rfl rfl ?_
    refine j_iconst (v := 1) C dL_act_51 (by decide) ?_
    refine j_ishr C dL_act_52 ?_
    refine j_bipush (v := 30) C dL_act_53 (by decide) ?_
    refine j_below (N := 30) C hl R ⟨Nat.le_of_ble_eq_true rfl, Nat.le_of_ble_eq_true rfl⟩ ⟨Nat.le_of_ble_eq_true rfl, Nat.le_of_ble_eq_true rfl⟩ (Nat.le_of_ble_eq_true rfl) dL_act_55 gL_act_L_below (by decide) (by decide) (fun r hr => ?_)
    refine j_iadd C dL_act_58 ?_
    rw [show (1 : Int32) + nI r = nI (1 + r) from nI_add 1 r]
    refine jS_iast C [] 1 6 (nw) dL_act_59 rfl rfl h12 (by decide) rfl ?_
    refine j_aload_n C dL_act_60 rfl rfl ?_
    refine j_dup C dL_act_61 rfl ?_
    refine j_get C 0 0 dL_act_62 nwL_act_in (by decide) nwL_act_f21 rfl rfl rfl ?_
    rw [e0]
    refine j_iconst (v := 1) C dL_act_65 (by decide) ?_
    refine j_iadd C dL_act_66 ?_
    rw [nI_1]
    refine jS_put C [] 0 0 dL_act_67 nwL_act_in (by decide) nwL_act_f21 rfl rfl (by decide +kernel) rfl (Nat.le_of_ble_eq_true rfl) rfl ?_
    refine j_aload_n C dL_act_70 rfl rfl ?_
    refine j_aload_n C dL_act_71 rfl rfl ?_
    refine j_get C 0 6 dL_act_72 nwL_act_in (by decide) nwL_act_f25 rfl rfl rfl ?_
    refine j_aload_n C dL_act_75 rfl rfl ?_
    refine j_get C 0 0 dL_act_76 nwL_act_in (by decide) nwL_act_f21 rfl rfl rfl ?_
    show J E _ _ _ _ (.int (nI (nw + 1)) :: _) _
    refine j_iconst (v := 1) C dL_act_79 (by decide) ?_
    refine j_isub C dL_act_80 ?_
    refine j_iald C 1 (nw) dL_act_81 rfl (nI_pred nw) h12 (by decide) ?_
    rw [uT_eq, upd_eq]
    refine j_callXE (S := (sW _ _ _ _ _ _)) (na := 1) C dL_act_82 (c_addWord hl (jG (eG E) ad _) σ τ zO nw nl lm (nI (1 + r)) T9.1 (nI_nlt (b := 1) (by omega) (by omega)) ((nI_leI (b := 30) (by omega) (by omega)).mpr (by omega)) h12) gL_act_X0_addWord rfl rfl (by decide +kernel) rfl (Nat.le_of_ble_eq_true rfl) (by rw [R]; exact ⟨Nat.le_of_ble_eq_true rfl, Nat.le_of_ble_eq_true rfl⟩) (by rw [R]; exact ⟨Nat.le_of_ble_eq_true rfl, Nat.le_of_ble_eq_true rfl⟩) ?_
    refine j_aload_n C dL_act_85 rfl rfl ?_
    refine j_get C 0 0 dL_act_86 nwL_act_in (by decide) nwL_act_f21 rfl rfl rfl ?_
    show J E _ _ _ _ (.int (nI (nw + 1)) :: _) _
    refine j_iconst (v := 1) C dL_act_89 (by decide) ?_
    refine j_isub C dL_act_90 ?_
    refine j_icmp_ne (tgt := 98) C dL_act_91 (by decide) (fun c_91 => ?_) (fun c_91 => ?_)
    · exact absurd (nI_pred nw).symm c_91
    · refine j_iconst (v := 1) C dL_act_94 (by decide) ?_
      refine j_goto (tgt := 99) C dL_act_95 (by decide) ?_
      exact j_zret C F dL_act_99 (Or.inr rfl) (Nat.le_of_ble_eq_true rfl) (Nat.le_of_ble_eq_true rfl) ⟨rfl, a, nw + 1, nl, lm, _, _, _, _, rfl, rfl, TS_up (TS_add T9 h12 (show 1 ≤ 1 + r by omega) (show 1 + r ≤ 30 by omega)) (by omega)⟩
  · refine j_iconst (v := 1) C dL_act_39 (by decide) ?_
    exact j_zret C F dL_act_40 (Or.inr rfl) (Nat.le_of_ble_eq_true rfl) (Nat.le_of_ble_eq_true rfl) ⟨rfl, a, nw, nl, lm, σ, s, τ, t, rfl, rfl, TS_up T9 (by omega)⟩
set_option maxRecDepth 100000 in
theorem nwL_act_f34 : Cond.fieldLink RL 34 "TelegraphPricesLaw$Sim" "stand" "[[Z" ∈ wsL_act := by decide +kernel
set_option maxHeartbeats 4000000 in
set_option maxRecDepth 100000 in
theorem act_si {E : gE} (C : jC E cL_act 20 RL wsL_act none) (hl : (eL E).stackTraces = false) {K : Nat} {ad a : Nat → Nat} {x : va_W} {nw nl lm : Nat} {σ s : gS} {τ t : gT} (F : jF E (AP (eG E) ad (a 100) (K + 1) x) 514 5922 (some .boolean)) (R : eR E = { frames := 7, cells := 514, slots := 5922, locals := 224 }) (T9 : TS σ τ nw nl lm K s t) (X : Int32) (a9 b9 : Nat) (ha : a9 < nw) (hb9 : b9 < nw) : J E 0 0 224 [(5, .int (nI a9)), (6, .int (nI b9)), (0, .ref (ad 100)), (1, .ref (a 100)), (2, .int X), (3, .int (nI nl))] [] (sW (eG E) a nl nl s t ++ (wX (eG E) ad σ τ ++ x)) := by
  have V9 := TS_V T9
  have hnw := SV_nw V9
  have hnl := SV_m V9
  have e0 : s 0 = nI nw := SV_0 V9
  refine j_iload C dL_act_224 rfl ?_
  refine j_iload C dL_act_226 rfl ?_
  refine j_icmp_ne (tgt := 233) C dL_act_228 (by decide) (fun c_228 => ?_) (fun c_228 => ?_)
  · have hne : a9 ≠ b9 := fun q => c_228 (by rw [q])
    refine j_aload_n C dL_act_233 rfl rfl ?_
    refine j_get C 0 7 dL_act_234 nwL_act_in (by decide) nwL_act_f34 rfl rfl rfl ?_
    refine j_iload C dL_act_237 rfl ?_
    refine jS_row C 2 7 20 (a9) dL_act_239 rfl rfl (by omega) ?_
    refine j_iload C dL_act_240 rfl ?_
    refine j_aload_n C dL_act_242 rfl rfl ?_
    refine j_get C 0 7 dL_act_243 nwL_act_in (by decide) nwL_act_f34 rfl rfl rfl ?_
    refine j_iload C dL_act_246 rfl ?_
    refine jS_row C 2 7 20 (a9) dL_act_248 rfl rfl (by omega) ?_
    refine j_iload C dL_act_249 rfl ?_
    refine jS_st C [] (a9) (b9) dL_act_251 rfl (by omega) (by omega) ?_
    refine j_if_ne (tgt := 259) C dL_act_252 (by decide) (fun c_252 => ?_) (fun c_252 => ?_)
    · refine j_iconst (v := 0) C dL_act_259 (by decide) ?_
      rw [show (0 : Int32) = (if t (20 + a9) b9 = 0 then (1 : Int32) else 0) from (if_neg c_252).symm]
      refine jS_stput C [] (a9) (b9) dL_act_260 rfl (by omega) (by omega) (by split <;> simp) ?_
      refine j_aload_n C dL_act_261 rfl rfl ?_
      refine j_iload C dL_act_262 rfl ?_
      refine j_iload C dL_act_264 rfl ?_
      refine j_callXE (S := (sW _ _ _ _ _ _)) (na := 2) C dL_act_266 (c_turnStandIn hl (jG (eG E) ad _) σ τ zO nw nl lm a9 b9 T9.1 ha hb9 hne) gL_act_X0_turnStandIn rfl rfl (by decide +kernel) rfl (Nat.le_of_ble_eq_true rfl) (by rw [R]; exact ⟨Nat.le_of_ble_eq_true rfl, Nat.le_of_ble_eq_true rfl⟩) (by rw [R]; exact ⟨Nat.le_of_ble_eq_true rfl, Nat.le_of_ble_eq_true rfl⟩) ?_
      refine j_aload_n C dL_act_269 rfl rfl ?_
      refine j_get C 0 7 dL_act_270 nwL_act_in (by decide) nwL_act_f34 rfl rfl rfl ?_
      refine j_iload C dL_act_273 rfl ?_
      refine jS_row C 2 7 20 (a9) dL_act_275 rfl rfl (by omega) ?_
      refine j_iload C dL_act_276 rfl ?_
      refine jS_st C [] (a9) (b9) dL_act_278 rfl (by omega) (by omega) ?_
      rw [uT_eq, upd_eq]
      refine j_icmp_ne (tgt := 286) C dL_act_279 (by decide) (fun c_279 => ?_) (fun c_279 => ?_)
      · exact absurd (TS_si T9 ha hb9 hne).1.symm c_279
      · refine j_iconst (v := 1) C dL_act_282 (by decide) ?_
        refine j_goto (tgt := 287) C dL_act_283 (by decide) ?_
        exact j_zret C F dL_act_287 (Or.inr rfl) (Nat.le_of_ble_eq_true rfl) (Nat.le_of_ble_eq_true rfl) ⟨rfl, a, nw, nl, lm, _, _, _, _, rfl, rfl, TS_up (TS_si T9 ha hb9 hne).2 (by omega)⟩
    · refine j_iconst (v := 1) C dL_act_255 (by decide) ?_
      rw [show (1 : Int32) = (if t (20 + a9) b9 = 0 then (1 : Int32) else 0) from (if_pos c_252).symm]
      refine j_goto (tgt := 260) C dL_act_256 (by decide) ?_
      refine jS_stput C [] (a9) (b9) dL_act_260 rfl (by omega) (by omega) (by split <;> simp) ?_
      refine j_aload_n C dL_act_261 rfl rfl ?_
      refine j_iload C dL_act_262 rfl ?_
      refine j_iload C dL_act_264 rfl ?_
      refine j_callXE (S := (sW _ _ _ _ _ _)) (na := 2) C dL_act_266 (c_turnStandIn hl (jG (eG E) ad _) σ τ zO nw nl lm a9 b9 T9.1 ha hb9 hne) gL_act_X0_turnStandIn rfl rfl (by decide +kernel) rfl (Nat.le_of_ble_eq_true rfl) (by rw [R]; exact ⟨Nat.le_of_ble_eq_true rfl, Nat.le_of_ble_eq_true rfl⟩) (by rw [R]; exact ⟨Nat.le_of_ble_eq_true rfl, Nat.le_of_ble_eq_true rfl⟩) ?_
      refine j_aload_n C dL_act_269 rfl rfl ?_
      refine j_get C 0 7 dL_act_270 nwL_act_in (by decide) nwL_act_f34 rfl rfl rfl ?_
      refine j_iload C dL_act_273 rfl ?_
      refine jS_row C 2 7 20 (a9) dL_act_275 rfl rfl (by omega) ?_
      refine j_iload C dL_act_276 rfl ?_
      refine jS_st C [] (a9) (b9) dL_act_278 rfl (by omega) (by omega) ?_
      rw [uT_eq, upd_eq]
      refine j_icmp_ne (tgt := 286) C dL_act_279 (by decide) (fun c_279 => ?_) (fun c_279 => ?_)
      · exact absurd (TS_si T9 ha hb9 hne).1.symm c_279
      · refine j_iconst (v := 1) C dL_act_282 (by decide) ?_
        refine j_goto (tgt := 287) C dL_act_283 (by decide) ?_
        exact j_zret C F dL_act_287 (Or.inr rfl) (Nat.le_of_ble_eq_true rfl) (Nat.le_of_ble_eq_true rfl) ⟨rfl, a, nw, nl, lm, _, _, _, _, rfl, rfl, TS_up (TS_si T9 ha hb9 hne).2 (by omega)⟩
  · refine j_iconst (v := 1) C dL_act_231 (by decide) ?_
    exact j_zret C F dL_act_232 (Or.inr rfl) (Nat.le_of_ble_eq_true rfl) (Nat.le_of_ble_eq_true rfl) ⟨rfl, a, nw, nl, lm, σ, s, τ, t, rfl, rfl, TS_up T9 (by omega)⟩
set_option maxRecDepth 100000 in
theorem nwL_act_f42 : Cond.fieldLink RL 42 "TelegraphPricesLaw$Sim" "join" "[[Z" ∈ wsL_act := by decide +kernel
set_option maxHeartbeats 4000000 in
set_option maxRecDepth 100000 in
theorem act_tj {E : gE} (C : jC E cL_act 20 RL wsL_act none) (hl : (eL E).stackTraces = false) {K : Nat} {ad a : Nat → Nat} {x : va_W} {nw nl lm : Nat} {σ s : gS} {τ t : gT} (F : jF E (AP (eG E) ad (a 100) (K + 1) x) 514 5922 (some .boolean)) (R : eR E = { frames := 7, cells := 514, slots := 5922, locals := 224 }) (T9 : TS σ τ nw nl lm K s t) (X : Int32) (a9 b9 : Nat) (ha : a9 < nw) (hb9 : b9 < nw) : J E 0 0 288 [(5, .int (nI a9)), (6, .int (nI b9)), (0, .ref (ad 100)), (1, .ref (a 100)), (2, .int X), (3, .int (nI nl))] [] (sW (eG E) a nl nl s t ++ (wX (eG E) ad σ τ ++ x)) := by
  have V9 := TS_V T9
  have hnw := SV_nw V9
  have hnl := SV_m V9
  have e0 : s 0 = nI nw := SV_0 V9
  refine j_aload_n C dL_act_288 rfl rfl ?_
  refine j_get C 0 8 dL_act_289 nwL_act_in (by decide) nwL_act_f42 rfl rfl rfl ?_
  refine j_iload C dL_act_292 rfl ?_
  refine jS_row C 3 8 40 (a9) dL_act_294 rfl rfl (by omega) ?_
  refine j_iload C dL_act_295 rfl ?_
  refine j_aload_n C dL_act_297 rfl rfl ?_
  refine j_get C 0 8 dL_act_298 nwL_act_in (by decide) nwL_act_f42 rfl rfl rfl ?_
  refine j_iload C dL_act_301 rfl ?_
  refine jS_row C 3 8 40 (a9) dL_act_303 rfl rfl (by omega) ?_
  refine j_iload C dL_act_304 rfl ?_
  refine jS_jn C [] (a9) (b9) dL_act_306 rfl (by omega) (by omega) ?_
  refine j_if_ne (tgt := 314) C dL_act_307 (by decide) (fun c_307 => ?_) (fun c_307 => ?_)
  · refine j_iconst (v := 0) C dL_act_314 (by decide) ?_
    rw [show (0 : Int32) = (if t (40 + a9) b9 = 0 then (1 : Int32) else 0) from (if_neg c_307).symm]
    refine jS_jnput C [] (a9) (b9) dL_act_315 rfl (by omega) (by omega) (by split <;> simp) ?_
    refine j_aload_n C dL_act_316 rfl rfl ?_
    refine j_iload C dL_act_317 rfl ?_
    refine j_iload C dL_act_319 rfl ?_
    refine j_callXE (S := (sW _ _ _ _ _ _)) (na := 2) C dL_act_321 (c_turnJoin hl (jG (eG E) ad _) σ τ zO nw nl lm a9 b9 T9.1 ha hb9) gL_act_X0_turnJoin rfl rfl (by decide +kernel) rfl (Nat.le_of_ble_eq_true rfl) (by rw [R]; exact ⟨Nat.le_of_ble_eq_true rfl, Nat.le_of_ble_eq_true rfl⟩) (by rw [R]; exact ⟨Nat.le_of_ble_eq_true rfl, Nat.le_of_ble_eq_true rfl⟩) ?_
    refine j_aload_n C dL_act_324 rfl rfl ?_
    refine j_get C 0 8 dL_act_325 nwL_act_in (by decide) nwL_act_f42 rfl rfl rfl ?_
    refine j_iload C dL_act_328 rfl ?_
    refine jS_row C 3 8 40 (a9) dL_act_330 rfl rfl (by omega) ?_
    refine j_iload C dL_act_331 rfl ?_
    refine jS_jn C [] (a9) (b9) dL_act_333 rfl (by omega) (by omega) ?_
    rw [uT_eq, upd_eq]
    refine j_icmp_ne (tgt := 341) C dL_act_334 (by decide) (fun c_334 => ?_) (fun c_334 => ?_)
    · exact absurd (TS_tj T9 ha hb9 ).1.symm c_334
    · refine j_iconst (v := 1) C dL_act_337 (by decide) ?_
      refine j_goto (tgt := 342) C dL_act_338 (by decide) ?_
      exact j_zret C F dL_act_342 (Or.inr rfl) (Nat.le_of_ble_eq_true rfl) (Nat.le_of_ble_eq_true rfl) ⟨rfl, a, nw, nl, lm, _, _, _, _, rfl, rfl, TS_up (TS_tj T9 ha hb9 ).2 (by omega)⟩
  · refine j_iconst (v := 1) C dL_act_310 (by decide) ?_
    rw [show (1 : Int32) = (if t (40 + a9) b9 = 0 then (1 : Int32) else 0) from (if_pos c_307).symm]
    refine j_goto (tgt := 315) C dL_act_311 (by decide) ?_
    refine jS_jnput C [] (a9) (b9) dL_act_315 rfl (by omega) (by omega) (by split <;> simp) ?_
    refine j_aload_n C dL_act_316 rfl rfl ?_
    refine j_iload C dL_act_317 rfl ?_
    refine j_iload C dL_act_319 rfl ?_
    refine j_callXE (S := (sW _ _ _ _ _ _)) (na := 2) C dL_act_321 (c_turnJoin hl (jG (eG E) ad _) σ τ zO nw nl lm a9 b9 T9.1 ha hb9) gL_act_X0_turnJoin rfl rfl (by decide +kernel) rfl (Nat.le_of_ble_eq_true rfl) (by rw [R]; exact ⟨Nat.le_of_ble_eq_true rfl, Nat.le_of_ble_eq_true rfl⟩) (by rw [R]; exact ⟨Nat.le_of_ble_eq_true rfl, Nat.le_of_ble_eq_true rfl⟩) ?_
    refine j_aload_n C dL_act_324 rfl rfl ?_
    refine j_get C 0 8 dL_act_325 nwL_act_in (by decide) nwL_act_f42 rfl rfl rfl ?_
    refine j_iload C dL_act_328 rfl ?_
    refine jS_row C 3 8 40 (a9) dL_act_330 rfl rfl (by omega) ?_
    refine j_iload C dL_act_331 rfl ?_
    refine jS_jn C [] (a9) (b9) dL_act_333 rfl (by omega) (by omega) ?_
    rw [uT_eq, upd_eq]
    refine j_icmp_ne (tgt := 341) C dL_act_334 (by decide) (fun c_334 => ?_) (fun c_334 => ?_)
    · exact absurd (TS_tj T9 ha hb9 ).1.symm c_334
    · refine j_iconst (v := 1) C dL_act_337 (by decide) ?_
      refine j_goto (tgt := 342) C dL_act_338 (by decide) ?_
      exact j_zret C F dL_act_342 (Or.inr rfl) (Nat.le_of_ble_eq_true rfl) (Nat.le_of_ble_eq_true rfl) ⟨rfl, a, nw, nl, lm, _, _, _, _, rfl, rfl, TS_up (TS_tj T9 ha hb9 ).2 (by omega)⟩
set_option maxRecDepth 100000 in
theorem nwL_act_f48 : Cond.fieldLink RL 48 "TelegraphPricesLaw$Sim" "limit" "I" ∈ wsL_act := by decide +kernel
set_option maxHeartbeats 4000000 in
set_option maxRecDepth 100000 in
theorem act_limit {E : gE} (C : jC E cL_act 20 RL wsL_act none) (hl : (eL E).stackTraces = false) {K : Nat} {ad a : Nat → Nat} {x : va_W} {nw nl lm : Nat} {σ s : gS} {τ t : gT} (F : jF E (AP (eG E) ad (a 100) (K + 1) x) 514 5922 (some .boolean)) (R : eR E = { frames := 7, cells := 514, slots := 5922, locals := 224 }) (T9 : TS σ τ nw nl lm K s t) (X : Int32)  : J E 0 0 343 [(0, .ref (ad 100)), (1, .ref (a 100)), (2, .int X), (3, .int (nI nl))] [] (sW (eG E) a nl nl s t ++ (wX (eG E) ad σ τ ++ x)) := by
  have V9 := TS_V T9
  have hnw := SV_nw V9
  have hnl := SV_m V9
  have e0 : s 0 = nI nw := SV_0 V9
  refine j_aload_n C dL_act_343 rfl rfl ?_
  refine j_get C 0 1 dL_act_344 nwL_act_in (by decide) nwL_act_f48 rfl rfl rfl ?_
  rw [SV_1 V9]
  refine j_istore C [(8, _), (0, _), (1, _), (2, _), (3, _)] dL_act_347 (by decide) rfl ?_
  refine j_aload_n C dL_act_349 rfl rfl ?_
  refine j_iconst (v := 3) C dL_act_350 (by decide) ?_
  refine j_iload_n C dL_act_351 rfl rfl ?_
  refine j_iconst (v := 2) C dL_act_352 (by decide) ?_
  refine j_ishr C dL_act_353 ?_
  refine j_bipush (v := 13) C dL_act_354 (by decide) ?_
  refine j_below (N := 13) C hl R ⟨Nat.le_of_ble_eq_true rfl, Nat.le_of_ble_eq_true rfl⟩ ⟨Nat.le_of_ble_eq_true rfl, Nat.le_of_ble_eq_true rfl⟩ (Nat.le_of_ble_eq_true rfl) dL_act_356 gL_act_L_below (by decide) (by decide) (fun r hr => ?_)
  refine j_iadd C dL_act_359 ?_
  rw [show (3 : Int32) + nI r = nI (3 + r) from nI_add 3 r]
  refine jS_put C [] 0 1 dL_act_360 nwL_act_in (by decide) nwL_act_f48 rfl rfl (by decide +kernel) rfl (Nat.le_of_ble_eq_true rfl) rfl ?_
  refine j_aload_n C dL_act_363 rfl rfl ?_
  refine j_aload_n C dL_act_364 rfl rfl ?_
  refine j_get C 0 1 dL_act_365 nwL_act_in (by decide) nwL_act_f48 rfl rfl rfl ?_
  show J E _ _ _ _ (.int (nI (3 + r)) :: _) _
  refine j_callXE (S := (sW _ _ _ _ _ _)) (na := 1) C dL_act_368 (c_setLimit hl (jG (eG E) ad _) σ τ zO (nI (3 + r)) (nI_nlt (b := 3) (by omega) (by omega)) ((nI_leI (b := 15) (by omega) (by omega)).mpr (by omega))) gL_act_X0_setLimit rfl rfl (by decide +kernel) rfl (Nat.le_of_ble_eq_true rfl) (by rw [R]; exact ⟨Nat.le_of_ble_eq_true rfl, Nat.le_of_ble_eq_true rfl⟩) (by rw [R]; exact ⟨Nat.le_of_ble_eq_true rfl, Nat.le_of_ble_eq_true rfl⟩) ?_
  refine j_iload C dL_act_371 rfl ?_
  refine j_icmp_ne (tgt := 380) C dL_act_373 (by decide) (fun c_373 => ?_) (fun c_373 => ?_)
  · exact absurd (Iv_h4 T9.1) c_373
  · refine j_iconst (v := 1) C dL_act_376 (by decide) ?_
    refine j_goto (tgt := 381) C dL_act_377 (by decide) ?_
    exact j_zret C F dL_act_381 (Or.inr rfl) (Nat.le_of_ble_eq_true rfl) (Nat.le_of_ble_eq_true rfl) ⟨rfl, a, nw, nl, 3 + r, _, _, _, _, rfl, rfl, TS_up (TS_s4 T9 (show 3 ≤ 3 + r by omega) (show 3 + r ≤ 15 by omega)) (by omega)⟩
set_option maxRecDepth 100000 in
theorem nwL_act_f54 : Cond.fieldLink RL 54 "TelegraphPricesLaw$Sim" "least" "I" ∈ wsL_act := by decide +kernel
set_option maxHeartbeats 4000000 in
set_option maxRecDepth 100000 in
theorem act_least {E : gE} (C : jC E cL_act 20 RL wsL_act none) (hl : (eL E).stackTraces = false) {K : Nat} {ad a : Nat → Nat} {x : va_W} {nw nl lm : Nat} {σ s : gS} {τ t : gT} (F : jF E (AP (eG E) ad (a 100) (K + 1) x) 514 5922 (some .boolean)) (R : eR E = { frames := 7, cells := 514, slots := 5922, locals := 224 }) (T9 : TS σ τ nw nl lm K s t) (X : Int32)  : J E 0 0 382 [(0, .ref (ad 100)), (1, .ref (a 100)), (2, .int X), (3, .int (nI nl))] [] (sW (eG E) a nl nl s t ++ (wX (eG E) ad σ τ ++ x)) := by
  have V9 := TS_V T9
  have hnw := SV_nw V9
  have hnl := SV_m V9
  have e0 : s 0 = nI nw := SV_0 V9
  refine j_aload_n C dL_act_382 rfl rfl ?_
  refine j_get C 0 2 dL_act_383 nwL_act_in (by decide) nwL_act_f54 rfl rfl rfl ?_
  refine j_istore C [(9, _), (0, _), (1, _), (2, _), (3, _)] dL_act_386 (by decide) rfl ?_
  refine j_aload_n C dL_act_388 rfl rfl ?_
  refine j_iload_n C dL_act_389 rfl rfl ?_
  refine j_iconst (v := 2) C dL_act_390 (by decide) ?_
  refine j_ishr C dL_act_391 ?_
  refine j_bipush (v := 21) C dL_act_392 (by decide) ?_
  refine j_below (N := 21) C hl R ⟨Nat.le_of_ble_eq_true rfl, Nat.le_of_ble_eq_true rfl⟩ ⟨Nat.le_of_ble_eq_true rfl, Nat.le_of_ble_eq_true rfl⟩ (Nat.le_of_ble_eq_true rfl) dL_act_394 gL_act_L_below (by decide) (by decide) (fun r hr => ?_)
  refine jS_put C [] 0 2 dL_act_397 nwL_act_in (by decide) nwL_act_f54 rfl rfl (by decide +kernel) rfl (Nat.le_of_ble_eq_true rfl) rfl ?_
  refine j_aload_n C dL_act_400 rfl rfl ?_
  refine j_aload_n C dL_act_401 rfl rfl ?_
  refine j_get C 0 2 dL_act_402 nwL_act_in (by decide) nwL_act_f54 rfl rfl rfl ?_
  show J E _ _ _ _ (.int (nI r) :: _) _
  refine j_callXE (S := (sW _ _ _ _ _ _)) (na := 1) C dL_act_405 (c_setLeastCount hl (jG (eG E) ad _) σ τ zO (nI r) (nI_nlt (b := 0) (by omega) (by omega)) ((nI_leI (b := 20) (by omega) (by omega)).mpr (by omega))) gL_act_X0_setLeastCount rfl rfl (by decide +kernel) rfl (Nat.le_of_ble_eq_true rfl) (by rw [R]; exact ⟨Nat.le_of_ble_eq_true rfl, Nat.le_of_ble_eq_true rfl⟩) (by rw [R]; exact ⟨Nat.le_of_ble_eq_true rfl, Nat.le_of_ble_eq_true rfl⟩) ?_
  refine j_iload C dL_act_408 rfl ?_
  refine j_icmp_ne (tgt := 417) C dL_act_410 (by decide) (fun c_410 => ?_) (fun c_410 => ?_)
  · exact absurd (TS_n T9).1.symm c_410
  · refine j_iconst (v := 1) C dL_act_413 (by decide) ?_
    refine j_goto (tgt := 418) C dL_act_414 (by decide) ?_
    exact j_zret C F dL_act_418 (Or.inr rfl) (Nat.le_of_ble_eq_true rfl) (Nat.le_of_ble_eq_true rfl) ⟨rfl, a, nw, nl, lm, _, _, _, _, rfl, rfl, TS_up (TS_s5 T9 (show r ≤ 20 by omega)) (by omega)⟩
set_option maxRecDepth 100000 in
theorem nwL_act_f60 : Cond.fieldLink RL 60 "TelegraphPricesLaw$Sim" "coins" "I" ∈ wsL_act := by decide +kernel
set_option maxHeartbeats 4000000 in
set_option maxRecDepth 100000 in
theorem act_coins {E : gE} (C : jC E cL_act 20 RL wsL_act none) (hl : (eL E).stackTraces = false) {K : Nat} {ad a : Nat → Nat} {x : va_W} {nw nl lm : Nat} {σ s : gS} {τ t : gT} (F : jF E (AP (eG E) ad (a 100) (K + 1) x) 514 5922 (some .boolean)) (R : eR E = { frames := 7, cells := 514, slots := 5922, locals := 224 }) (T9 : TS σ τ nw nl lm K s t) (X : Int32)  : J E 0 0 419 [(0, .ref (ad 100)), (1, .ref (a 100)), (2, .int X), (3, .int (nI nl))] [] (sW (eG E) a nl nl s t ++ (wX (eG E) ad σ τ ++ x)) := by
  have V9 := TS_V T9
  have hnw := SV_nw V9
  have hnl := SV_m V9
  have e0 : s 0 = nI nw := SV_0 V9
  refine j_aload_n C dL_act_419 rfl rfl ?_
  refine j_get C 0 3 dL_act_420 nwL_act_in (by decide) nwL_act_f60 rfl rfl rfl ?_
  refine j_istore C [(10, _), (0, _), (1, _), (2, _), (3, _)] dL_act_423 (by decide) rfl ?_
  refine j_aload_n C dL_act_425 rfl rfl ?_
  refine j_iconst (v := 1) C dL_act_426 (by decide) ?_
  refine j_iload_n C dL_act_427 rfl rfl ?_
  refine j_iconst (v := 2) C dL_act_428 (by decide) ?_
  refine j_ishr C dL_act_429 ?_
  refine j_bipush (v := 50) C dL_act_430 (by decide) ?_
  refine j_below (N := 50) C hl R ⟨Nat.le_of_ble_eq_true rfl, Nat.le_of_ble_eq_true rfl⟩ ⟨Nat.le_of_ble_eq_true rfl, Nat.le_of_ble_eq_true rfl⟩ (Nat.le_of_ble_eq_true rfl) dL_act_432 gL_act_L_below (by decide) (by decide) (fun r hr => ?_)
  refine j_iadd C dL_act_435 ?_
  rw [show (1 : Int32) + nI r = nI (1 + r) from nI_add 1 r]
  refine jS_put C [] 0 3 dL_act_436 nwL_act_in (by decide) nwL_act_f60 rfl rfl (by decide +kernel) rfl (Nat.le_of_ble_eq_true rfl) rfl ?_
  refine j_aload_n C dL_act_439 rfl rfl ?_
  refine j_aload_n C dL_act_440 rfl rfl ?_
  refine j_get C 0 3 dL_act_441 nwL_act_in (by decide) nwL_act_f60 rfl rfl rfl ?_
  show J E _ _ _ _ (.int (nI (1 + r)) :: _) _
  refine j_callXE (S := (sW _ _ _ _ _ _)) (na := 1) C dL_act_444 (c_setCoins hl (jG (eG E) ad _) σ τ zO (nI (1 + r)) (nI_nlt (b := 1) (by omega) (by omega)) ((nI_leI (b := 50) (by omega) (by omega)).mpr (by omega))) gL_act_X0_setCoins rfl rfl (by decide +kernel) rfl (Nat.le_of_ble_eq_true rfl) (by rw [R]; exact ⟨Nat.le_of_ble_eq_true rfl, Nat.le_of_ble_eq_true rfl⟩) (by rw [R]; exact ⟨Nat.le_of_ble_eq_true rfl, Nat.le_of_ble_eq_true rfl⟩) ?_
  refine j_iload C dL_act_447 rfl ?_
  refine j_icmp_ne (tgt := 456) C dL_act_449 (by decide) (fun c_449 => ?_) (fun c_449 => ?_)
  · exact absurd (TS_n T9).2.1.symm c_449
  · refine j_iconst (v := 1) C dL_act_452 (by decide) ?_
    refine j_goto (tgt := 457) C dL_act_453 (by decide) ?_
    exact j_zret C F dL_act_457 (Or.inr rfl) (Nat.le_of_ble_eq_true rfl) (Nat.le_of_ble_eq_true rfl) ⟨rfl, a, nw, nl, lm, _, _, _, _, rfl, rfl, TS_up (TS_s6 T9 (show 1 ≤ 1 + r by omega) (show 1 + r ≤ 50 by omega)) (by omega)⟩
