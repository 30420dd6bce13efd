/-! the checksum of the class -/
def lst (l : List Int32) (i : Nat) : Int32 := l.getD i 0
def dlf (d : Int64) (f : Nat → Int32) : Nat → Int64
  | 0 => d
  | i + 1 => dlf d f i * 31 + (f i).toInt64
def dw (d : Int64) (L C S : Nat → Int32) : Nat → Int64
  | 0 => d
  | w + 1 => ((dw d L C S w * 31 + (L w).toInt64) * 31 + (C w).toInt64) * 31 + (S w).toInt64
def dpl (d : Int64) (W J V K : Nat → Int32) : Nat → Int64
  | 0 => d
  | p + 1 => (((dpl d W J V K p * 31 + (W p).toInt64) * 31 + (J p).toInt64) * 31 + (V p).toInt64) * 31 + (K p).toInt64
def cnf (lm : Int32) (L : Nat → Int32) (w : Nat) : Int32 := cn lm (L w)
def bcf (S : Nat → Int32) (w : Nat) : Int32 := bcF (S w)
set_option maxRecDepth 100000 in
theorem mwX0_digestOfWords_inX : ∀ w ∈ wsX00, w ∈ wsX0_digestOfWords := by decide +kernel
set_option maxRecDepth 100000 in
theorem mwX0_digestOfWords_f19 : Cond.fieldLink RX0 19 "TelegraphPrices" "words" "I" ∈ wsX0_digestOfWords := by decide +kernel
set_option maxRecDepth 100000 in
theorem mwX0_digestOfWords_c162 : Cond.constantLong RX0 162 (31) ∈ wsX0_digestOfWords := by decide +kernel
set_option maxRecDepth 100000 in
theorem mwX0_digestOfWords_f9 : Cond.fieldLink RX0 9 "TelegraphPrices" "letters" "[I" ∈ wsX0_digestOfWords := by decide +kernel
set_option maxHeartbeats 4000000 in
set_option maxRecDepth 100000 in
theorem c_digestOfWords {l : Launch} (hl : l.stackTraces = false) (Γ : gG) (σ : gS) (τ : gT) (o : gO) (nw nl lm : Nat) (d : Int64) (I : IX σ τ nw nl lm) : Ct l yX0_digestOfWords wsX0_digestOfWords 3 96 0 0 [.ref (Γ.2.1 100), .long d] Γ σ τ o (pE (some (.long (dw d (τ 0) (cnf (σ 4) (τ 0)) (bcf (τ 1)) nw))) σ τ o) (noX) := by
  refine ct_of hl (by decide +kernel) rfl (Nat.le_of_ble_eq_true rfl) ?_
  intro E C F T hΓ hL R
  subst hΓ
  subst hL
  show G E 0 0 0 [(0, .ref ((eG E).2.1 100)), (1, .long d)] [] σ τ o
  have hnw := Iv_nw I
  have hnl := Iv_nl I
  have h3 : σ 3 = nI nw := Iv_h3 I
  have h9 : σ 9 = nI nl := Iv_h9 I
  have h4 : ¬ σ 4 = 0 := Iv_ne I
  have loop : ∀ m a : Nat, a + m = nw → G E 0 0 5 [(5, .int (nI a)), (3, .long (dw d (τ 0) (cnf (σ 4) (τ 0)) (bcf (τ 1)) a)), (0, .ref ((eG E).2.1 100)), (1, .long d)] [] σ τ o := by
    intro m
    induction m with
    | zero =>
      intro a ha
      refine g_iload C dX0_digestOfWords_5 rfl ?_
      refine g_aload_n C dX0_digestOfWords_7 rfl rfl ?_
      refine g_getX C 3 dX0_digestOfWords_8 mwX0_digestOfWords_inX (by decide) mwX0_digestOfWords_f19 rfl rfl ?_
      refine g_icmp_ge (tgt := 63) C dX0_digestOfWords_11 (by decide) (fun c_11 => ?_) (fun c_11 => ?_)
      · refine g_lload_n C dX0_digestOfWords_63 rfl rfl ?_
        exact g_lret C F dX0_digestOfWords_64 (by decide) (by decide) ⟨by rw [show a = nw by omega], rfl, rfl, rfl⟩
      · exact absurd (by rw [h3]; exact nI_le (by omega) (by omega)) c_11
    | succ m ih =>
      intro a ha
      have han : a < nw := by omega
      refine g_iload C dX0_digestOfWords_5 rfl ?_
      refine g_aload_n C dX0_digestOfWords_7 rfl rfl ?_
      refine g_getX C 3 dX0_digestOfWords_8 mwX0_digestOfWords_inX (by decide) mwX0_digestOfWords_f19 rfl rfl ?_
      refine g_icmp_ge (tgt := 63) C dX0_digestOfWords_11 (by decide) (fun c_11 => ?_) (fun c_11 => ?_)
      · exact absurd (by rw [h3] at c_11; exact c_11) (nI_ge (by omega) (by omega))
      · refine g_lload_n C dX0_digestOfWords_14 rfl rfl ?_
        refine g_ldc2 C dX0_digestOfWords_15 mwX0_digestOfWords_c162 ?_
        refine g_lmul C dX0_digestOfWords_18 ?_
        refine g_aload_n C dX0_digestOfWords_19 rfl rfl ?_
        refine g_getX C 0 dX0_digestOfWords_20 mwX0_digestOfWords_inX (by decide) mwX0_digestOfWords_f9 rfl rfl ?_
        refine g_iload C dX0_digestOfWords_23 rfl ?_
        refine g_ialdN C (a) dX0_digestOfWords_25 rfl rfl (show a < 12 by omega) (by decide) ?_
        refine g_i2l C dX0_digestOfWords_26 ?_
        refine g_ladd C dX0_digestOfWords_27 ?_
        refine g_lstore_n C [(3, _), (5, _), (0, _), (1, _)] dX0_digestOfWords_28 rfl (by decide) rfl ?_
        refine g_lload_n C dX0_digestOfWords_29 rfl rfl ?_
        refine g_ldc2 C dX0_digestOfWords_30 mwX0_digestOfWords_c162 ?_
        refine g_lmul C dX0_digestOfWords_33 ?_
        refine g_aload_n C dX0_digestOfWords_34 rfl rfl ?_
        refine g_iload C dX0_digestOfWords_35 rfl ?_
        refine g_callVEi (Cl := RX0) (T := TX0) (N := 18) (ci := 0) (q0 := 0) (na := 1) C dX0_digestOfWords_37 (c_countOf hl (eG E) σ τ o nw nl lm a I han) gX0_digestOfWords_X0_countOf rfl rfl (by decide +kernel) rfl rfl rfl (Nat.le_of_ble_eq_true rfl) (by rw [R]; exact ⟨by decide, by decide⟩) (by rw [R]; exact ⟨by decide, by decide⟩) ?_
        refine g_i2l C dX0_digestOfWords_40 ?_
        refine g_ladd C dX0_digestOfWords_41 ?_
        refine g_lstore_n C [(3, _), (5, _), (0, _), (1, _)] dX0_digestOfWords_42 rfl (by decide) rfl ?_
        refine g_lload_n C dX0_digestOfWords_43 rfl rfl ?_
        refine g_ldc2 C dX0_digestOfWords_44 mwX0_digestOfWords_c162 ?_
        refine g_lmul C dX0_digestOfWords_47 ?_
        refine g_aload_n C dX0_digestOfWords_48 rfl rfl ?_
        refine g_iload C dX0_digestOfWords_49 rfl ?_
        refine g_callVEi (Cl := RX0) (T := TX0) (N := 18) (ci := 0) (q0 := 0) (na := 1) C dX0_digestOfWords_51 (c_standInsOf hl (eG E) σ τ o nw nl lm a I han) gX0_digestOfWords_X0_standInsOf rfl rfl (by decide +kernel) rfl rfl rfl (Nat.le_of_ble_eq_true rfl) (by rw [R]; exact ⟨by decide, by decide⟩) (by rw [R]; exact ⟨by decide, by decide⟩) ?_
        refine g_i2l C dX0_digestOfWords_54 ?_
        refine g_ladd C dX0_digestOfWords_55 ?_
        refine g_lstore_n C [(3, _), (5, _), (0, _), (1, _)] dX0_digestOfWords_56 rfl (by decide) rfl ?_
        refine g_iinc C 1 [(5, _), (3, _), (0, _), (1, _)] dX0_digestOfWords_57 rfl (nI_i1 a) (by decide) rfl ?_
        refine g_goto (tgt := 5) C dX0_digestOfWords_60 (by decide) ?_
        exact ih (a + 1) (by omega)
  refine g_lload_n C dX0_digestOfWords_0 rfl rfl ?_
  refine g_lstore_n C [(3, _), (0, _), (1, _)] dX0_digestOfWords_1 rfl (by decide) rfl ?_
  refine g_iconst (v := 0) C dX0_digestOfWords_2 (by decide) ?_
  refine g_istore C [(5, _), (3, _), (0, _), (1, _)] dX0_digestOfWords_3 (by decide) rfl ?_
  exact loop nw 0 (Nat.zero_add _)
set_option maxRecDepth 100000 in
theorem mwX0_digestOfPlaces_inX : ∀ w ∈ wsX00, w ∈ wsX0_digestOfPlaces := by decide +kernel
set_option maxRecDepth 100000 in
theorem mwX0_digestOfPlaces_f39 : Cond.fieldLink RX0 39 "TelegraphPrices" "length" "I" ∈ wsX0_digestOfPlaces := by decide +kernel
set_option maxRecDepth 100000 in
theorem mwX0_digestOfPlaces_c162 : Cond.constantLong RX0 162 (31) ∈ wsX0_digestOfPlaces := by decide +kernel
set_option maxRecDepth 100000 in
theorem mwX0_digestOfPlaces_f32 : Cond.fieldLink RX0 32 "TelegraphPrices" "telegram" "[I" ∈ wsX0_digestOfPlaces := by decide +kernel
set_option maxRecDepth 100000 in
theorem mwX0_digestOfPlaces_f35 : Cond.fieldLink RX0 35 "TelegraphPrices" "joined" "[Z" ∈ wsX0_digestOfPlaces := by decide +kernel
set_option maxRecDepth 100000 in
theorem mwX0_digestOfPlaces_f60 : Cond.fieldLink RX0 60 "TelegraphPrices" "cheapestWords" "[I" ∈ wsX0_digestOfPlaces := by decide +kernel
set_option maxRecDepth 100000 in
theorem mwX0_digestOfPlaces_f63 : Cond.fieldLink RX0 63 "TelegraphPrices" "cheapestJoined" "[Z" ∈ wsX0_digestOfPlaces := by decide +kernel
set_option maxHeartbeats 4000000 in
set_option maxRecDepth 100000 in
theorem c_digestOfPlaces {l : Launch} (hl : l.stackTraces = false) (Γ : gG) (σ : gS) (τ : gT) (o : gO) (nw nl lm : Nat) (d : Int64) (I : IX σ τ nw nl lm) : Ct l yX0_digestOfPlaces wsX0_digestOfPlaces 6 192 0 0 [.ref (Γ.2.1 100), .long d] Γ σ τ o (pJ (fun r σ' τ' o' => r = dpl d (τ 7) (τ 8) (cwd (prx σ τ nw nl) (Sx σ τ nw nl) (Ax σ τ nw nl) (Bx σ τ nw nl)) (cjd (prx σ τ nw nl)) nl ∧ σ' = σ ∧ o' = o ∧ CH σ τ nw nl nl τ')) (noX) := by
  refine ct_of hl (by decide +kernel) rfl (Nat.le_of_ble_eq_true rfl) ?_
  intro E C F T hΓ hL R
  subst hΓ
  subst hL
  show G E 0 0 0 [(0, .ref ((eG E).2.1 100)), (1, .long d)] [] σ τ o
  have hnw := Iv_nw I
  have hnl := Iv_nl I
  have h3 : σ 3 = nI nw := Iv_h3 I
  have h9 : σ 9 = nI nl := Iv_h9 I
  have h4 : ¬ σ 4 = 0 := Iv_ne I
  have loop : ∀ τ1 : gT, CH σ τ nw nl nl τ1 → ∀ m p : Nat, p + m = nl → G E (0 + 0) (0 + 0) 9 [(5, .int (nI p)), (3, .long (dpl d (τ 7) (τ 8) (cwd (prx σ τ nw nl) (Sx σ τ nw nl) (Ax σ τ nw nl) (Bx σ τ nw nl)) (cjd (prx σ τ nw nl)) p)), (0, .ref ((eG E).2.1 100)), (1, .long d)] [] σ τ1 o := by
    intro τ1 hC m
    have e7 : τ1 7 = τ 7 := hC.1 7 (by decide)
    have e8 : τ1 8 = τ 8 := hC.1 8 (by decide)
    induction m with
    | zero =>
      intro p hp
      refine g_iload C dX0_digestOfPlaces_9 rfl ?_
      refine g_aload_n C dX0_digestOfPlaces_11 rfl rfl ?_
      refine g_getX C 9 dX0_digestOfPlaces_12 mwX0_digestOfPlaces_inX (by decide) mwX0_digestOfPlaces_f39 rfl rfl ?_
      refine g_icmp_ge (tgt := 100) C dX0_digestOfPlaces_15 (by decide) (fun c_15 => ?_) (fun c_15 => ?_)
      · refine g_lload_n C dX0_digestOfPlaces_100 rfl rfl ?_
        exact g_lret C F dX0_digestOfPlaces_101 (by decide) (by decide) ⟨_, rfl, by rw [show p = nl by omega], rfl, rfl, hC⟩
      · exact absurd (by rw [h9]; exact nI_le (by omega) (by omega)) c_15
    | succ m ih =>
      intro p hp
      have hpl : p < nl := by omega
      refine g_iload C dX0_digestOfPlaces_9 rfl ?_
      refine g_aload_n C dX0_digestOfPlaces_11 rfl rfl ?_
      refine g_getX C 9 dX0_digestOfPlaces_12 mwX0_digestOfPlaces_inX (by decide) mwX0_digestOfPlaces_f39 rfl rfl ?_
      refine g_icmp_ge (tgt := 100) C dX0_digestOfPlaces_15 (by decide) (fun c_15 => ?_) (fun c_15 => ?_)
      · exact absurd (by rw [h9] at c_15; exact c_15) (nI_ge (by omega) (by omega))
      · refine g_lload_n C dX0_digestOfPlaces_18 rfl rfl ?_
        refine g_ldc2 C dX0_digestOfPlaces_19 mwX0_digestOfPlaces_c162 ?_
        refine g_lmul C dX0_digestOfPlaces_22 ?_
        refine g_aload_n C dX0_digestOfPlaces_23 rfl rfl ?_
        refine g_getX C 7 dX0_digestOfPlaces_24 mwX0_digestOfPlaces_inX (by decide) mwX0_digestOfPlaces_f32 rfl rfl ?_
        refine g_iload C dX0_digestOfPlaces_27 rfl ?_
        refine g_ialdN C (p) dX0_digestOfPlaces_29 rfl rfl (show p < 16 by omega) (by decide) ?_
        rw [e7]
        refine g_i2l C dX0_digestOfPlaces_30 ?_
        refine g_ladd C dX0_digestOfPlaces_31 ?_
        refine g_lstore_n C [(3, _), (5, _), (0, _), (1, _)] dX0_digestOfPlaces_32 rfl (by decide) rfl ?_
        refine g_lload_n C dX0_digestOfPlaces_33 rfl rfl ?_
        refine g_ldc2 C dX0_digestOfPlaces_34 mwX0_digestOfPlaces_c162 ?_
        refine g_lmul C dX0_digestOfPlaces_37 ?_
        refine g_aload_n C dX0_digestOfPlaces_38 rfl rfl ?_
        refine g_getX C 8 dX0_digestOfPlaces_39 mwX0_digestOfPlaces_inX (by decide) mwX0_digestOfPlaces_f35 rfl rfl ?_
        refine g_iload C dX0_digestOfPlaces_42 rfl ?_
        refine g_zaldN C (p) dX0_digestOfPlaces_44 rfl rfl (show p < 16 by omega) (by decide) ?_
        rw [e8]
        refine g_if_eq (tgt := 52) C dX0_digestOfPlaces_45 (by decide) (fun c_45 => ?_) (fun c_45 => ?_)
        · refine g_iconst (v := 0) C dX0_digestOfPlaces_52 (by decide) ?_
          refine g_topi (show _ = τ 8 p from c_45.symm) ?_
          refine g_i2l C dX0_digestOfPlaces_53 ?_
          refine g_ladd C dX0_digestOfPlaces_54 ?_
          refine g_lstore_n C [(3, _), (5, _), (0, _), (1, _)] dX0_digestOfPlaces_55 rfl (by decide) rfl ?_
          refine g_lload_n C dX0_digestOfPlaces_56 rfl rfl ?_
          refine g_ldc2 C dX0_digestOfPlaces_57 mwX0_digestOfPlaces_c162 ?_
          refine g_lmul C dX0_digestOfPlaces_60 ?_
          refine g_aload_n C dX0_digestOfPlaces_61 rfl rfl ?_
          refine g_getX C 16 dX0_digestOfPlaces_62 mwX0_digestOfPlaces_inX (by decide) mwX0_digestOfPlaces_f60 rfl rfl ?_
          refine g_iload C dX0_digestOfPlaces_65 rfl ?_
          refine g_ialdN C (p) dX0_digestOfPlaces_67 rfl rfl (show p < 16 by omega) (by decide) ?_
          rw [(hC.2.2.2.2 p hpl).1]
          refine g_i2l C dX0_digestOfPlaces_68 ?_
          refine g_ladd C dX0_digestOfPlaces_69 ?_
          refine g_lstore_n C [(3, _), (5, _), (0, _), (1, _)] dX0_digestOfPlaces_70 rfl (by decide) rfl ?_
          refine g_lload_n C dX0_digestOfPlaces_71 rfl rfl ?_
          refine g_ldc2 C dX0_digestOfPlaces_72 mwX0_digestOfPlaces_c162 ?_
          refine g_lmul C dX0_digestOfPlaces_75 ?_
          refine g_aload_n C dX0_digestOfPlaces_76 rfl rfl ?_
          refine g_getX C 17 dX0_digestOfPlaces_77 mwX0_digestOfPlaces_inX (by decide) mwX0_digestOfPlaces_f63 rfl rfl ?_
          refine g_iload C dX0_digestOfPlaces_80 rfl ?_
          refine g_zaldN C (p) dX0_digestOfPlaces_82 rfl rfl (show p < 16 by omega) (by decide) ?_
          rw [(hC.2.2.2.2 p hpl).2]
          refine g_if_eq (tgt := 90) C dX0_digestOfPlaces_83 (by decide) (fun c_83 => ?_) (fun c_83 => ?_)
          · refine g_iconst (v := 0) C dX0_digestOfPlaces_90 (by decide) ?_
            refine g_topi (show _ = cjd (prx σ τ nw nl) p from c_83.symm) ?_
            refine g_i2l C dX0_digestOfPlaces_91 ?_
            refine g_ladd C dX0_digestOfPlaces_92 ?_
            refine g_lstore_n C [(3, _), (5, _), (0, _), (1, _)] dX0_digestOfPlaces_93 rfl (by decide) rfl ?_
            refine g_iinc C 1 [(5, _), (3, _), (0, _), (1, _)] dX0_digestOfPlaces_94 rfl (nI_i1 p) (by decide) rfl ?_
            refine g_goto (tgt := 9) C dX0_digestOfPlaces_97 (by decide) ?_
            exact ih (p + 1) (by omega)
          · refine g_iconst (v := 1) C dX0_digestOfPlaces_86 (by decide) ?_
            refine g_topi (show _ = cjd (prx σ τ nw nl) p from ((cjd_01 _ p).resolve_left c_83).symm) ?_
            refine g_goto (tgt := 91) C dX0_digestOfPlaces_87 (by decide) ?_
            refine g_i2l C dX0_digestOfPlaces_91 ?_
            refine g_ladd C dX0_digestOfPlaces_92 ?_
            refine g_lstore_n C [(3, _), (5, _), (0, _), (1, _)] dX0_digestOfPlaces_93 rfl (by decide) rfl ?_
            refine g_iinc C 1 [(5, _), (3, _), (0, _), (1, _)] dX0_digestOfPlaces_94 rfl (nI_i1 p) (by decide) rfl ?_
            refine g_goto (tgt := 9) C dX0_digestOfPlaces_97 (by decide) ?_
            exact ih (p + 1) (by omega)
        · refine g_iconst (v := 1) C dX0_digestOfPlaces_48 (by decide) ?_
          refine g_topi (show _ = τ 8 p from ((Iv_jd I p).resolve_left c_45).symm) ?_
          refine g_goto (tgt := 53) C dX0_digestOfPlaces_49 (by decide) ?_
          refine g_i2l C dX0_digestOfPlaces_53 ?_
          refine g_ladd C dX0_digestOfPlaces_54 ?_
          refine g_lstore_n C [(3, _), (5, _), (0, _), (1, _)] dX0_digestOfPlaces_55 rfl (by decide) rfl ?_
          refine g_lload_n C dX0_digestOfPlaces_56 rfl rfl ?_
          refine g_ldc2 C dX0_digestOfPlaces_57 mwX0_digestOfPlaces_c162 ?_
          refine g_lmul C dX0_digestOfPlaces_60 ?_
          refine g_aload_n C dX0_digestOfPlaces_61 rfl rfl ?_
          refine g_getX C 16 dX0_digestOfPlaces_62 mwX0_digestOfPlaces_inX (by decide) mwX0_digestOfPlaces_f60 rfl rfl ?_
          refine g_iload C dX0_digestOfPlaces_65 rfl ?_
          refine g_ialdN C (p) dX0_digestOfPlaces_67 rfl rfl (show p < 16 by omega) (by decide) ?_
          rw [(hC.2.2.2.2 p hpl).1]
          refine g_i2l C dX0_digestOfPlaces_68 ?_
          refine g_ladd C dX0_digestOfPlaces_69 ?_
          refine g_lstore_n C [(3, _), (5, _), (0, _), (1, _)] dX0_digestOfPlaces_70 rfl (by decide) rfl ?_
          refine g_lload_n C dX0_digestOfPlaces_71 rfl rfl ?_
          refine g_ldc2 C dX0_digestOfPlaces_72 mwX0_digestOfPlaces_c162 ?_
          refine g_lmul C dX0_digestOfPlaces_75 ?_
          refine g_aload_n C dX0_digestOfPlaces_76 rfl rfl ?_
          refine g_getX C 17 dX0_digestOfPlaces_77 mwX0_digestOfPlaces_inX (by decide) mwX0_digestOfPlaces_f63 rfl rfl ?_
          refine g_iload C dX0_digestOfPlaces_80 rfl ?_
          refine g_zaldN C (p) dX0_digestOfPlaces_82 rfl rfl (show p < 16 by omega) (by decide) ?_
          rw [(hC.2.2.2.2 p hpl).2]
          refine g_if_eq (tgt := 90) C dX0_digestOfPlaces_83 (by decide) (fun c_83 => ?_) (fun c_83 => ?_)
          · refine g_iconst (v := 0) C dX0_digestOfPlaces_90 (by decide) ?_
            refine g_topi (show _ = cjd (prx σ τ nw nl) p from c_83.symm) ?_
            refine g_i2l C dX0_digestOfPlaces_91 ?_
            refine g_ladd C dX0_digestOfPlaces_92 ?_
            refine g_lstore_n C [(3, _), (5, _), (0, _), (1, _)] dX0_digestOfPlaces_93 rfl (by decide) rfl ?_
            refine g_iinc C 1 [(5, _), (3, _), (0, _), (1, _)] dX0_digestOfPlaces_94 rfl (nI_i1 p) (by decide) rfl ?_
            refine g_goto (tgt := 9) C dX0_digestOfPlaces_97 (by decide) ?_
            exact ih (p + 1) (by omega)
          · refine g_iconst (v := 1) C dX0_digestOfPlaces_86 (by decide) ?_
            refine g_topi (show _ = cjd (prx σ τ nw nl) p from ((cjd_01 _ p).resolve_left c_83).symm) ?_
            refine g_goto (tgt := 91) C dX0_digestOfPlaces_87 (by decide) ?_
            refine g_i2l C dX0_digestOfPlaces_91 ?_
            refine g_ladd C dX0_digestOfPlaces_92 ?_
            refine g_lstore_n C [(3, _), (5, _), (0, _), (1, _)] dX0_digestOfPlaces_93 rfl (by decide) rfl ?_
            refine g_iinc C 1 [(5, _), (3, _), (0, _), (1, _)] dX0_digestOfPlaces_94 rfl (nI_i1 p) (by decide) rfl ?_
            refine g_goto (tgt := 9) C dX0_digestOfPlaces_97 (by decide) ?_
            exact ih (p + 1) (by omega)
  refine g_aload_n C dX0_digestOfPlaces_0 rfl rfl ?_
  refine g_callVv (Cl := RX0) (T := TX0) (N := 18) (ci := 0) (q0 := 0) (na := 0) C dX0_digestOfPlaces_1 (c_noteWording hl (eG E) σ τ o nw nl lm I) gX0_digestOfPlaces_X0_noteCheapestWording rfl rfl (by decide +kernel) rfl rfl rfl (Nat.le_of_ble_eq_true rfl) (by rw [R]; exact ⟨by decide, by decide⟩) (by rw [R]; exact ⟨by decide, by decide⟩) noX_kx (fun σ1 τ1 o1 hN1 => ?_)
  obtain ⟨e1, e2, hN⟩ := hN1
  rw [e1, e2]
  refine g_lload_n C dX0_digestOfPlaces_4 rfl rfl ?_
  refine g_lstore_n C [(3, _), (0, _), (1, _)] dX0_digestOfPlaces_5 rfl (by decide) rfl ?_
  refine g_iconst (v := 0) C dX0_digestOfPlaces_6 (by decide) ?_
  refine g_istore C [(5, _), (3, _), (0, _), (1, _)] dX0_digestOfPlaces_7 (by decide) rfl ?_
  exact loop τ1 hN nl 0 (Nat.zero_add _)
def DN (σ : gS) (τ : gT) (nw nl : Nat) : Nat → Int32 := lst [σ 3, σ 4, σ 5, σ 6, σ 9, CTx σ τ nl, CTx σ τ nl * σ 6, CC0 σ τ nw nl, σ 10, σ 11]
def DGx (σ : gS) (τ : gT) (nw nl : Nat) : Int64 := dpl (dw (dlf 1913 (DN σ τ nw nl) 10) (τ 0) (cnf (σ 4) (τ 0)) (bcf (τ 1)) nw) (τ 7) (τ 8) (cwd (prx σ τ nw nl) (Sx σ τ nw nl) (Ax σ τ nw nl) (Bx σ τ nw nl)) (cjd (prx σ τ nw nl)) nl
theorem prx_s {σ : gS} {τ τ' : gT} {nw nl : Nat} (h : XS τ τ') : prx σ τ' nw nl = prx σ τ nw nl := by
  funext p
  have e : ∀ m, FX σ τ' nw nl m = FX σ τ nw nl m := by
    intro m
    unfold FX
    rw [show LAx σ τ' nw nl = LAx σ τ nw nl from funext (fun q => LAx_s h), show LJx σ τ' nw nl = LJx σ τ nw nl from funext (fun q => LJx_s h)]
  unfold prx
  rw [bpx_s h, LAx_s h, e, e]
theorem cwx_s {σ : gS} {τ τ' : gT} {nw nl : Nat} (h : XS τ τ') : cwd (prx σ τ' nw nl) (Sx σ τ' nw nl) (Ax σ τ' nw nl) (Bx σ τ' nw nl) = cwd (prx σ τ nw nl) (Sx σ τ nw nl) (Ax σ τ nw nl) (Bx σ τ nw nl) := by
  rw [prx_s h, show Sx σ τ' nw nl = Sx σ τ nw nl from funext (fun q => Sx_s h), show Ax σ τ' nw nl = Ax σ τ nw nl from funext (fun q => by unfold Ax; rw [bpx_s h]), show Bx σ τ' nw nl = Bx σ τ nw nl from funext (fun q => by unfold Bx; rw [bpx_s h])]
set_option maxRecDepth 100000 in
theorem mwX0_digest_c160 : Cond.constantLong RX0 160 (1913) ∈ wsX0_digest := by decide +kernel
set_option maxRecDepth 100000 in
theorem mwX0_digest_c162 : Cond.constantLong RX0 162 (31) ∈ wsX0_digest := by decide +kernel
set_option maxRecDepth 100000 in
theorem mwX0_digest_inX : ∀ w ∈ wsX00, w ∈ wsX0_digest := by decide +kernel
set_option maxRecDepth 100000 in
theorem mwX0_digest_f19 : Cond.fieldLink RX0 19 "TelegraphPrices" "words" "I" ∈ wsX0_digest := by decide +kernel
set_option maxRecDepth 100000 in
theorem mwX0_digest_f23 : Cond.fieldLink RX0 23 "TelegraphPrices" "limit" "I" ∈ wsX0_digest := by decide +kernel
set_option maxRecDepth 100000 in
theorem mwX0_digest_f26 : Cond.fieldLink RX0 26 "TelegraphPrices" "leastCount" "I" ∈ wsX0_digest := by decide +kernel
set_option maxRecDepth 100000 in
theorem mwX0_digest_f29 : Cond.fieldLink RX0 29 "TelegraphPrices" "coins" "I" ∈ wsX0_digest := by decide +kernel
set_option maxRecDepth 100000 in
theorem mwX0_digest_f39 : Cond.fieldLink RX0 39 "TelegraphPrices" "length" "I" ∈ wsX0_digest := by decide +kernel
set_option maxRecDepth 100000 in
theorem mwX0_digest_f42 : Cond.fieldLink RX0 42 "TelegraphPrices" "sent" "I" ∈ wsX0_digest := by decide +kernel
set_option maxRecDepth 100000 in
theorem mwX0_digest_f45 : Cond.fieldLink RX0 45 "TelegraphPrices" "earned" "I" ∈ wsX0_digest := by decide +kernel
set_option maxHeartbeats 4000000 in
set_option maxRecDepth 100000 in
theorem c_digest {l : Launch} (hl : l.stackTraces = false) (Γ : gG) (σ : gS) (τ : gT) (o : gO) (nw nl lm : Nat) (I : IX σ τ nw nl lm) : Ct l yX0_digest wsX0_digest 7 224 0 0 [.ref (Γ.2.1 100)] Γ σ τ o (pJ (fun r σ' τ' o' => r = DGx σ τ nw nl ∧ σ' = σ ∧ o' = o ∧ XS τ τ' ∧ ∀ i, τ' 17 i = 0 ∨ τ' 17 i = 1)) (noX) := by
  refine ct_of hl (by decide +kernel) rfl (Nat.le_of_ble_eq_true rfl) ?_
  intro E C F T hΓ hL R
  subst hΓ
  subst hL
  show G E 0 0 0 [(0, .ref ((eG E).2.1 100))] [] σ τ o
  have hnw := Iv_nw I
  have hnl := Iv_nl I
  have h3 : σ 3 = nI nw := Iv_h3 I
  have h9 : σ 9 = nI nl := Iv_h9 I
  have h4 : ¬ σ 4 = 0 := Iv_ne I
  refine g_ldc2 C dX0_digest_0 mwX0_digest_c160 ?_
  refine g_lstore_n C [(1, _), (0, _)] dX0_digest_3 rfl (by decide) rfl ?_
  refine g_lload_n C dX0_digest_4 rfl rfl ?_
  refine g_ldc2 C dX0_digest_5 mwX0_digest_c162 ?_
  refine g_lmul C dX0_digest_8 ?_
  refine g_aload_n C dX0_digest_9 rfl rfl ?_
  refine g_getX C 3 dX0_digest_10 mwX0_digest_inX (by decide) mwX0_digest_f19 rfl rfl ?_
  refine g_i2l C dX0_digest_13 ?_
  refine g_ladd C dX0_digest_14 ?_
  refine g_lstore_n C [(1, _), (0, _)] dX0_digest_15 rfl (by decide) rfl ?_
  refine g_lload_n C dX0_digest_16 rfl rfl ?_
  refine g_ldc2 C dX0_digest_17 mwX0_digest_c162 ?_
  refine g_lmul C dX0_digest_20 ?_
  refine g_aload_n C dX0_digest_21 rfl rfl ?_
  refine g_getX C 4 dX0_digest_22 mwX0_digest_inX (by decide) mwX0_digest_f23 rfl rfl ?_
  refine g_i2l C dX0_digest_25 ?_
  refine g_ladd C dX0_digest_26 ?_
  refine g_lstore_n C [(1, _), (0, _)] dX0_digest_27 rfl (by decide) rfl ?_
  refine g_lload_n C dX0_digest_28 rfl rfl ?_
  refine g_ldc2 C dX0_digest_29 mwX0_digest_c162 ?_
  refine g_lmul C dX0_digest_32 ?_
  refine g_aload_n C dX0_digest_33 rfl rfl ?_
  refine g_getX C 5 dX0_digest_34 mwX0_digest_inX (by decide) mwX0_digest_f26 rfl rfl ?_
  refine g_i2l C dX0_digest_37 ?_
  refine g_ladd C dX0_digest_38 ?_
  refine g_lstore_n C [(1, _), (0, _)] dX0_digest_39 rfl (by decide) rfl ?_
  refine g_lload_n C dX0_digest_40 rfl rfl ?_
  refine g_ldc2 C dX0_digest_41 mwX0_digest_c162 ?_
  refine g_lmul C dX0_digest_44 ?_
  refine g_aload_n C dX0_digest_45 rfl rfl ?_
  refine g_getX C 6 dX0_digest_46 mwX0_digest_inX (by decide) mwX0_digest_f29 rfl rfl ?_
  refine g_i2l C dX0_digest_49 ?_
  refine g_ladd C dX0_digest_50 ?_
  refine g_lstore_n C [(1, _), (0, _)] dX0_digest_51 rfl (by decide) rfl ?_
  refine g_lload_n C dX0_digest_52 rfl rfl ?_
  refine g_ldc2 C dX0_digest_53 mwX0_digest_c162 ?_
  refine g_lmul C dX0_digest_56 ?_
  refine g_aload_n C dX0_digest_57 rfl rfl ?_
  refine g_getX C 9 dX0_digest_58 mwX0_digest_inX (by decide) mwX0_digest_f39 rfl rfl ?_
  refine g_i2l C dX0_digest_61 ?_
  refine g_ladd C dX0_digest_62 ?_
  refine g_lstore_n C [(1, _), (0, _)] dX0_digest_63 rfl (by decide) rfl ?_
  refine g_lload_n C dX0_digest_64 rfl rfl ?_
  refine g_ldc2 C dX0_digest_65 mwX0_digest_c162 ?_
  refine g_lmul C dX0_digest_68 ?_
  refine g_aload_n C dX0_digest_69 rfl rfl ?_
  refine g_callVEi (Cl := RX0) (T := TX0) (N := 18) (ci := 0) (q0 := 0) (na := 0) C dX0_digest_70 (c_count hl (eG E) σ τ o nw nl lm I) gX0_digest_X0_count rfl rfl (by decide +kernel) rfl rfl rfl (Nat.le_of_ble_eq_true rfl) (by rw [R]; exact ⟨by decide, by decide⟩) (by rw [R]; exact ⟨by decide, by decide⟩) ?_
  refine g_i2l C dX0_digest_73 ?_
  refine g_ladd C dX0_digest_74 ?_
  refine g_lstore_n C [(1, _), (0, _)] dX0_digest_75 rfl (by decide) rfl ?_
  refine g_lload_n C dX0_digest_76 rfl rfl ?_
  refine g_ldc2 C dX0_digest_77 mwX0_digest_c162 ?_
  refine g_lmul C dX0_digest_80 ?_
  refine g_aload_n C dX0_digest_81 rfl rfl ?_
  refine g_callVEi (Cl := RX0) (T := TX0) (N := 18) (ci := 0) (q0 := 0) (na := 0) C dX0_digest_82 (c_price hl (eG E) σ τ o nw nl lm I) gX0_digest_X0_price rfl rfl (by decide +kernel) rfl rfl rfl (Nat.le_of_ble_eq_true rfl) (by rw [R]; exact ⟨by decide, by decide⟩) (by rw [R]; exact ⟨by decide, by decide⟩) ?_
  refine g_i2l C dX0_digest_85 ?_
  refine g_ladd C dX0_digest_86 ?_
  refine g_lstore_n C [(1, _), (0, _)] dX0_digest_87 rfl (by decide) rfl ?_
  refine g_lload_n C dX0_digest_88 rfl rfl ?_
  refine g_ldc2 C dX0_digest_89 mwX0_digest_c162 ?_
  refine g_lmul C dX0_digest_92 ?_
  refine g_aload_n C dX0_digest_93 rfl rfl ?_
  refine g_callVi (Cl := RX0) (T := TX0) (N := 18) (ci := 0) (q0 := 0) (na := 0) C dX0_digest_94 (c_cheapestCount hl (eG E) σ τ o nw nl lm I) gX0_digest_X0_cheapestCount rfl rfl (by decide +kernel) rfl rfl rfl (Nat.le_of_ble_eq_true rfl) (by rw [R]; exact ⟨by decide, by decide⟩) (by rw [R]; exact ⟨by decide, by decide⟩) noX_kx (fun r1 σ1 τ1 o1 hN1 => ?_)
  obtain ⟨e0, e1, e2, hN⟩ := hN1
  rw [e0, e1, e2]
  have hX : XS τ τ1 := fun c hc => hN.1 c (by omega) (by omega) (by omega)
  have I1 : IX σ τ1 nw nl lm := IX_cong I hX (fun i => by rw [hN.1 17 (by decide) (by decide) (by decide)]; exact Iv_cj I i)
  refine g_i2l C dX0_digest_97 ?_
  refine g_ladd C dX0_digest_98 ?_
  refine g_lstore_n C [(1, _), (0, _)] dX0_digest_99 rfl (by decide) rfl ?_
  refine g_lload_n C dX0_digest_100 rfl rfl ?_
  refine g_ldc2 C dX0_digest_101 mwX0_digest_c162 ?_
  refine g_lmul C dX0_digest_104 ?_
  refine g_aload_n C dX0_digest_105 rfl rfl ?_
  refine g_getX C 10 dX0_digest_106 mwX0_digest_inX (by decide) mwX0_digest_f42 rfl rfl ?_
  refine g_i2l C dX0_digest_109 ?_
  refine g_ladd C dX0_digest_110 ?_
  refine g_lstore_n C [(1, _), (0, _)] dX0_digest_111 rfl (by decide) rfl ?_
  refine g_lload_n C dX0_digest_112 rfl rfl ?_
  refine g_ldc2 C dX0_digest_113 mwX0_digest_c162 ?_
  refine g_lmul C dX0_digest_116 ?_
  refine g_aload_n C dX0_digest_117 rfl rfl ?_
  refine g_getX C 11 dX0_digest_118 mwX0_digest_inX (by decide) mwX0_digest_f45 rfl rfl ?_
  refine g_i2l C dX0_digest_121 ?_
  refine g_ladd C dX0_digest_122 ?_
  refine g_lstore_n C [(1, _), (0, _)] dX0_digest_123 rfl (by decide) rfl ?_
  refine g_aload_n C dX0_digest_124 rfl rfl ?_
  refine g_aload_n C dX0_digest_125 rfl rfl ?_
  refine g_lload_n C dX0_digest_126 rfl rfl ?_
  refine g_callVEl (Cl := RX0) (T := TX0) (N := 18) (ci := 0) (q0 := 0) (na := 1) C dX0_digest_127 (c_digestOfWords hl (eG E) σ τ1 o nw nl lm _ I1) gX0_digest_X0_digestOfWords rfl rfl (by decide +kernel) rfl rfl rfl (Nat.le_of_ble_eq_true rfl) (by rw [R]; exact ⟨by decide, by decide⟩) (by rw [R]; exact ⟨by decide, by decide⟩) ?_
  refine g_callVl (Cl := RX0) (T := TX0) (N := 18) (ci := 0) (q0 := 0) (na := 1) C dX0_digest_130 (c_digestOfPlaces hl (eG E) σ τ1 o nw nl lm _ I1) gX0_digest_X0_digestOfPlaces rfl rfl (by decide +kernel) rfl rfl rfl (Nat.le_of_ble_eq_true rfl) (by rw [R]; exact ⟨by decide, by decide⟩) (by rw [R]; exact ⟨by decide, by decide⟩) noX_kx (fun r3 σ3 τ3 o3 hN3 => ?_)
  obtain ⟨e3, e4, e5, hC⟩ := hN3
  rw [e3, e4, e5]
  refine g_lret C F dX0_digest_133 (by decide) (by decide) ⟨_, rfl, ?_, rfl, rfl, fun c c2 => ?_, hC.2.2.2.1⟩
  · unfold DGx
    rw [cwx_s hX, prx_s hX, hX 0 (by decide), hX 1 (by decide), hX 7 (by decide), hX 8 (by decide)]
    rfl
  · rw [hC.1 c (by omega), hN.1 c (by omega) (by omega) (by omega)]
