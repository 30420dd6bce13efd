/-! the class's search, behind the best words and pairs -/
theorem uT_ne {τ : gT} {c i a : Nat} {x : Int32} (h : a ≠ c) : uT τ c i x a = τ a := by
  unfold uT
  rw [if_neg h]
theorem uT_eq {τ : gT} {c i : Nat} {x : Int32} : uT τ c i x c = upd (τ c) i x := by
  unfold uT
  rw [if_pos rfl]
theorem upd_eq {f : Nat → Int32} {k : Nat} {x : Int32} : upd f k x k = x := pk_us
theorem upd_ne {f : Nat → Int32} {k j : Nat} {x : Int32} (h : j ≠ k) : upd f k x j = f j := pk_un h
/-- all but the search's own rows -/
def XS (τ τ' : gT) : Prop := ∀ c, (c < 12 ∨ 17 < c) → τ' c = τ c
theorem XS_rf (τ : gT) : XS τ τ := fun _ _ => rfl
theorem XS_tr {τ τ' τ'' : gT} (h : XS τ τ') (h2 : XS τ' τ'') : XS τ τ'' := fun c hc => (h2 c hc).trans (h c hc)
theorem XS_u {τ : gT} {c i : Nat} {x : Int32} (h : 12 ≤ c) (h2 : c ≤ 17) : XS τ (uT τ c i x) := fun a ha => uT_ne (by omega)
theorem IX_cong {σ : gS} {τ τ' : gT} {nw nl lm : Nat} (I : IX σ τ nw nl lm) (h : XS τ τ') (h17 : ∀ i, τ' 17 i = 0 ∨ τ' 17 i = 1) : IX σ τ' nw nl lm := by
  unfold IX at *
  rw [h 0 (by decide), h 1 (by decide), h 7 (by decide), h 8 (by decide)]
  obtain ⟨x1, x2, x3, x4, x5, x6, x7, x8, x9, x10, x11, x12, x13⟩ := I
  exact ⟨x1, x2, x3, x4, x5, x6, x7, x8, x9, h17, x11, x12, x13⟩
/-- what the class notes of a place: alone, joined -/
def LAx (σ : gS) (τ : gT) (nw nl p : Nat) : Int32 := (bw (σ 4) nl (τ 0) (τ 1) (τ 7) p nw).2
def LJx (σ : gS) (τ : gT) (nw nl p : Nat) : Int32 := (bp (σ 4) nw nl (τ 0) (τ 1) (τ 2) (τ 7) p nw).2
theorem LAx_s {σ : gS} {τ τ' : gT} {nw nl p : Nat} (h : XS τ τ') : LAx σ τ' nw nl p = LAx σ τ nw nl p := by
  unfold LAx
  rw [h 0 (by decide), h 1 (by decide), h 7 (by decide)]
theorem LJx_s {σ : gS} {τ τ' : gT} {nw nl p : Nat} (h : XS τ τ') : LJx σ τ' nw nl p = LJx σ τ nw nl p := by
  unfold LJx
  rw [h 0 (by decide), h 1 (by decide), h 2 (by decide), h 7 (by decide)]
def NL (σ : gS) (τ : gT) (nw nl p : Nat) (τ' : gT) : Prop := (∀ c, c ≠ 12 → c ≠ 13 → τ' c = τ c) ∧ ∀ q, q < p → τ' 12 q = LAx σ τ nw nl q ∧ τ' 13 q = LJx σ τ nw nl q
theorem NL_s {σ : gS} {τ τ' : gT} {nw nl p : Nat} (h : NL σ τ nw nl p τ') : XS τ τ' := fun c hc => h.1 c (by omega) (by omega)
theorem NL_next {σ : gS} {τ τ' : gT} {nw nl p : Nat} {x y : Int32} (h : NL σ τ nw nl p τ') (hx : x = LAx σ τ nw nl p) (hy : y = LJx σ τ nw nl p) : NL σ τ nw nl (p + 1) (uT (uT τ' 12 p x) 13 p y) := by
  refine ⟨fun c h1 h2 => by rw [uT_ne h2, uT_ne h1, h.1 c h1 h2], fun q hq => ?_⟩
  rw [uT_ne (show (12 : Nat) ≠ 13 by decide), uT_eq, uT_eq, uT_ne (show (13 : Nat) ≠ 12 by decide)]
  by_cases e : q = p
  · subst e
    rw [upd_eq, upd_eq]
    exact ⟨hx, hy⟩
  · rw [upd_ne e, upd_ne e]
    exact h.2 q (by omega)
/-- a / 100 and a % 100 of a pair's number -/
theorem pr_div {a b : Nat} (ha : a < 12) (hb : b < 12) : nI (a * 100 + b) / 100 = nI a := by
  rw [show (100 : Int32) = nI 100 from rfl, pk_div (by omega) (by omega) (by omega)]
  congr 1
  omega
theorem pr_rem {a b : Nat} (ha : a < 12) (hb : b < 12) : nI (a * 100 + b) - nI (a * 100 + b) / 100 * 100 = nI b := by
  rw [show (100 : Int32) = nI 100 from rfl, pk_rem (by omega) (by omega) (by omega)]
  congr 1
  omega
theorem pr_ne {a b : Nat} (ha : a < 12) (hb : b < 12) : ¬ nI (a * 100 + b) = -1 := by
  intro h
  have := congrArg Int32.toInt h
  rw [nI_toInt (by omega)] at this
  have e : (-1 : Int32).toInt = -1 := by decide
  omega
set_option maxRecDepth 100000 in
theorem mwX0_noteLeastCounts_inX : ∀ w ∈ wsX00, w ∈ wsX0_noteLeastCounts := by decide +kernel
set_option maxRecDepth 100000 in
theorem mwX0_noteLeastCounts_f39 : Cond.fieldLink RX0 39 "TelegraphPrices" "length" "I" ∈ wsX0_noteLeastCounts := by decide +kernel
set_option maxRecDepth 100000 in
theorem mwX0_noteLeastCounts_f48 : Cond.fieldLink RX0 48 "TelegraphPrices" "leastAlone" "[I" ∈ wsX0_noteLeastCounts := by decide +kernel
set_option maxRecDepth 100000 in
theorem mwX0_noteLeastCounts_f9 : Cond.fieldLink RX0 9 "TelegraphPrices" "letters" "[I" ∈ wsX0_noteLeastCounts := by decide +kernel
set_option maxRecDepth 100000 in
theorem mwX0_noteLeastCounts_f51 : Cond.fieldLink RX0 51 "TelegraphPrices" "leastJoined" "[I" ∈ wsX0_noteLeastCounts := by decide +kernel
set_option maxRecDepth 100000 in
theorem mwX0_noteLeastCounts_c151 : Cond.constant RX0 151 (1000000) ∈ wsX0_noteLeastCounts := by decide +kernel
set_option maxHeartbeats 4000000 in
set_option maxRecDepth 100000 in
theorem c_noteLeast {l : Launch} (hl : l.stackTraces = false) (Γ : gG) (σ : gS) (τ : gT) (o : gO) (nw nl lm : Nat) (I : IX σ τ nw nl lm) : Ct l yX0_noteLeastCounts wsX0_noteLeastCounts 4 128 0 0 [.ref (Γ.2.1 100)] Γ σ τ o (pV (fun σ' τ' o' => σ' = σ ∧ o' = o ∧ NL σ τ nw nl nl τ')) (noX) := by
  refine ct_of hl (by decide +kernel) rfl (Nat.le_of_ble_eq_true rfl) ?_
  intro E C F T hΓ hL R
  subst hΓ
  subst hL
  show G E 0 0 0 [(0, .ref ((eG E).2.1 100))] [] σ τ o
  have hnw := Iv_nw I
  have hnl := Iv_nl I
  have h3 : σ 3 = nI nw := Iv_h3 I
  have h9 : σ 9 = nI nl := Iv_h9 I
  have h4 : ¬ σ 4 = 0 := Iv_ne I
  have loop : ∀ m p : Nat, ∀ τ' : gT, p + m = nl → NL σ τ nw nl p τ' → G E 0 0 2 [(1, .int (nI p)), (0, .ref ((eG E).2.1 100))] [] σ τ' o := by
    intro m
    induction m with
    | zero =>
      intro p τ' hp hN
      refine g_iload_n C dX0_noteLeastCounts_2 rfl rfl ?_
      refine g_aload_n C dX0_noteLeastCounts_3 rfl rfl ?_
      refine g_getX C 9 dX0_noteLeastCounts_4 mwX0_noteLeastCounts_inX (by decide) mwX0_noteLeastCounts_f39 rfl rfl ?_
      refine g_icmp_ge (tgt := 70) C dX0_noteLeastCounts_7 (by decide) (fun c_7 => ?_) (fun c_7 => ?_)
      · exact g_vret C F dX0_noteLeastCounts_70 (by decide) (by decide) ⟨rfl, rfl, rfl, by rw [show p = nl by omega] at hN; exact hN⟩
      · exact absurd (by rw [h9]; exact nI_le (by omega) (by omega)) c_7
    | succ m ih =>
      intro p τ' hp hN
      have hpl : p < nl := by omega
      have I1 : IX σ τ' nw nl lm := IX_cong I (NL_s hN) (fun i => by rw [hN.1 17 (by decide) (by decide)]; exact Iv_cj I i)
      obtain ⟨a, ha, e1⟩ := bw_fin I1 hpl
      have eA : cn (σ 4) (τ' 0 a) = LAx σ τ nw nl p := by
        rw [← LAx_s (NL_s hN)]
        unfold LAx
        rw [e1]
      have hX2 : XS τ' (uT τ' 12 p (cn (σ 4) (τ' 0 a))) := XS_u (by decide) (by decide)
      have I2 : IX σ (uT τ' 12 p (cn (σ 4) (τ' 0 a))) nw nl lm := IX_cong I1 hX2 (fun i => Iv_cj I1 i)
      refine g_iload_n C dX0_noteLeastCounts_2 rfl rfl ?_
      refine g_aload_n C dX0_noteLeastCounts_3 rfl rfl ?_
      refine g_getX C 9 dX0_noteLeastCounts_4 mwX0_noteLeastCounts_inX (by decide) mwX0_noteLeastCounts_f39 rfl rfl ?_
      refine g_icmp_ge (tgt := 70) C dX0_noteLeastCounts_7 (by decide) (fun c_7 => ?_) (fun c_7 => ?_)
      · exact absurd (by rw [h9] at c_7; exact c_7) (nI_ge (by omega) (by omega))
      · refine g_aload_n C dX0_noteLeastCounts_10 rfl rfl ?_
        refine g_getX C 12 dX0_noteLeastCounts_11 mwX0_noteLeastCounts_inX (by decide) mwX0_noteLeastCounts_f48 rfl rfl ?_
        refine g_iload_n C dX0_noteLeastCounts_14 rfl rfl ?_
        refine g_aload_n C dX0_noteLeastCounts_15 rfl rfl ?_
        refine g_aload_n C dX0_noteLeastCounts_16 rfl rfl ?_
        refine g_getX C 0 dX0_noteLeastCounts_17 mwX0_noteLeastCounts_inX (by decide) mwX0_noteLeastCounts_f9 rfl rfl ?_
        refine g_aload_n C dX0_noteLeastCounts_20 rfl rfl ?_
        refine g_iload_n C dX0_noteLeastCounts_21 rfl rfl ?_
        refine g_callVEi (Cl := RX0) (T := TX0) (N := 18) (ci := 0) (q0 := 0) (na := 1) C dX0_noteLeastCounts_22 (c_bestWordAt hl (eG E) σ τ' o nw nl lm p I1 hpl) gX0_noteLeastCounts_X0_bestWordAt rfl rfl (by decide +kernel) rfl rfl rfl (Nat.le_of_ble_eq_true rfl) (by rw [R]; exact ⟨by decide, by decide⟩) (by rw [R]; exact ⟨by decide, by decide⟩) ?_
        refine g_topi (show _ = nI a by rw [e1]) ?_
        refine g_ialdN C (a) dX0_noteLeastCounts_25 rfl rfl (show a < 12 by have := ha.1; omega) (by decide) ?_
        refine g_callVEi (Cl := RX0) (T := TX0) (N := 18) (ci := 0) (q0 := 0) (na := 1) C dX0_noteLeastCounts_26 (c_cnt hl (eG E) σ τ' o _ h4) gX0_noteLeastCounts_X0_countOfLetters rfl rfl (by decide +kernel) rfl rfl rfl (Nat.le_of_ble_eq_true rfl) (by rw [R]; exact ⟨by decide, by decide⟩) (by rw [R]; exact ⟨by decide, by decide⟩) ?_
        refine g_iastN C (p) dX0_noteLeastCounts_29 rfl rfl (show p < 16 by omega) (by decide) rfl ?_
        refine g_aload_n C dX0_noteLeastCounts_30 rfl rfl ?_
        refine g_iload_n C dX0_noteLeastCounts_31 rfl rfl ?_
        refine g_callVEi (Cl := RX0) (T := TX0) (N := 18) (ci := 0) (q0 := 0) (na := 1) C dX0_noteLeastCounts_32 (c_bestPairAt hl (eG E) σ (uT τ' 12 p (cn (σ 4) (τ' 0 a))) o nw nl lm p I2 hpl) gX0_noteLeastCounts_X0_bestPairAt rfl rfl (by decide +kernel) rfl rfl rfl (Nat.le_of_ble_eq_true rfl) (by rw [R]; exact ⟨by decide, by decide⟩) (by rw [R]; exact ⟨by decide, by decide⟩) ?_
        rcases bp_fin (p := p) (J := (uT τ' 12 p (cn (σ 4) (τ' 0 a))) 2) I2 with ⟨-, e2⟩ | ⟨a2, b2, ha2, hb2, -, -, -, e2⟩
        · refine g_topi (show _ = (-1 : Int32) by rw [e2]) ?_
          refine g_istore_n C [(2, _), (1, _), (0, _)] dX0_noteLeastCounts_35 rfl (by decide) rfl ?_
          refine g_aload_n C dX0_noteLeastCounts_36 rfl rfl ?_
          refine g_getX C 13 dX0_noteLeastCounts_37 mwX0_noteLeastCounts_inX (by decide) mwX0_noteLeastCounts_f51 rfl rfl ?_
          refine g_iload_n C dX0_noteLeastCounts_40 rfl rfl ?_
          refine g_iload_n C dX0_noteLeastCounts_41 rfl rfl ?_
          refine g_iconst (v := (-1)) C dX0_noteLeastCounts_42 (by decide) ?_
          refine g_icmp_ne (tgt := 51) C dX0_noteLeastCounts_43 (by decide) (fun c_43 => ?_) (fun c_43 => ?_)
          · exact absurd rfl c_43
          · have eJ : (1000000 : Int32) = LJx σ τ nw nl p := by
              rw [← LJx_s (XS_tr (NL_s hN) hX2)]
              unfold LJx
              rw [e2]
            refine g_ldc C dX0_noteLeastCounts_46 mwX0_noteLeastCounts_c151 ?_
            refine g_goto (tgt := 63) C dX0_noteLeastCounts_48 (by decide) ?_
            refine g_iastN C (p) dX0_noteLeastCounts_63 rfl rfl (show p < 16 by omega) (by decide) rfl ?_
            refine g_iinc C 1 [(1, _), (2, _), (0, _)] dX0_noteLeastCounts_64 rfl (nI_i1 p) (by decide) rfl ?_
            refine g_goto (tgt := 2) C dX0_noteLeastCounts_67 (by decide) ?_
            refine g_lv [0, 2] [(1, _), (0, _)] rfl ?_
            exact ih (p + 1) _ (by omega) (NL_next hN eA eJ)
        · refine g_topi (show _ = nI (a2 * 100 + b2) by rw [e2]) ?_
          refine g_istore_n C [(2, _), (1, _), (0, _)] dX0_noteLeastCounts_35 rfl (by decide) rfl ?_
          refine g_aload_n C dX0_noteLeastCounts_36 rfl rfl ?_
          refine g_getX C 13 dX0_noteLeastCounts_37 mwX0_noteLeastCounts_inX (by decide) mwX0_noteLeastCounts_f51 rfl rfl ?_
          refine g_iload_n C dX0_noteLeastCounts_40 rfl rfl ?_
          refine g_iload_n C dX0_noteLeastCounts_41 rfl rfl ?_
          refine g_iconst (v := (-1)) C dX0_noteLeastCounts_42 (by decide) ?_
          refine g_icmp_ne (tgt := 51) C dX0_noteLeastCounts_43 (by decide) (fun c_43 => ?_) (fun c_43 => ?_)
          · have eJ : cn (σ 4) ((uT τ' 12 p (cn (σ 4) (τ' 0 a))) 0 a2 + (uT τ' 12 p (cn (σ 4) (τ' 0 a))) 0 b2) = LJx σ τ nw nl p := by
              rw [← LJx_s (XS_tr (NL_s hN) hX2)]
              unfold LJx
              rw [e2]
            refine g_aload_n C dX0_noteLeastCounts_51 rfl rfl ?_
            refine g_iload_n C dX0_noteLeastCounts_52 rfl rfl ?_
            refine g_bipush (v := 100) C dX0_noteLeastCounts_53 (by decide) ?_
            refine g_idiv C dX0_noteLeastCounts_55 (by decide) ?_
            refine g_topi (pr_div (show a2 < 12 by omega) (show b2 < 12 by omega)) ?_
            refine g_iload_n C dX0_noteLeastCounts_56 rfl rfl ?_
            refine g_bipush (v := 100) C dX0_noteLeastCounts_57 (by decide) ?_
            refine g_irem C dX0_noteLeastCounts_59 (by decide) ?_
            refine g_topi (pr_rem (show a2 < 12 by omega) (show b2 < 12 by omega)) ?_
            refine g_callVEi (Cl := RX0) (T := TX0) (N := 18) (ci := 0) (q0 := 0) (na := 2) C dX0_noteLeastCounts_60 (c_cntPair hl (eG E) σ (uT τ' 12 p (cn (σ 4) (τ' 0 a))) o _ _ h4 (vp_in_nI (show a2 < 12 by omega) (by decide)) (vp_in_nI (show b2 < 12 by omega) (by decide))) gX0_noteLeastCounts_X0_countOfPair rfl rfl (by decide +kernel) rfl rfl rfl (Nat.le_of_ble_eq_true rfl) (by rw [R]; exact ⟨by decide, by decide⟩) (by rw [R]; exact ⟨by decide, by decide⟩) ?_
            rw [nI_clamp (show a2 < 2 ^ 31 by omega), nI_clamp (show b2 < 2 ^ 31 by omega)]
            refine g_iastN C (p) dX0_noteLeastCounts_63 rfl rfl (show p < 16 by omega) (by decide) rfl ?_
            refine g_iinc C 1 [(1, _), (2, _), (0, _)] dX0_noteLeastCounts_64 rfl (nI_i1 p) (by decide) rfl ?_
            refine g_goto (tgt := 2) C dX0_noteLeastCounts_67 (by decide) ?_
            refine g_lv [0, 2] [(1, _), (0, _)] rfl ?_
            exact ih (p + 1) _ (by omega) (NL_next hN eA eJ)
          · exact absurd c_43 (pr_ne (by omega) (by omega))
  refine g_iconst (v := 0) C dX0_noteLeastCounts_0 (by decide) ?_
  refine g_istore_n C [(1, _), (0, _)] dX0_noteLeastCounts_1 rfl (by decide) rfl ?_
  exact loop nl 0 τ (Nat.zero_add _) ⟨fun _ _ _ => rfl, fun q hq => absurd hq (Nat.not_lt_zero q)⟩
/-- what counts the least from a place on: m places from the end, and one less -/
def fw (A J : Nat → Int32) (nl : Nat) : Nat → Int32 × Int32
  | 0 => (0, 0)
  | m + 1 => (if J (nl - (m + 1)) + (fw A J nl m).2 < A (nl - (m + 1)) + (fw A J nl m).1 then J (nl - (m + 1)) + (fw A J nl m).2 else A (nl - (m + 1)) + (fw A J nl m).1, (fw A J nl m).1)
theorem fw_2 (A J : Nat → Int32) (nl m : Nat) : (fw A J nl (m + 1)).2 = (fw A J nl m).1 := rfl
def LI (τ : gT) (k nl r : Nat) (τ' : gT) : Prop := (∀ c, c ≠ 15 → τ' c = τ c) ∧ τ' 15 r = (fw (τ 12) (τ k) nl (nl - r)).1 ∧ τ' 15 (r + 1) = (fw (τ 12) (τ k) nl (nl - r)).2 ∧ ∀ q, r ≤ q → q ≤ nl → τ' 15 q = (fw (τ 12) (τ k) nl (nl - q)).1
theorem nI_pm (r : Nat) : nI (r + 1) - 1 + Int32.ofInt (-1) = nI r - 1 := by
  rw [nI_pred]
  cases r with
  | zero => decide
  | succ r => rw [nI_pred]; exact pk_m1 r
theorem nI_p1 (r : Nat) : nI (r + 1) - 1 + 1 = nI (r + 1) := by rw [nI_pred, nI_1]
theorem nI_p2 (r : Nat) : nI (r + 1) - 1 + 2 = nI (r + 2) := by
  rw [nI_pred, show (2 : Int32) = nI 2 from rfl, nI_add]
theorem LI_next {τ τ' : gT} {k nl r : Nat} (hk : k ≠ 15) (h : LI τ k nl (r + 1) τ') (hr : r + 1 ≤ nl) : LI τ k nl r (uT τ' 15 r (if τ' k r + τ' 15 (r + 2) < τ' 12 r + τ' 15 (r + 1) then τ' k r + τ' 15 (r + 2) else τ' 12 r + τ' 15 (r + 1))) := by
  obtain ⟨h1, h2, h3, h4⟩ := h
  have e : nl - r = (nl - (r + 1)) + 1 := by omega
  have e2 : nl - ((nl - (r + 1)) + 1) = r := by omega
  have key : (fw (τ 12) (τ k) nl (nl - r)).1 = (if τ' k r + τ' 15 (r + 2) < τ' 12 r + τ' 15 (r + 1) then τ' k r + τ' 15 (r + 2) else τ' 12 r + τ' 15 (r + 1)) := by
    rw [h1 k hk, h1 12 (by decide), h2, h3, e]
    show (if τ k (nl - ((nl - (r + 1)) + 1)) + _ < _ then _ else _) = _
    rw [e2]
  refine ⟨fun c hc => by rw [uT_ne hc, h1 c hc], ?_, ?_, fun q hq1 hq2 => ?_⟩
  · rw [uT_eq, upd_eq, key]
  · rw [uT_eq, upd_ne (by omega), h2, e, fw_2]
  · by_cases z : q = r
    · subst z
      rw [uT_eq, upd_eq, key]
    · rw [uT_eq, upd_ne z]
      exact h4 q (by omega) hq2
set_option maxRecDepth 100000 in
theorem mwX0_leastInAll_inX : ∀ w ∈ wsX00, w ∈ wsX0_leastInAll := by decide +kernel
set_option maxRecDepth 100000 in
theorem mwX0_leastInAll_f57 : Cond.fieldLink RX0 57 "TelegraphPrices" "leastFrom" "[I" ∈ wsX0_leastInAll := by decide +kernel
set_option maxRecDepth 100000 in
theorem mwX0_leastInAll_f48 : Cond.fieldLink RX0 48 "TelegraphPrices" "leastAlone" "[I" ∈ wsX0_leastInAll := by decide +kernel
set_option maxRecDepth 100000 in
theorem mwX0_leastInAll_l152 : Cond.methodLink RX0 152 Lib.Math.min.name ∈ wsX0_leastInAll := by decide +kernel
set_option maxRecDepth 100000 in
theorem mwX0_leastInAll_smin : Cond.static Lib.Math.min.name ∈ wsX0_leastInAll := by decide +kernel
set_option maxRecDepth 100000 in
theorem mwX0_leastInAll_iMath : Cond.initialized "java/lang/Math" ∈ wsX0_leastInAll := by decide +kernel
set_option maxRecDepth 100000 in
theorem mwX0_leastInAll_kmin : Cond.code Lib.Math.min.name Lib.Math.min.code 2 (some .int) ∈ wsX0_leastInAll := by decide +kernel
set_option maxRecDepth 100000 in
theorem mwX0_leastInAll_f39 : Cond.fieldLink RX0 39 "TelegraphPrices" "length" "I" ∈ wsX0_leastInAll := by decide +kernel
set_option maxHeartbeats 4000000 in
set_option maxRecDepth 100000 in
theorem c_leastInJ {l : Launch} (hl : l.stackTraces = false) (Γ : gG) (σ : gS) (τ : gT) (o : gO) (nl : Nat) (h9 : σ 9 = nI nl) (hnl : nl ≤ 16) : Ct l yX0_leastInAll wsX0_leastInAll 1 32 0 0 [.ref (Γ.2.1 100), .ref (Γ.2.1 13)] Γ σ τ o (pI (fun r σ' τ' o' => r = (fw (τ 12) (τ 13) nl (nl - 0)).1 ∧ σ' = σ ∧ o' = o ∧ (∀ c, c ≠ 15 → τ' c = τ c) ∧ ∀ q, q ≤ nl → τ' 15 q = (fw (τ 12) (τ 13) nl (nl - q)).1)) (noX) := by
  refine ct_of hl (by decide +kernel) rfl (Nat.le_of_ble_eq_true rfl) ?_
  intro E C F T hΓ hL R
  subst hΓ
  subst hL
  show G E 0 0 0 [(0, .ref ((eG E).2.1 100)), (1, .ref ((eG E).2.1 13))] [] σ τ o
  have loop : ∀ r : Nat, ∀ τ' : gT, r ≤ nl → LI τ 13 nl r τ' → G E 0 0 29 [(2, .int (nI r - 1)), (0, .ref ((eG E).2.1 100)), (1, .ref ((eG E).2.1 13))] [] σ τ' o := by
    intro r
    induction r with
    | zero =>
      intro τ' hr hN
      refine g_iload_n C dX0_leastInAll_29 rfl rfl ?_
      refine g_if_lt (tgt := 77) C dX0_leastInAll_30 (by decide) (fun c_30 => ?_) (fun c_30 => ?_)
      · refine g_aload_n C dX0_leastInAll_77 rfl rfl ?_
        refine g_getX C 15 dX0_leastInAll_78 mwX0_leastInAll_inX (by decide) mwX0_leastInAll_f57 rfl rfl ?_
        refine g_iconst (v := 0) C dX0_leastInAll_81 (by decide) ?_
        refine g_ialdN C (0) dX0_leastInAll_82 rfl rfl (show 0 < 18 by decide) (by decide) ?_
        exact g_iret C F dX0_leastInAll_83 (by decide) (by decide) ⟨_, rfl, hN.2.1, rfl, rfl, hN.1, fun q hq => hN.2.2.2 q (Nat.zero_le _) hq⟩
      · exact absurd (by decide) c_30
    | succ r ih =>
      intro τ' hr hN
      refine g_iload_n C dX0_leastInAll_29 rfl rfl ?_
      refine g_if_lt (tgt := 77) C dX0_leastInAll_30 (by decide) (fun c_30 => ?_) (fun c_30 => ?_)
      · exact absurd (by rw [nI_pred] at c_30; exact c_30) (nI_pos (by omega))
      · refine g_aload_n C dX0_leastInAll_33 rfl rfl ?_
        refine g_getX C 12 dX0_leastInAll_34 mwX0_leastInAll_inX (by decide) mwX0_leastInAll_f48 rfl rfl ?_
        refine g_iload_n C dX0_leastInAll_37 rfl rfl ?_
        refine g_ialdN C (r) dX0_leastInAll_38 rfl (nI_pred r) (show r < 16 by omega) (by decide) ?_
        refine g_aload_n C dX0_leastInAll_39 rfl rfl ?_
        refine g_getX C 15 dX0_leastInAll_40 mwX0_leastInAll_inX (by decide) mwX0_leastInAll_f57 rfl rfl ?_
        refine g_iload_n C dX0_leastInAll_43 rfl rfl ?_
        refine g_iconst (v := 1) C dX0_leastInAll_44 (by decide) ?_
        refine g_iadd C dX0_leastInAll_45 ?_
        refine g_ialdN C (r + 1) dX0_leastInAll_46 rfl (nI_p1 r) (show r + 1 < 18 by omega) (by decide) ?_
        refine g_iadd C dX0_leastInAll_47 ?_
        refine g_istore_n C [(3, _), (2, _), (0, _), (1, _)] dX0_leastInAll_48 rfl (by decide) rfl ?_
        refine g_aload_n C dX0_leastInAll_49 rfl rfl ?_
        refine g_getX C 15 dX0_leastInAll_50 mwX0_leastInAll_inX (by decide) mwX0_leastInAll_f57 rfl rfl ?_
        refine g_iload_n C dX0_leastInAll_53 rfl rfl ?_
        refine g_iload_n C dX0_leastInAll_54 rfl rfl ?_
        refine g_aload_n C dX0_leastInAll_55 rfl rfl ?_
        refine g_iload_n C dX0_leastInAll_56 rfl rfl ?_
        refine g_ialdN C (r) dX0_leastInAll_57 rfl (nI_pred r) (show r < 16 by omega) (by decide) ?_
        refine g_aload_n C dX0_leastInAll_58 rfl rfl ?_
        refine g_getX C 15 dX0_leastInAll_59 mwX0_leastInAll_inX (by decide) mwX0_leastInAll_f57 rfl rfl ?_
        refine g_iload_n C dX0_leastInAll_62 rfl rfl ?_
        refine g_iconst (v := 2) C dX0_leastInAll_63 (by decide) ?_
        refine g_iadd C dX0_leastInAll_64 ?_
        refine g_ialdN C (r + 2) dX0_leastInAll_65 rfl (nI_p2 r) (show r + 2 < 18 by omega) (by decide) ?_
        refine g_iadd C dX0_leastInAll_66 ?_
        refine g_mmin C dX0_leastInAll_67 mwX0_leastInAll_l152 mwX0_leastInAll_smin mwX0_leastInAll_iMath mwX0_leastInAll_kmin (by rw [R]; exact ⟨by decide, Nat.le_of_ble_eq_true rfl, by decide, by decide⟩) ?_
        refine g_iastN C (r) dX0_leastInAll_70 rfl (nI_pred r) (show r < 18 by omega) (by decide) rfl ?_
        refine g_iinc C 1 [(2, _), (3, _), (0, _), (1, _)] dX0_leastInAll_71 rfl (nI_pm r) (by decide) rfl ?_
        refine g_goto (tgt := 29) C dX0_leastInAll_74 (by decide) ?_
        refine g_lv [0, 2, 3] [(2, _), (0, _), (1, _)] rfl ?_
        exact ih _ (by omega) (LI_next (by decide) hN hr)
  refine g_aload_n C dX0_leastInAll_0 rfl rfl ?_
  refine g_getX C 15 dX0_leastInAll_1 mwX0_leastInAll_inX (by decide) mwX0_leastInAll_f57 rfl rfl ?_
  refine g_aload_n C dX0_leastInAll_4 rfl rfl ?_
  refine g_getX C 9 dX0_leastInAll_5 mwX0_leastInAll_inX (by decide) mwX0_leastInAll_f39 rfl rfl ?_
  refine g_iconst (v := 0) C dX0_leastInAll_8 (by decide) ?_
  refine g_iastN C (nl) dX0_leastInAll_9 rfl h9 (show nl < 18 by omega) (by decide) rfl ?_
  refine g_aload_n C dX0_leastInAll_10 rfl rfl ?_
  refine g_getX C 15 dX0_leastInAll_11 mwX0_leastInAll_inX (by decide) mwX0_leastInAll_f57 rfl rfl ?_
  refine g_aload_n C dX0_leastInAll_14 rfl rfl ?_
  refine g_getX C 9 dX0_leastInAll_15 mwX0_leastInAll_inX (by decide) mwX0_leastInAll_f39 rfl rfl ?_
  refine g_iconst (v := 1) C dX0_leastInAll_18 (by decide) ?_
  refine g_iadd C dX0_leastInAll_19 ?_
  refine g_iconst (v := 0) C dX0_leastInAll_20 (by decide) ?_
  refine g_iastN C (nl + 1) dX0_leastInAll_21 rfl (by rw [h9]; exact nI_1 nl) (show nl + 1 < 18 by omega) (by decide) rfl ?_
  refine g_aload_n C dX0_leastInAll_22 rfl rfl ?_
  refine g_getX C 9 dX0_leastInAll_23 mwX0_leastInAll_inX (by decide) mwX0_leastInAll_f39 rfl rfl ?_
  refine g_iconst (v := 1) C dX0_leastInAll_26 (by decide) ?_
  refine g_isub C dX0_leastInAll_27 ?_
  refine g_topi (show _ = nI nl - 1 by rw [h9]) ?_
  refine g_istore_n C [(2, _), (0, _), (1, _)] dX0_leastInAll_28 rfl (by decide) rfl ?_
  refine loop nl _ (Nat.le_refl _) ⟨fun c hc => by rw [uT_ne hc, uT_ne hc], ?_, ?_, fun q hq1 hq2 => ?_⟩
  · rw [Nat.sub_self, uT_eq, uT_eq, upd_ne (by omega), upd_eq]
    rfl
  · rw [Nat.sub_self, uT_eq, upd_eq]
    rfl
  · rw [show q = nl by omega, Nat.sub_self, uT_eq, uT_eq, upd_ne (by omega), upd_eq]
    rfl
set_option maxHeartbeats 4000000 in
set_option maxRecDepth 100000 in
theorem c_leastInT {l : Launch} (hl : l.stackTraces = false) (Γ : gG) (σ : gS) (τ : gT) (o : gO) (nl : Nat) (h9 : σ 9 = nI nl) (hnl : nl ≤ 16) : Ct l yX0_leastInAll wsX0_leastInAll 1 32 0 0 [.ref (Γ.2.1 100), .ref (Γ.2.1 14)] Γ σ τ o (pI (fun r σ' τ' o' => r = (fw (τ 12) (τ 14) nl (nl - 0)).1 ∧ σ' = σ ∧ o' = o ∧ (∀ c, c ≠ 15 → τ' c = τ c) ∧ ∀ q, q ≤ nl → τ' 15 q = (fw (τ 12) (τ 14) nl (nl - q)).1)) (noX) := by
  refine ct_of hl (by decide +kernel) rfl (Nat.le_of_ble_eq_true rfl) ?_
  intro E C F T hΓ hL R
  subst hΓ
  subst hL
  show G E 0 0 0 [(0, .ref ((eG E).2.1 100)), (1, .ref ((eG E).2.1 14))] [] σ τ o
  have loop : ∀ r : Nat, ∀ τ' : gT, r ≤ nl → LI τ 14 nl r τ' → G E 0 0 29 [(2, .int (nI r - 1)), (0, .ref ((eG E).2.1 100)), (1, .ref ((eG E).2.1 14))] [] σ τ' o := by
    intro r
    induction r with
    | zero =>
      intro τ' hr hN
      refine g_iload_n C dX0_leastInAll_29 rfl rfl ?_
      refine g_if_lt (tgt := 77) C dX0_leastInAll_30 (by decide) (fun c_30 => ?_) (fun c_30 => ?_)
      · refine g_aload_n C dX0_leastInAll_77 rfl rfl ?_
        refine g_getX C 15 dX0_leastInAll_78 mwX0_leastInAll_inX (by decide) mwX0_leastInAll_f57 rfl rfl ?_
        refine g_iconst (v := 0) C dX0_leastInAll_81 (by decide) ?_
        refine g_ialdN C (0) dX0_leastInAll_82 rfl rfl (show 0 < 18 by decide) (by decide) ?_
        exact g_iret C F dX0_leastInAll_83 (by decide) (by decide) ⟨_, rfl, hN.2.1, rfl, rfl, hN.1, fun q hq => hN.2.2.2 q (Nat.zero_le _) hq⟩
      · exact absurd (by decide) c_30
    | succ r ih =>
      intro τ' hr hN
      refine g_iload_n C dX0_leastInAll_29 rfl rfl ?_
      refine g_if_lt (tgt := 77) C dX0_leastInAll_30 (by decide) (fun c_30 => ?_) (fun c_30 => ?_)
      · exact absurd (by rw [nI_pred] at c_30; exact c_30) (nI_pos (by omega))
      · refine g_aload_n C dX0_leastInAll_33 rfl rfl ?_
        refine g_getX C 12 dX0_leastInAll_34 mwX0_leastInAll_inX (by decide) mwX0_leastInAll_f48 rfl rfl ?_
        refine g_iload_n C dX0_leastInAll_37 rfl rfl ?_
        refine g_ialdN C (r) dX0_leastInAll_38 rfl (nI_pred r) (show r < 16 by omega) (by decide) ?_
        refine g_aload_n C dX0_leastInAll_39 rfl rfl ?_
        refine g_getX C 15 dX0_leastInAll_40 mwX0_leastInAll_inX (by decide) mwX0_leastInAll_f57 rfl rfl ?_
        refine g_iload_n C dX0_leastInAll_43 rfl rfl ?_
        refine g_iconst (v := 1) C dX0_leastInAll_44 (by decide) ?_
        refine g_iadd C dX0_leastInAll_45 ?_
        refine g_ialdN C (r + 1) dX0_leastInAll_46 rfl (nI_p1 r) (show r + 1 < 18 by omega) (by decide) ?_
        refine g_iadd C dX0_leastInAll_47 ?_
        refine g_istore_n C [(3, _), (2, _), (0, _), (1, _)] dX0_leastInAll_48 rfl (by decide) rfl ?_
        refine g_aload_n C dX0_leastInAll_49 rfl rfl ?_
        refine g_getX C 15 dX0_leastInAll_50 mwX0_leastInAll_inX (by decide) mwX0_leastInAll_f57 rfl rfl ?_
        refine g_iload_n C dX0_leastInAll_53 rfl rfl ?_
        refine g_iload_n C dX0_leastInAll_54 rfl rfl ?_
        refine g_aload_n C dX0_leastInAll_55 rfl rfl ?_
        refine g_iload_n C dX0_leastInAll_56 rfl rfl ?_
        refine g_ialdN C (r) dX0_leastInAll_57 rfl (nI_pred r) (show r < 16 by omega) (by decide) ?_
        refine g_aload_n C dX0_leastInAll_58 rfl rfl ?_
        refine g_getX C 15 dX0_leastInAll_59 mwX0_leastInAll_inX (by decide) mwX0_leastInAll_f57 rfl rfl ?_
        refine g_iload_n C dX0_leastInAll_62 rfl rfl ?_
        refine g_iconst (v := 2) C dX0_leastInAll_63 (by decide) ?_
        refine g_iadd C dX0_leastInAll_64 ?_
        refine g_ialdN C (r + 2) dX0_leastInAll_65 rfl (nI_p2 r) (show r + 2 < 18 by omega) (by decide) ?_
        refine g_iadd C dX0_leastInAll_66 ?_
        refine g_mmin C dX0_leastInAll_67 mwX0_leastInAll_l152 mwX0_leastInAll_smin mwX0_leastInAll_iMath mwX0_leastInAll_kmin (by rw [R]; exact ⟨by decide, Nat.le_of_ble_eq_true rfl, by decide, by decide⟩) ?_
        refine g_iastN C (r) dX0_leastInAll_70 rfl (nI_pred r) (show r < 18 by omega) (by decide) rfl ?_
        refine g_iinc C 1 [(2, _), (3, _), (0, _), (1, _)] dX0_leastInAll_71 rfl (nI_pm r) (by decide) rfl ?_
        refine g_goto (tgt := 29) C dX0_leastInAll_74 (by decide) ?_
        refine g_lv [0, 2, 3] [(2, _), (0, _), (1, _)] rfl ?_
        exact ih _ (by omega) (LI_next (by decide) hN hr)
  refine g_aload_n C dX0_leastInAll_0 rfl rfl ?_
  refine g_getX C 15 dX0_leastInAll_1 mwX0_leastInAll_inX (by decide) mwX0_leastInAll_f57 rfl rfl ?_
  refine g_aload_n C dX0_leastInAll_4 rfl rfl ?_
  refine g_getX C 9 dX0_leastInAll_5 mwX0_leastInAll_inX (by decide) mwX0_leastInAll_f39 rfl rfl ?_
  refine g_iconst (v := 0) C dX0_leastInAll_8 (by decide) ?_
  refine g_iastN C (nl) dX0_leastInAll_9 rfl h9 (show nl < 18 by omega) (by decide) rfl ?_
  refine g_aload_n C dX0_leastInAll_10 rfl rfl ?_
  refine g_getX C 15 dX0_leastInAll_11 mwX0_leastInAll_inX (by decide) mwX0_leastInAll_f57 rfl rfl ?_
  refine g_aload_n C dX0_leastInAll_14 rfl rfl ?_
  refine g_getX C 9 dX0_leastInAll_15 mwX0_leastInAll_inX (by decide) mwX0_leastInAll_f39 rfl rfl ?_
  refine g_iconst (v := 1) C dX0_leastInAll_18 (by decide) ?_
  refine g_iadd C dX0_leastInAll_19 ?_
  refine g_iconst (v := 0) C dX0_leastInAll_20 (by decide) ?_
  refine g_iastN C (nl + 1) dX0_leastInAll_21 rfl (by rw [h9]; exact nI_1 nl) (show nl + 1 < 18 by omega) (by decide) rfl ?_
  refine g_aload_n C dX0_leastInAll_22 rfl rfl ?_
  refine g_getX C 9 dX0_leastInAll_23 mwX0_leastInAll_inX (by decide) mwX0_leastInAll_f39 rfl rfl ?_
  refine g_iconst (v := 1) C dX0_leastInAll_26 (by decide) ?_
  refine g_isub C dX0_leastInAll_27 ?_
  refine g_topi (show _ = nI nl - 1 by rw [h9]) ?_
  refine g_istore_n C [(2, _), (0, _), (1, _)] dX0_leastInAll_28 rfl (by decide) rfl ?_
  refine loop nl _ (Nat.le_refl _) ⟨fun c hc => by rw [uT_ne hc, uT_ne hc], ?_, ?_, fun q hq1 hq2 => ?_⟩
  · rw [Nat.sub_self, uT_eq, uT_eq, upd_ne (by omega), upd_eq]
    rfl
  · rw [Nat.sub_self, uT_eq, upd_eq]
    rfl
  · rw [show q = nl by omega, Nat.sub_self, uT_eq, uT_eq, upd_ne (by omega), upd_eq]
    rfl
set_option maxRecDepth 100000 in
theorem mwX0_noteCheapestAt_inX : ∀ w ∈ wsX00, w ∈ wsX0_noteCheapestAt := by decide +kernel
set_option maxRecDepth 100000 in
theorem mwX0_noteCheapestAt_f60 : Cond.fieldLink RX0 60 "TelegraphPrices" "cheapestWords" "[I" ∈ wsX0_noteCheapestAt := by decide +kernel
set_option maxRecDepth 100000 in
theorem mwX0_noteCheapestAt_f63 : Cond.fieldLink RX0 63 "TelegraphPrices" "cheapestJoined" "[Z" ∈ wsX0_noteCheapestAt := by decide +kernel
set_option maxHeartbeats 4000000 in
set_option maxRecDepth 100000 in
theorem c_noteAt {l : Launch} (hl : l.stackTraces = false) (Γ : gG) (σ : gS) (τ : gT) (o : gO) (p : Nat) (w x : Int32) (hp : p < 16) (hx : x = 0 ∨ x = 1) : Ct l yX0_noteCheapestAt wsX0_noteCheapestAt 1 32 0 0 [.ref (Γ.2.1 100), .int (nI p), .int w, .int x] Γ σ τ o (pE none σ (uT (uT τ 16 p w) 17 p x) o) (noX) := by
  refine ct_of hl (by decide +kernel) rfl (Nat.le_of_ble_eq_true rfl) ?_
  intro E C F T hΓ hL R
  subst hΓ
  subst hL
  show G E 0 0 0 [(0, .ref ((eG E).2.1 100)), (1, .int (nI p)), (2, .int w), (3, .int x)] [] σ τ o
  refine g_aload_n C dX0_noteCheapestAt_0 rfl rfl ?_
  refine g_getX C 16 dX0_noteCheapestAt_1 mwX0_noteCheapestAt_inX (by decide) mwX0_noteCheapestAt_f60 rfl rfl ?_
  refine g_iload_n C dX0_noteCheapestAt_4 rfl rfl ?_
  refine g_iload_n C dX0_noteCheapestAt_5 rfl rfl ?_
  refine g_iastN C (p) dX0_noteCheapestAt_6 rfl rfl hp (by decide) rfl ?_
  refine g_aload_n C dX0_noteCheapestAt_7 rfl rfl ?_
  refine g_getX C 17 dX0_noteCheapestAt_8 mwX0_noteCheapestAt_inX (by decide) mwX0_noteCheapestAt_f63 rfl rfl ?_
  refine g_iload_n C dX0_noteCheapestAt_11 rfl rfl ?_
  refine g_iload_n C dX0_noteCheapestAt_12 rfl rfl ?_
  refine g_zastN C (p) dX0_noteCheapestAt_13 rfl rfl hp (by decide) hx rfl ?_
  exact g_vret C F dX0_noteCheapestAt_14 (by decide) (by decide) ⟨rfl, rfl, rfl, rfl⟩
