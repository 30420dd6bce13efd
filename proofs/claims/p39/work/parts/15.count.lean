/-! bestJoin, count and what stands on it -/
/-- the pair whose join would count the least: first word a, behind b second words; J says which may be joined already, c what it would count -/
def bj2 (J : Nat → Int32) (c : Nat → Nat → Int32) (a : Nat) (s : Int32 × Int32) : Nat → Int32 × Int32
  | 0 => s
  | b + 1 => if hb (J a) (nI b) = 0 ∧ c a b < (bj2 J c a s b).2 then (nI a * 100 + nI b, c a b) else bj2 J c a s b
theorem bj2_no {J : Nat → Int32} {c : Nat → Nat → Int32} {a b : Nat} {s : Int32 × Int32} (h : ¬ (hb (J a) (nI b) = 0 ∧ c a b < (bj2 J c a s b).2)) : bj2 J c a s (b + 1) = bj2 J c a s b := by
  show (if _ then _ else _) = _
  rw [if_neg h]
theorem bj2_yes {J : Nat → Int32} {c : Nat → Nat → Int32} {a b : Nat} {s : Int32 × Int32} (h : hb (J a) (nI b) = 0 ∧ c a b < (bj2 J c a s b).2) : bj2 J c a s (b + 1) = (nI a * 100 + nI b, c a b) := by
  show (if _ then _ else _) = _
  rw [if_pos h]
def bj (nw : Nat) (J : Nat → Int32) (c : Nat → Nat → Int32) (s0 : Int32 × Int32) : Nat → Int32 × Int32
  | 0 => s0
  | a + 1 => bj2 J c a (bj nw J c s0 a) nw
theorem bj2_cong {J J' : Nat → Int32} {c c' : Nat → Nat → Int32} {a nw : Nat} {s : Int32 × Int32} (hJ : J a = J' a) (hc : ∀ b, b < nw → hb (J a) (nI b) = 0 → c a b = c' a b) : ∀ b, b ≤ nw → bj2 J c a s b = bj2 J' c' a s b := by
  intro b
  induction b with
  | zero => exact fun _ => rfl
  | succ b ih =>
    intro hb9
    have e := ih (by omega)
    by_cases h : hb (J a) (nI b) = 0 ∧ c a b < (bj2 J c a s b).2
    · rw [bj2_yes h, bj2_yes (by rw [← e, ← hJ, ← hc b (by omega) h.1]; exact h), hc b (by omega) h.1]
    · rw [bj2_no h, bj2_no (fun z => h (by
        rw [← e, ← hJ] at z
        exact ⟨z.1, by rw [hc b (by omega) z.1]; exact z.2⟩)), e]
theorem bj_cong {J J' : Nat → Int32} {c c' : Nat → Nat → Int32} {nw : Nat} {s : Int32 × Int32} (hJ : ∀ a, a < nw → J a = J' a) (hc : ∀ a b, a < nw → b < nw → hb (J a) (nI b) = 0 → c a b = c' a b) : ∀ a, a ≤ nw → bj nw J c s a = bj nw J' c' s a := by
  intro a
  induction a with
  | zero => exact fun _ => rfl
  | succ a ih =>
    intro ha
    show bj2 J c a (bj nw J c s a) nw = bj2 J' c' a (bj nw J' c' s a) nw
    rw [ih (by omega)]
    exact bj2_cong (hJ a (by omega)) (fun b hb9 => hc a b (by omega) hb9) nw (Nat.le_refl _)
/-- what would count so much with the join -/
noncomputable def CJ (σ : gS) (τ : gT) (nw nl a b : Nat) : Int32 := al nl (σ 5) (FT σ τ nw nl a b)
def CC0 (σ : gS) (τ : gT) (nw nl : Nat) : Int32 := al nl (σ 5) (FX σ τ nw nl nl)
def H0 (σ : gS) (τ : gT) (nw nl : Nat) (τ0 : gT) : Prop := (∀ c, c ≠ 12 → c ≠ 13 → c ≠ 14 → c ≠ 15 → τ0 c = τ c) ∧ ∀ q, q < nl → τ0 12 q = LAx σ τ nw nl q ∧ τ0 13 q = LJx σ τ nw nl q
/-- the telegram's count from place p on, s before it -/
def ct (lm : Int32) (nl : Nat) (L Tg Jd : Nat → Int32) : Nat → Nat → Int32 → Int32
  | 0, _, s => s
  | f + 1, p, s => if p < nl then (if Jd p ≠ 0 then ct lm nl L Tg Jd f (p + 2) (s + cn lm (L (Tg p).toNatClampNeg + L (Tg (p + 1)).toNatClampNeg)) else ct lm nl L Tg Jd f (p + 1) (s + cn lm (L (Tg p).toNatClampNeg))) else s
theorem ct_e {lm : Int32} {nl f : Nat} {L Tg Jd : Nat → Int32} {s : Int32} : ct lm nl L Tg Jd f nl s = s := by
  cases f with
  | zero => rfl
  | succ f =>
    show (if _ then _ else _) = _
    rw [if_neg (Nat.lt_irrefl _)]
theorem ct_2 {lm : Int32} {nl f p : Nat} {L Tg Jd : Nat → Int32} {s : Int32} (h : p < nl) (h2 : Jd p ≠ 0) : ct lm nl L Tg Jd (f + 1) p s = ct lm nl L Tg Jd f (p + 2) (s + cn lm (L (Tg p).toNatClampNeg + L (Tg (p + 1)).toNatClampNeg)) := by
  show (if _ then _ else _) = _
  rw [if_pos h, if_pos h2]
theorem ct_1 {lm : Int32} {nl f p : Nat} {L Tg Jd : Nat → Int32} {s : Int32} (h : p < nl) (h2 : Jd p = 0) : ct lm nl L Tg Jd (f + 1) p s = ct lm nl L Tg Jd f (p + 1) (s + cn lm (L (Tg p).toNatClampNeg)) := by
  show (if _ then _ else _) = _
  rw [if_pos h, if_neg (fun z => z h2)]
def CTx (σ : gS) (τ : gT) (nl : Nat) : Int32 := al nl (σ 5) (ct (σ 4) nl (τ 0) (τ 7) (τ 8) nl 0 0)
/-- a joined place isn't the last one -/
theorem Iv_jl {nw nl lm : Nat} {a3 a9 a4 : Int32} {L S Tg Jd Cj : Nat → Int32} (I : Iv nw nl lm a3 a9 a4 L S Tg Jd Cj) {p : Nat} (hp : p < nl) (h : Jd p ≠ 0) : p + 1 < nl := by
  rcases Nat.lt_or_ge (p + 1) nl with q | q
  · exact q
  · exact absurd (by rw [show p = nl - 1 by omega]; exact Iv_last I (by omega)) h
set_option maxRecDepth 100000 in
theorem mwX0_count_inX : ∀ w ∈ wsX00, w ∈ wsX0_count := by decide +kernel
set_option maxRecDepth 100000 in
theorem mwX0_count_f39 : Cond.fieldLink RX0 39 "TelegraphPrices" "length" "I" ∈ wsX0_count := by decide +kernel
set_option maxRecDepth 100000 in
theorem mwX0_count_f35 : Cond.fieldLink RX0 35 "TelegraphPrices" "joined" "[Z" ∈ wsX0_count := by decide +kernel
set_option maxRecDepth 100000 in
theorem mwX0_count_f9 : Cond.fieldLink RX0 9 "TelegraphPrices" "letters" "[I" ∈ wsX0_count := by decide +kernel
set_option maxRecDepth 100000 in
theorem mwX0_count_f32 : Cond.fieldLink RX0 32 "TelegraphPrices" "telegram" "[I" ∈ wsX0_count := by decide +kernel
set_option maxHeartbeats 4000000 in
set_option maxRecDepth 100000 in
theorem c_count {l : Launch} (hl : l.stackTraces = false) (Γ : gG) (σ : gS) (τ : gT) (o : gO) (nw nl lm : Nat) (I : IX σ τ nw nl lm) : Ct l yX0_count wsX0_count 3 96 0 0 [.ref (Γ.2.1 100)] Γ σ τ o (pE (some (.int (CTx σ τ nl))) σ τ o) (noX) := by
  refine ct_of hl (by decide +kernel) rfl (Nat.le_of_ble_eq_true rfl) ?_
  intro E C F T hΓ hL R
  subst hΓ
  subst hL
  show G E 0 0 0 [(0, .ref ((eG E).2.1 100))] [] σ τ o
  have hnw := Iv_nw I
  have hnl := Iv_nl I
  have h3 : σ 3 = nI nw := Iv_h3 I
  have h9 : σ 9 = nI nl := Iv_h9 I
  have h4 : ¬ σ 4 = 0 := Iv_ne I
  have fin : ∀ f : Nat, ∀ s : Int32, ct (σ 4) nl (τ 0) (τ 7) (τ 8) nl 0 0 = ct (σ 4) nl (τ 0) (τ 7) (τ 8) f nl s → G E 0 0 4 [(2, .int (nI nl)), (1, .int s), (0, .ref ((eG E).2.1 100))] [] σ τ o := by
    intro f s e
    rw [ct_e] at e
    refine g_iload_n C dX0_count_4 rfl rfl ?_
    refine g_aload_n C dX0_count_5 rfl rfl ?_
    refine g_getX C 9 dX0_count_6 mwX0_count_inX (by decide) mwX0_count_f39 rfl rfl ?_
    refine g_icmp_ge (tgt := 82) C dX0_count_9 (by decide) (fun c_9 => ?_) (fun c_9 => ?_)
    · refine g_aload_n C dX0_count_82 rfl rfl ?_
      refine g_iload_n C dX0_count_83 rfl rfl ?_
      refine g_callVEi (Cl := RX0) (T := TX0) (N := 18) (ci := 0) (q0 := 0) (na := 1) C dX0_count_84 (c_alc hl (eG E) σ τ o nl _ h9 hnl) gX0_count_X0_atLeastTheLeastCount rfl rfl (by decide +kernel) rfl rfl rfl (Nat.le_of_ble_eq_true rfl) (by rw [R]; exact ⟨by decide, by decide⟩) (by rw [R]; exact ⟨by decide, by decide⟩) ?_
      exact g_iret C F dX0_count_87 (by decide) (by decide) ⟨by rw [← e]; rfl, rfl, rfl, rfl⟩
    · exact absurd (by rw [h9]; exact i_rf _) c_9
  have loop : ∀ f p : Nat, ∀ s : Int32, p ≤ nl → nl - p ≤ f → ct (σ 4) nl (τ 0) (τ 7) (τ 8) nl 0 0 = ct (σ 4) nl (τ 0) (τ 7) (τ 8) f p s → G E 0 0 4 [(2, .int (nI p)), (1, .int s), (0, .ref ((eG E).2.1 100))] [] σ τ o := by
    intro f
    induction f with
    | zero =>
      intro p s hp hf e
      have e1 : p = nl := by omega
      subst e1
      exact fin 0 s e
    | succ f ih =>
      intro p s hp hf e
      rcases Nat.lt_or_ge p nl with hpl | hpl
      rotate_left
      · have e1 : p = nl := by omega
        subst e1
        exact fin (f + 1) s e
      refine g_iload_n C dX0_count_4 rfl rfl ?_
      refine g_aload_n C dX0_count_5 rfl rfl ?_
      refine g_getX C 9 dX0_count_6 mwX0_count_inX (by decide) mwX0_count_f39 rfl rfl ?_
      refine g_icmp_ge (tgt := 82) C dX0_count_9 (by decide) (fun c_9 => ?_) (fun c_9 => ?_)
      · exact absurd (by rw [h9] at c_9; exact c_9) (nI_ge (by omega) (by omega))
      · refine g_aload_n C dX0_count_12 rfl rfl ?_
        refine g_getX C 8 dX0_count_13 mwX0_count_inX (by decide) mwX0_count_f35 rfl rfl ?_
        refine g_iload_n C dX0_count_16 rfl rfl ?_
        refine g_zaldN C (p) dX0_count_17 rfl rfl (show p < 16 by omega) (by decide) ?_
        refine g_if_eq (tgt := 58) C dX0_count_18 (by decide) (fun c_18 => ?_) (fun c_18 => ?_)
        · refine g_iload_n C dX0_count_58 rfl rfl ?_
          refine g_aload_n C dX0_count_59 rfl rfl ?_
          refine g_aload_n C dX0_count_60 rfl rfl ?_
          refine g_getX C 0 dX0_count_61 mwX0_count_inX (by decide) mwX0_count_f9 rfl rfl ?_
          refine g_aload_n C dX0_count_64 rfl rfl ?_
          refine g_getX C 7 dX0_count_65 mwX0_count_inX (by decide) mwX0_count_f32 rfl rfl ?_
          refine g_iload_n C dX0_count_68 rfl rfl ?_
          refine g_ialdN C (p) dX0_count_69 rfl rfl (show p < 16 by omega) (by decide) ?_
          refine g_iald C dX0_count_70 rfl (Iv_tin I hpl) ?_
          refine g_callVEi (Cl := RX0) (T := TX0) (N := 18) (ci := 0) (q0 := 0) (na := 1) C dX0_count_71 (c_cnt hl (eG E) σ τ o _ h4) gX0_count_X0_countOfLetters rfl rfl (by decide +kernel) rfl rfl rfl (Nat.le_of_ble_eq_true rfl) (by rw [R]; exact ⟨by decide, by decide⟩) (by rw [R]; exact ⟨by decide, by decide⟩) ?_
          refine g_iadd C dX0_count_74 ?_
          refine g_istore_n C [(1, _), (2, _), (0, _)] dX0_count_75 rfl (by decide) rfl ?_
          refine g_iinc C 1 [(2, _), (1, _), (0, _)] dX0_count_76 rfl (nI_i1 p) (by decide) rfl ?_
          refine g_goto (tgt := 4) C dX0_count_79 (by decide) ?_
          exact ih (p + 1) _ (by omega) (by omega) (by rw [← ct_1 hpl c_18]; exact e)
        · have hp1 := Iv_jl I hpl c_18
          refine g_iload_n C dX0_count_21 rfl rfl ?_
          refine g_iconst (v := 1) C dX0_count_22 (by decide) ?_
          refine g_iadd C dX0_count_23 ?_
          refine g_aload_n C dX0_count_24 rfl rfl ?_
          refine g_getX C 9 dX0_count_25 mwX0_count_inX (by decide) mwX0_count_f39 rfl rfl ?_
          refine g_icmp_ge (tgt := 58) C dX0_count_28 (by decide) (fun c_28 => ?_) (fun c_28 => ?_)
          · exact absurd (by rw [nI_1, h9] at c_28; exact c_28) (nI_ge (by omega) (by omega))
          · refine g_iload_n C dX0_count_31 rfl rfl ?_
            refine g_aload_n C dX0_count_32 rfl rfl ?_
            refine g_aload_n C dX0_count_33 rfl rfl ?_
            refine g_getX C 7 dX0_count_34 mwX0_count_inX (by decide) mwX0_count_f32 rfl rfl ?_
            refine g_iload_n C dX0_count_37 rfl rfl ?_
            refine g_ialdN C (p) dX0_count_38 rfl rfl (show p < 16 by omega) (by decide) ?_
            refine g_aload_n C dX0_count_39 rfl rfl ?_
            refine g_getX C 7 dX0_count_40 mwX0_count_inX (by decide) mwX0_count_f32 rfl rfl ?_
            refine g_iload_n C dX0_count_43 rfl rfl ?_
            refine g_iconst (v := 1) C dX0_count_44 (by decide) ?_
            refine g_iadd C dX0_count_45 ?_
            refine g_ialdN C (p + 1) dX0_count_46 rfl (nI_1 p) (show p + 1 < 16 by omega) (by decide) ?_
            refine g_callVEi (Cl := RX0) (T := TX0) (N := 18) (ci := 0) (q0 := 0) (na := 2) C dX0_count_47 (c_cntPair hl (eG E) σ τ o _ _ h4 (Iv_tin I hpl) (Iv_tin I hp1)) gX0_count_X0_countOfPair rfl rfl (by decide +kernel) rfl rfl rfl (Nat.le_of_ble_eq_true rfl) (by rw [R]; exact ⟨by decide, by decide⟩) (by rw [R]; exact ⟨by decide, by decide⟩) ?_
            refine g_iadd C dX0_count_50 ?_
            refine g_istore_n C [(1, _), (2, _), (0, _)] dX0_count_51 rfl (by decide) rfl ?_
            refine g_iinc C 1 [(2, _), (1, _), (0, _)] dX0_count_52 rfl (nI_i2 p) (by decide) rfl ?_
            refine g_goto (tgt := 4) C dX0_count_55 (by decide) ?_
            exact ih (p + 2) _ (by omega) (by omega) (by rw [← ct_2 hpl c_18]; exact e)
  refine g_iconst (v := 0) C dX0_count_0 (by decide) ?_
  refine g_istore_n C [(1, _), (0, _)] dX0_count_1 rfl (by decide) rfl ?_
  refine g_iconst (v := 0) C dX0_count_2 (by decide) ?_
  refine g_istore_n C [(2, _), (1, _), (0, _)] dX0_count_3 rfl (by decide) rfl ?_
  exact loop nl 0 0 (Nat.zero_le _) (Nat.sub_le _ _) rfl
set_option maxRecDepth 100000 in
theorem mwX0_price_inX : ∀ w ∈ wsX00, w ∈ wsX0_price := by decide +kernel
set_option maxRecDepth 100000 in
theorem mwX0_price_f29 : Cond.fieldLink RX0 29 "TelegraphPrices" "coins" "I" ∈ wsX0_price := by decide +kernel
set_option maxHeartbeats 4000000 in
set_option maxRecDepth 100000 in
theorem c_price {l : Launch} (hl : l.stackTraces = false) (Γ : gG) (σ : gS) (τ : gT) (o : gO) (nw nl lm : Nat) (I : IX σ τ nw nl lm) : Ct l yX0_price wsX0_price 4 128 0 0 [.ref (Γ.2.1 100)] Γ σ τ o (pE (some (.int (CTx σ τ nl * σ 6))) σ τ o) (noX) := by
  refine ct_of hl (by decide +kernel) rfl (Nat.le_of_ble_eq_true rfl) ?_
  intro E C F T hΓ hL R
  subst hΓ
  subst hL
  show G E 0 0 0 [(0, .ref ((eG E).2.1 100))] [] σ τ o
  have hnw := Iv_nw I
  have hnl := Iv_nl I
  have h3 : σ 3 = nI nw := Iv_h3 I
  have h9 : σ 9 = nI nl := Iv_h9 I
  have h4 : ¬ σ 4 = 0 := Iv_ne I
  refine g_aload_n C dX0_price_0 rfl rfl ?_
  refine g_callVEi (Cl := RX0) (T := TX0) (N := 18) (ci := 0) (q0 := 0) (na := 0) C dX0_price_1 (c_count hl (eG E) σ τ o nw nl lm I) gX0_price_X0_count rfl rfl (by decide +kernel) rfl rfl rfl (Nat.le_of_ble_eq_true rfl) (by rw [R]; exact ⟨by decide, by decide⟩) (by rw [R]; exact ⟨by decide, by decide⟩) ?_
  refine g_aload_n C dX0_price_4 rfl rfl ?_
  refine g_getX C 6 dX0_price_5 mwX0_price_inX (by decide) mwX0_price_f29 rfl rfl ?_
  refine g_imul C dX0_price_8 ?_
  exact g_iret C F dX0_price_9 (by decide) (by decide) ⟨rfl, rfl, rfl, rfl⟩
set_option maxHeartbeats 4000000 in
set_option maxRecDepth 100000 in
theorem c_priceTo {l : Launch} (hl : l.stackTraces = false) (Γ : gG) (σ : gS) (τ : gT) (o : gO) (nw nl lm : Nat) (z : Int32) (I : IX σ τ nw nl lm) (hz : ¬ z < 0 ∧ z < 4) : Ct l yX0_priceTo wsX0_priceTo 5 160 0 0 [.ref (Γ.2.1 100), .int z] Γ σ τ o (pE (some (.int (CTx σ τ nl * σ 6 * (z + 2) / 2))) σ τ o) (noX) := by
  refine ct_of hl (by decide +kernel) rfl (Nat.le_of_ble_eq_true rfl) ?_
  intro E C F T hΓ hL R
  subst hΓ
  subst hL
  show G E 0 0 0 [(0, .ref ((eG E).2.1 100)), (1, .int z)] [] σ τ o
  have hnw := Iv_nw I
  have hnl := Iv_nl I
  have h3 : σ 3 = nI nw := Iv_h3 I
  have h9 : σ 9 = nI nl := Iv_h9 I
  have h4 : ¬ σ 4 = 0 := Iv_ne I
  refine g_iload_n C dX0_priceTo_0 rfl rfl ?_
  refine g_if_lt (tgt := 9) C dX0_priceTo_1 (by decide) (fun c_1 => ?_) (fun c_1 => ?_)
  · exact absurd c_1 hz.1
  · refine g_iload_n C dX0_priceTo_4 rfl rfl ?_
    refine g_iconst (v := 4) C dX0_priceTo_5 (by decide) ?_
    refine g_icmp_lt (tgt := 19) C dX0_priceTo_6 (by decide) (fun c_6 => ?_) (fun c_6 => ?_)
    · refine g_aload_n C dX0_priceTo_19 rfl rfl ?_
      refine g_callVEi (Cl := RX0) (T := TX0) (N := 18) (ci := 0) (q0 := 0) (na := 0) C dX0_priceTo_20 (c_price hl (eG E) σ τ o nw nl lm I) gX0_priceTo_X0_price rfl rfl (by decide +kernel) rfl rfl rfl (Nat.le_of_ble_eq_true rfl) (by rw [R]; exact ⟨by decide, by decide⟩) (by rw [R]; exact ⟨by decide, by decide⟩) ?_
      refine g_iload_n C dX0_priceTo_23 rfl rfl ?_
      refine g_iconst (v := 2) C dX0_priceTo_24 (by decide) ?_
      refine g_iadd C dX0_priceTo_25 ?_
      refine g_imul C dX0_priceTo_26 ?_
      refine g_iconst (v := 2) C dX0_priceTo_27 (by decide) ?_
      refine g_idiv C dX0_priceTo_28 (by decide) ?_
      exact g_iret C F dX0_priceTo_29 (by decide) (by decide) ⟨rfl, rfl, rfl, rfl⟩
    · exact absurd hz.2 c_6
set_option maxRecDepth 100000 in
theorem mwX0_priceTo_k133 : Cond.classLink RX0 133 "java/lang/IndexOutOfBoundsException" ∈ wsX0_priceTo := by decide +kernel
set_option maxRecDepth 100000 in
theorem mwX0_priceTo_n133 : Cond.initialized "java/lang/IndexOutOfBoundsException" ∈ wsX0_priceTo := by decide +kernel
set_option maxRecDepth 100000 in
theorem mwX0_priceTo_a133 : ∀ w ∈ (vx_atS RX0 137 "java/lang/IndexOutOfBoundsException" ["java/lang/RuntimeException", "java/lang/Exception"]).filter goodWord, w ∈ wsX0_priceTo := by decide +kernel
set_option maxRecDepth 100000 in
theorem mwX0_saves_inX : ∀ w ∈ wsX00, w ∈ wsX0_saves := by decide +kernel
set_option maxRecDepth 100000 in
theorem mwX0_saves_f29 : Cond.fieldLink RX0 29 "TelegraphPrices" "coins" "I" ∈ wsX0_saves := by decide +kernel
set_option maxHeartbeats 4000000 in
set_option maxRecDepth 100000 in
theorem c_saves {l : Launch} (hl : l.stackTraces = false) (Γ : gG) (σ : gS) (τ : gT) (o : gO) (nw nl lm : Nat) (I : IX σ τ nw nl lm) : Ct l yX0_saves wsX0_saves 6 192 0 0 [.ref (Γ.2.1 100)] Γ σ τ o (pI (fun r σ' τ' o' => r = CTx σ τ nl * σ 6 - CC0 σ τ nw nl * σ 6 ∧ σ' = σ ∧ o' = o ∧ (∀ c, c ≠ 12 → c ≠ 13 → c ≠ 14 → c ≠ 15 → τ' c = τ c))) (noX) := by
  refine ct_of hl (by decide +kernel) rfl (Nat.le_of_ble_eq_true rfl) ?_
  intro E C F T hΓ hL R
  subst hΓ
  subst hL
  show G E 0 0 0 [(0, .ref ((eG E).2.1 100))] [] σ τ o
  have hnw := Iv_nw I
  have hnl := Iv_nl I
  have h3 : σ 3 = nI nw := Iv_h3 I
  have h9 : σ 9 = nI nl := Iv_h9 I
  have h4 : ¬ σ 4 = 0 := Iv_ne I
  refine g_aload_n C dX0_saves_0 rfl rfl ?_
  refine g_callVEi (Cl := RX0) (T := TX0) (N := 18) (ci := 0) (q0 := 0) (na := 0) C dX0_saves_1 (c_price hl (eG E) σ τ o nw nl lm I) gX0_saves_X0_price rfl rfl (by decide +kernel) rfl rfl rfl (Nat.le_of_ble_eq_true rfl) (by rw [R]; exact ⟨by decide, by decide⟩) (by rw [R]; exact ⟨by decide, by decide⟩) ?_
  refine g_aload_n C dX0_saves_4 rfl rfl ?_
  refine g_callVi (Cl := RX0) (T := TX0) (N := 18) (ci := 0) (q0 := 0) (na := 0) C dX0_saves_5 (c_cheapestCount hl (eG E) σ τ o nw nl lm I) gX0_saves_X0_cheapestCount rfl rfl (by decide +kernel) rfl rfl rfl (Nat.le_of_ble_eq_true rfl) (by rw [R]; exact ⟨by decide, by decide⟩) (by rw [R]; exact ⟨by decide, by decide⟩) noX_kx (fun r1 σ1 τ1 o1 hN1 => ?_)
  obtain ⟨e0, e1, e2, hN⟩ := hN1
  rw [e0, e1, e2]
  refine g_aload_n C dX0_saves_8 rfl rfl ?_
  refine g_getX C 6 dX0_saves_9 mwX0_saves_inX (by decide) mwX0_saves_f29 rfl rfl ?_
  refine g_imul C dX0_saves_12 ?_
  refine g_isub C dX0_saves_13 ?_
  exact g_iret C F dX0_saves_14 (by decide) (by decide) ⟨_, rfl, rfl, rfl, rfl, fun c h1 h2 _ h4 => hN.1 c h1 h2 h4⟩
