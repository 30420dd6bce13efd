/-! the class's calls: book, telegram, what there is -/
/-- bitCount, as the JDK reckons it -/
def ush (x y : Int32) : Int32 := (x.toUInt32 >>> (y.toUInt32 &&& Int32.toUInt32 31)).toInt32
def bc1 (x : Int32) : Int32 := x - (ush x 1 &&& 1431655765)
def bc2 (x : Int32) : Int32 := (x &&& 858993459) + (ush x 2 &&& 858993459)
def bc3 (x : Int32) : Int32 := (x + ush x 4) &&& 252645135
def bc4 (x : Int32) : Int32 := x + ush x 8
def bc5 (x : Int32) : Int32 := x + ush x 16
def bcF (x : Int32) : Int32 := bc5 (bc4 (bc3 (bc2 (bc1 x)))) &&& 63
set_option maxRecDepth 100000 in
theorem mwJ6_bitCount_0f7a4_c265 : Cond.constant RJ6 265 (1431655765) ∈ wsJ6_bitCount_0f7a4 := by decide +kernel
set_option maxRecDepth 100000 in
theorem mwJ6_bitCount_0f7a4_c266 : Cond.constant RJ6 266 (858993459) ∈ wsJ6_bitCount_0f7a4 := by decide +kernel
set_option maxRecDepth 100000 in
theorem mwJ6_bitCount_0f7a4_c267 : Cond.constant RJ6 267 (252645135) ∈ wsJ6_bitCount_0f7a4 := by decide +kernel
set_option maxHeartbeats 4000000 in
set_option maxRecDepth 100000 in
theorem c_bitCount {l : Launch} (hl : l.stackTraces = false) (Γ : gG) (σ : gS) (τ : gT) (o : gO) (x : Int32) : Ct l yJ6_bitCount_0f7a4 wsJ6_bitCount_0f7a4 1 32 0 0 [.int x] Γ σ τ o (pE (some (.int (bcF x))) σ τ o) (noX) := by
  refine ct_of hl (by decide +kernel) rfl (Nat.le_of_ble_eq_true rfl) ?_
  intro E C F T hΓ hL R
  subst hΓ
  subst hL
  show G E 0 0 0 [(0, .int x)] [] σ τ o
  refine g_iload_n C dJ6_bitCount_0f7a4_0 rfl rfl ?_
  refine g_iload_n C dJ6_bitCount_0f7a4_1 rfl rfl ?_
  refine g_iconst (v := 1) C dJ6_bitCount_0f7a4_2 (by decide) ?_
  refine g_iushr C dJ6_bitCount_0f7a4_3 rfl ?_
  refine g_ldcw C dJ6_bitCount_0f7a4_4 mwJ6_bitCount_0f7a4_c265 ?_
  refine g_iand C dJ6_bitCount_0f7a4_7 ?_
  refine g_isub C dJ6_bitCount_0f7a4_8 ?_
  refine g_istore_n C [(0, _)] dJ6_bitCount_0f7a4_9 rfl (by decide) rfl ?_
  refine g_iload_n C dJ6_bitCount_0f7a4_10 rfl rfl ?_
  refine g_ldcw C dJ6_bitCount_0f7a4_11 mwJ6_bitCount_0f7a4_c266 ?_
  refine g_iand C dJ6_bitCount_0f7a4_14 ?_
  refine g_iload_n C dJ6_bitCount_0f7a4_15 rfl rfl ?_
  refine g_iconst (v := 2) C dJ6_bitCount_0f7a4_16 (by decide) ?_
  refine g_iushr C dJ6_bitCount_0f7a4_17 rfl ?_
  refine g_ldcw C dJ6_bitCount_0f7a4_18 mwJ6_bitCount_0f7a4_c266 ?_
  refine g_iand C dJ6_bitCount_0f7a4_21 ?_
  refine g_iadd C dJ6_bitCount_0f7a4_22 ?_
  refine g_istore_n C [(0, _)] dJ6_bitCount_0f7a4_23 rfl (by decide) rfl ?_
  refine g_iload_n C dJ6_bitCount_0f7a4_24 rfl rfl ?_
  refine g_iload_n C dJ6_bitCount_0f7a4_25 rfl rfl ?_
  refine g_iconst (v := 4) C dJ6_bitCount_0f7a4_26 (by decide) ?_
  refine g_iushr C dJ6_bitCount_0f7a4_27 rfl ?_
  refine g_iadd C dJ6_bitCount_0f7a4_28 ?_
  refine g_ldcw C dJ6_bitCount_0f7a4_29 mwJ6_bitCount_0f7a4_c267 ?_
  refine g_iand C dJ6_bitCount_0f7a4_32 ?_
  refine g_istore_n C [(0, _)] dJ6_bitCount_0f7a4_33 rfl (by decide) rfl ?_
  refine g_iload_n C dJ6_bitCount_0f7a4_34 rfl rfl ?_
  refine g_iload_n C dJ6_bitCount_0f7a4_35 rfl rfl ?_
  refine g_bipush (v := 8) C dJ6_bitCount_0f7a4_36 (by decide) ?_
  refine g_iushr C dJ6_bitCount_0f7a4_38 rfl ?_
  refine g_iadd C dJ6_bitCount_0f7a4_39 ?_
  refine g_istore_n C [(0, _)] dJ6_bitCount_0f7a4_40 rfl (by decide) rfl ?_
  refine g_iload_n C dJ6_bitCount_0f7a4_41 rfl rfl ?_
  refine g_iload_n C dJ6_bitCount_0f7a4_42 rfl rfl ?_
  refine g_bipush (v := 16) C dJ6_bitCount_0f7a4_43 (by decide) ?_
  refine g_iushr C dJ6_bitCount_0f7a4_45 rfl ?_
  refine g_iadd C dJ6_bitCount_0f7a4_46 ?_
  refine g_istore_n C [(0, _)] dJ6_bitCount_0f7a4_47 rfl (by decide) rfl ?_
  refine g_iload_n C dJ6_bitCount_0f7a4_48 rfl rfl ?_
  refine g_bipush (v := 63) C dJ6_bitCount_0f7a4_49 (by decide) ?_
  refine g_iand C dJ6_bitCount_0f7a4_51 ?_
  exact g_iret C F dJ6_bitCount_0f7a4_52 (by decide) (by decide) ⟨rfl, rfl, rfl, rfl⟩
set_option maxRecDepth 100000 in
theorem mwX0_words_inX : ∀ w ∈ wsX00, w ∈ wsX0_words := by decide +kernel
set_option maxRecDepth 100000 in
theorem mwX0_words_f19 : Cond.fieldLink RX0 19 "TelegraphPrices" "words" "I" ∈ wsX0_words := by decide +kernel
set_option maxHeartbeats 4000000 in
set_option maxRecDepth 100000 in
theorem c_words {l : Launch} (hl : l.stackTraces = false) (Γ : gG) (σ : gS) (τ : gT) (o : gO)  : Ct l yX0_words wsX0_words 1 32 0 0 [.ref (Γ.2.1 100)] Γ σ τ o (pE (some (.int (σ 3))) σ τ o) (noX) := by
  refine ct_of hl (by decide +kernel) rfl (Nat.le_of_ble_eq_true rfl) ?_
  intro E C F T hΓ hL R
  subst hΓ
  subst hL
  show G E 0 0 0 [(0, .ref ((eG E).2.1 100))] [] σ τ o
  refine g_aload_n C dX0_words_0 rfl rfl ?_
  refine g_getX C 3 dX0_words_1 mwX0_words_inX (by decide) mwX0_words_f19 rfl rfl ?_
  exact g_iret C F dX0_words_4 (by decide) (by decide) ⟨rfl, rfl, rfl, rfl⟩
set_option maxRecDepth 100000 in
theorem mwX0_limit_inX : ∀ w ∈ wsX00, w ∈ wsX0_limit := by decide +kernel
set_option maxRecDepth 100000 in
theorem mwX0_limit_f23 : Cond.fieldLink RX0 23 "TelegraphPrices" "limit" "I" ∈ wsX0_limit := by decide +kernel
set_option maxHeartbeats 4000000 in
set_option maxRecDepth 100000 in
theorem c_limit {l : Launch} (hl : l.stackTraces = false) (Γ : gG) (σ : gS) (τ : gT) (o : gO)  : Ct l yX0_limit wsX0_limit 1 32 0 0 [.ref (Γ.2.1 100)] Γ σ τ o (pE (some (.int (σ 4))) σ τ o) (noX) := by
  refine ct_of hl (by decide +kernel) rfl (Nat.le_of_ble_eq_true rfl) ?_
  intro E C F T hΓ hL R
  subst hΓ
  subst hL
  show G E 0 0 0 [(0, .ref ((eG E).2.1 100))] [] σ τ o
  refine g_aload_n C dX0_limit_0 rfl rfl ?_
  refine g_getX C 4 dX0_limit_1 mwX0_limit_inX (by decide) mwX0_limit_f23 rfl rfl ?_
  exact g_iret C F dX0_limit_4 (by decide) (by decide) ⟨rfl, rfl, rfl, rfl⟩
set_option maxRecDepth 100000 in
theorem mwX0_leastCount_inX : ∀ w ∈ wsX00, w ∈ wsX0_leastCount := by decide +kernel
set_option maxRecDepth 100000 in
theorem mwX0_leastCount_f26 : Cond.fieldLink RX0 26 "TelegraphPrices" "leastCount" "I" ∈ wsX0_leastCount := by decide +kernel
set_option maxHeartbeats 4000000 in
set_option maxRecDepth 100000 in
theorem c_leastCount {l : Launch} (hl : l.stackTraces = false) (Γ : gG) (σ : gS) (τ : gT) (o : gO)  : Ct l yX0_leastCount wsX0_leastCount 1 32 0 0 [.ref (Γ.2.1 100)] Γ σ τ o (pE (some (.int (σ 5))) σ τ o) (noX) := by
  refine ct_of hl (by decide +kernel) rfl (Nat.le_of_ble_eq_true rfl) ?_
  intro E C F T hΓ hL R
  subst hΓ
  subst hL
  show G E 0 0 0 [(0, .ref ((eG E).2.1 100))] [] σ τ o
  refine g_aload_n C dX0_leastCount_0 rfl rfl ?_
  refine g_getX C 5 dX0_leastCount_1 mwX0_leastCount_inX (by decide) mwX0_leastCount_f26 rfl rfl ?_
  exact g_iret C F dX0_leastCount_4 (by decide) (by decide) ⟨rfl, rfl, rfl, rfl⟩
set_option maxRecDepth 100000 in
theorem mwX0_coins_inX : ∀ w ∈ wsX00, w ∈ wsX0_coins := by decide +kernel
set_option maxRecDepth 100000 in
theorem mwX0_coins_f29 : Cond.fieldLink RX0 29 "TelegraphPrices" "coins" "I" ∈ wsX0_coins := by decide +kernel
set_option maxHeartbeats 4000000 in
set_option maxRecDepth 100000 in
theorem c_coins {l : Launch} (hl : l.stackTraces = false) (Γ : gG) (σ : gS) (τ : gT) (o : gO)  : Ct l yX0_coins wsX0_coins 1 32 0 0 [.ref (Γ.2.1 100)] Γ σ τ o (pE (some (.int (σ 6))) σ τ o) (noX) := by
  refine ct_of hl (by decide +kernel) rfl (Nat.le_of_ble_eq_true rfl) ?_
  intro E C F T hΓ hL R
  subst hΓ
  subst hL
  show G E 0 0 0 [(0, .ref ((eG E).2.1 100))] [] σ τ o
  refine g_aload_n C dX0_coins_0 rfl rfl ?_
  refine g_getX C 6 dX0_coins_1 mwX0_coins_inX (by decide) mwX0_coins_f29 rfl rfl ?_
  exact g_iret C F dX0_coins_4 (by decide) (by decide) ⟨rfl, rfl, rfl, rfl⟩
set_option maxRecDepth 100000 in
theorem mwX0_length_inX : ∀ w ∈ wsX00, w ∈ wsX0_length := by decide +kernel
set_option maxRecDepth 100000 in
theorem mwX0_length_f39 : Cond.fieldLink RX0 39 "TelegraphPrices" "length" "I" ∈ wsX0_length := by decide +kernel
set_option maxHeartbeats 4000000 in
set_option maxRecDepth 100000 in
theorem c_length {l : Launch} (hl : l.stackTraces = false) (Γ : gG) (σ : gS) (τ : gT) (o : gO)  : Ct l yX0_length wsX0_length 1 32 0 0 [.ref (Γ.2.1 100)] Γ σ τ o (pE (some (.int (σ 9))) σ τ o) (noX) := by
  refine ct_of hl (by decide +kernel) rfl (Nat.le_of_ble_eq_true rfl) ?_
  intro E C F T hΓ hL R
  subst hΓ
  subst hL
  show G E 0 0 0 [(0, .ref ((eG E).2.1 100))] [] σ τ o
  refine g_aload_n C dX0_length_0 rfl rfl ?_
  refine g_getX C 9 dX0_length_1 mwX0_length_inX (by decide) mwX0_length_f39 rfl rfl ?_
  exact g_iret C F dX0_length_4 (by decide) (by decide) ⟨rfl, rfl, rfl, rfl⟩
set_option maxRecDepth 100000 in
theorem mwX0_sent_inX : ∀ w ∈ wsX00, w ∈ wsX0_sent := by decide +kernel
set_option maxRecDepth 100000 in
theorem mwX0_sent_f42 : Cond.fieldLink RX0 42 "TelegraphPrices" "sent" "I" ∈ wsX0_sent := by decide +kernel
set_option maxHeartbeats 4000000 in
set_option maxRecDepth 100000 in
theorem c_sent {l : Launch} (hl : l.stackTraces = false) (Γ : gG) (σ : gS) (τ : gT) (o : gO)  : Ct l yX0_sent wsX0_sent 1 32 0 0 [.ref (Γ.2.1 100)] Γ σ τ o (pE (some (.int (σ 10))) σ τ o) (noX) := by
  refine ct_of hl (by decide +kernel) rfl (Nat.le_of_ble_eq_true rfl) ?_
  intro E C F T hΓ hL R
  subst hΓ
  subst hL
  show G E 0 0 0 [(0, .ref ((eG E).2.1 100))] [] σ τ o
  refine g_aload_n C dX0_sent_0 rfl rfl ?_
  refine g_getX C 10 dX0_sent_1 mwX0_sent_inX (by decide) mwX0_sent_f42 rfl rfl ?_
  exact g_iret C F dX0_sent_4 (by decide) (by decide) ⟨rfl, rfl, rfl, rfl⟩
set_option maxRecDepth 100000 in
theorem mwX0_earned_inX : ∀ w ∈ wsX00, w ∈ wsX0_earned := by decide +kernel
set_option maxRecDepth 100000 in
theorem mwX0_earned_f45 : Cond.fieldLink RX0 45 "TelegraphPrices" "earned" "I" ∈ wsX0_earned := by decide +kernel
set_option maxHeartbeats 4000000 in
set_option maxRecDepth 100000 in
theorem c_earned {l : Launch} (hl : l.stackTraces = false) (Γ : gG) (σ : gS) (τ : gT) (o : gO)  : Ct l yX0_earned wsX0_earned 1 32 0 0 [.ref (Γ.2.1 100)] Γ σ τ o (pE (some (.int (σ 11))) σ τ o) (noX) := by
  refine ct_of hl (by decide +kernel) rfl (Nat.le_of_ble_eq_true rfl) ?_
  intro E C F T hΓ hL R
  subst hΓ
  subst hL
  show G E 0 0 0 [(0, .ref ((eG E).2.1 100))] [] σ τ o
  refine g_aload_n C dX0_earned_0 rfl rfl ?_
  refine g_getX C 11 dX0_earned_1 mwX0_earned_inX (by decide) mwX0_earned_f45 rfl rfl ?_
  exact g_iret C F dX0_earned_4 (by decide) (by decide) ⟨rfl, rfl, rfl, rfl⟩
set_option maxRecDepth 100000 in
theorem mwX0_lettersOf_inX : ∀ w ∈ wsX00, w ∈ wsX0_lettersOf := by decide +kernel
set_option maxRecDepth 100000 in
theorem mwX0_lettersOf_f9 : Cond.fieldLink RX0 9 "TelegraphPrices" "letters" "[I" ∈ wsX0_lettersOf := by decide +kernel
set_option maxHeartbeats 4000000 in
set_option maxRecDepth 100000 in
theorem c_lettersOf {l : Launch} (hl : l.stackTraces = false) (Γ : gG) (σ : gS) (τ : gT) (o : gO) (nw nl lm : Nat) (a : Nat) (I : IX σ τ nw nl lm) (ha : a < nw) : Ct l yX0_lettersOf wsX0_lettersOf 2 64 0 0 [.ref (Γ.2.1 100), .int (nI a)] Γ σ τ o (pE (some (.int (τ 0 a))) σ τ o) (noX) := by
  refine ct_of hl (by decide +kernel) rfl (Nat.le_of_ble_eq_true rfl) ?_
  intro E C F T hΓ hL R
  subst hΓ
  subst hL
  show G E 0 0 0 [(0, .ref ((eG E).2.1 100)), (1, .int (nI a))] [] σ τ o
  have hnw := Iv_nw I
  have hnl := Iv_nl I
  have h3 : σ 3 = nI nw := Iv_h3 I
  have h9 : σ 9 = nI nl := Iv_h9 I
  have h4 : ¬ σ 4 = 0 := Iv_ne I
  refine g_aload_n C dX0_lettersOf_0 rfl rfl ?_
  refine g_iload_n C dX0_lettersOf_1 rfl rfl ?_
  refine g_callVEv (Cl := RX0) (T := TX0) (N := 18) (ci := 0) (q0 := 0) (na := 1) C dX0_lettersOf_2 (c_needWord hl (eG E) σ τ o _ (nI_pos (show a < 2 ^ 31 by omega)) (by rw [h3]; exact nI_lt (by omega) (by omega))) gX0_lettersOf_X0_needWord rfl rfl (by decide +kernel) rfl rfl rfl (Nat.le_of_ble_eq_true rfl) (by rw [R]; exact ⟨by decide, by decide⟩) (by rw [R]; exact ⟨by decide, by decide⟩) ?_
  refine g_aload_n C dX0_lettersOf_5 rfl rfl ?_
  refine g_getX C 0 dX0_lettersOf_6 mwX0_lettersOf_inX (by decide) mwX0_lettersOf_f9 rfl rfl ?_
  refine g_iload_n C dX0_lettersOf_9 rfl rfl ?_
  refine g_ialdN C (a) dX0_lettersOf_10 rfl rfl (show a < 12 by omega) (by decide) ?_
  exact g_iret C F dX0_lettersOf_11 (by decide) (by decide) ⟨rfl, rfl, rfl, rfl⟩
set_option maxRecDepth 100000 in
theorem mwX0_countOf_inX : ∀ w ∈ wsX00, w ∈ wsX0_countOf := by decide +kernel
set_option maxRecDepth 100000 in
theorem mwX0_countOf_f9 : Cond.fieldLink RX0 9 "TelegraphPrices" "letters" "[I" ∈ wsX0_countOf := by decide +kernel
set_option maxHeartbeats 4000000 in
set_option maxRecDepth 100000 in
theorem c_countOf {l : Launch} (hl : l.stackTraces = false) (Γ : gG) (σ : gS) (τ : gT) (o : gO) (nw nl lm : Nat) (a : Nat) (I : IX σ τ nw nl lm) (ha : a < nw) : Ct l yX0_countOf wsX0_countOf 2 64 0 0 [.ref (Γ.2.1 100), .int (nI a)] Γ σ τ o (pE (some (.int (cn (σ 4) (τ 0 a)))) σ τ o) (noX) := by
  refine ct_of hl (by decide +kernel) rfl (Nat.le_of_ble_eq_true rfl) ?_
  intro E C F T hΓ hL R
  subst hΓ
  subst hL
  show G E 0 0 0 [(0, .ref ((eG E).2.1 100)), (1, .int (nI a))] [] σ τ o
  have hnw := Iv_nw I
  have hnl := Iv_nl I
  have h3 : σ 3 = nI nw := Iv_h3 I
  have h9 : σ 9 = nI nl := Iv_h9 I
  have h4 : ¬ σ 4 = 0 := Iv_ne I
  refine g_aload_n C dX0_countOf_0 rfl rfl ?_
  refine g_iload_n C dX0_countOf_1 rfl rfl ?_
  refine g_callVEv (Cl := RX0) (T := TX0) (N := 18) (ci := 0) (q0 := 0) (na := 1) C dX0_countOf_2 (c_needWord hl (eG E) σ τ o _ (nI_pos (show a < 2 ^ 31 by omega)) (by rw [h3]; exact nI_lt (by omega) (by omega))) gX0_countOf_X0_needWord rfl rfl (by decide +kernel) rfl rfl rfl (Nat.le_of_ble_eq_true rfl) (by rw [R]; exact ⟨by decide, by decide⟩) (by rw [R]; exact ⟨by decide, by decide⟩) ?_
  refine g_aload_n C dX0_countOf_5 rfl rfl ?_
  refine g_aload_n C dX0_countOf_6 rfl rfl ?_
  refine g_getX C 0 dX0_countOf_7 mwX0_countOf_inX (by decide) mwX0_countOf_f9 rfl rfl ?_
  refine g_iload_n C dX0_countOf_10 rfl rfl ?_
  refine g_ialdN C (a) dX0_countOf_11 rfl rfl (show a < 12 by omega) (by decide) ?_
  refine g_callVEi (Cl := RX0) (T := TX0) (N := 18) (ci := 0) (q0 := 0) (na := 1) C dX0_countOf_12 (c_cnt hl (eG E) σ τ o _ h4) gX0_countOf_X0_countOfLetters rfl rfl (by decide +kernel) rfl rfl rfl (Nat.le_of_ble_eq_true rfl) (by rw [R]; exact ⟨by decide, by decide⟩) (by rw [R]; exact ⟨by decide, by decide⟩) ?_
  exact g_iret C F dX0_countOf_15 (by decide) (by decide) ⟨rfl, rfl, rfl, rfl⟩
set_option maxRecDepth 100000 in
theorem mwX0_standInsOf_inX : ∀ w ∈ wsX00, w ∈ wsX0_standInsOf := by decide +kernel
set_option maxRecDepth 100000 in
theorem mwX0_standInsOf_f13 : Cond.fieldLink RX0 13 "TelegraphPrices" "standIns" "[I" ∈ wsX0_standInsOf := by decide +kernel
set_option maxHeartbeats 4000000 in
set_option maxRecDepth 100000 in
theorem c_standInsOf {l : Launch} (hl : l.stackTraces = false) (Γ : gG) (σ : gS) (τ : gT) (o : gO) (nw nl lm : Nat) (a : Nat) (I : IX σ τ nw nl lm) (ha : a < nw) : Ct l yX0_standInsOf wsX0_standInsOf 2 64 0 0 [.ref (Γ.2.1 100), .int (nI a)] Γ σ τ o (pE (some (.int (bcF (τ 1 a)))) σ τ o) (noX) := by
  refine ct_of hl (by decide +kernel) rfl (Nat.le_of_ble_eq_true rfl) ?_
  intro E C F T hΓ hL R
  subst hΓ
  subst hL
  show G E 0 0 0 [(0, .ref ((eG E).2.1 100)), (1, .int (nI a))] [] σ τ o
  have hnw := Iv_nw I
  have hnl := Iv_nl I
  have h3 : σ 3 = nI nw := Iv_h3 I
  have h9 : σ 9 = nI nl := Iv_h9 I
  have h4 : ¬ σ 4 = 0 := Iv_ne I
  refine g_aload_n C dX0_standInsOf_0 rfl rfl ?_
  refine g_iload_n C dX0_standInsOf_1 rfl rfl ?_
  refine g_callVEv (Cl := RX0) (T := TX0) (N := 18) (ci := 0) (q0 := 0) (na := 1) C dX0_standInsOf_2 (c_needWord hl (eG E) σ τ o _ (nI_pos (show a < 2 ^ 31 by omega)) (by rw [h3]; exact nI_lt (by omega) (by omega))) gX0_standInsOf_X0_needWord rfl rfl (by decide +kernel) rfl rfl rfl (Nat.le_of_ble_eq_true rfl) (by rw [R]; exact ⟨by decide, by decide⟩) (by rw [R]; exact ⟨by decide, by decide⟩) ?_
  refine g_aload_n C dX0_standInsOf_5 rfl rfl ?_
  refine g_getX C 1 dX0_standInsOf_6 mwX0_standInsOf_inX (by decide) mwX0_standInsOf_f13 rfl rfl ?_
  refine g_iload_n C dX0_standInsOf_9 rfl rfl ?_
  refine g_ialdN C (a) dX0_standInsOf_10 rfl rfl (show a < 12 by omega) (by decide) ?_
  refine g_callSEi (na := 1) C dX0_standInsOf_11 (c_bitCount hl (eG E) σ τ o _) gX0_standInsOf_J6_bitCount_0f7a4 rfl rfl (by decide +kernel) rfl (Nat.le_of_ble_eq_true rfl) (by rw [R]; exact ⟨by decide, by decide⟩) (by rw [R]; exact ⟨by decide, by decide⟩) ?_
  exact g_iret C F dX0_standInsOf_14 (by decide) (by decide) ⟨rfl, rfl, rfl, rfl⟩
set_option maxRecDepth 100000 in
theorem mwX0_mayStandFor_inX : ∀ w ∈ wsX00, w ∈ wsX0_mayStandFor := by decide +kernel
set_option maxRecDepth 100000 in
theorem mwX0_mayStandFor_f13 : Cond.fieldLink RX0 13 "TelegraphPrices" "standIns" "[I" ∈ wsX0_mayStandFor := by decide +kernel
set_option maxHeartbeats 4000000 in
set_option maxRecDepth 100000 in
theorem c_mayStandFor {l : Launch} (hl : l.stackTraces = false) (Γ : gG) (σ : gS) (τ : gT) (o : gO) (nw nl lm : Nat) (a b : Nat) (I : IX σ τ nw nl lm) (ha : a < nw) (hb9 : b < nw) : Ct l yX0_mayStandFor wsX0_mayStandFor 2 64 0 0 [.ref (Γ.2.1 100), .int (nI a), .int (nI b)] Γ σ τ o (pE (some (.int (hb (τ 1 a) (nI b)))) σ τ o) (noX) := by
  refine ct_of hl (by decide +kernel) rfl (Nat.le_of_ble_eq_true rfl) ?_
  intro E C F T hΓ hL R
  subst hΓ
  subst hL
  show G E 0 0 0 [(0, .ref ((eG E).2.1 100)), (1, .int (nI a)), (2, .int (nI b))] [] σ τ o
  have hnw := Iv_nw I
  have hnl := Iv_nl I
  have h3 : σ 3 = nI nw := Iv_h3 I
  have h9 : σ 9 = nI nl := Iv_h9 I
  have h4 : ¬ σ 4 = 0 := Iv_ne I
  refine g_aload_n C dX0_mayStandFor_0 rfl rfl ?_
  refine g_iload_n C dX0_mayStandFor_1 rfl rfl ?_
  refine g_callVEv (Cl := RX0) (T := TX0) (N := 18) (ci := 0) (q0 := 0) (na := 1) C dX0_mayStandFor_2 (c_needWord hl (eG E) σ τ o _ (nI_pos (show a < 2 ^ 31 by omega)) (by rw [h3]; exact nI_lt (by omega) (by omega))) gX0_mayStandFor_X0_needWord rfl rfl (by decide +kernel) rfl rfl rfl (Nat.le_of_ble_eq_true rfl) (by rw [R]; exact ⟨by decide, by decide⟩) (by rw [R]; exact ⟨by decide, by decide⟩) ?_
  refine g_aload_n C dX0_mayStandFor_5 rfl rfl ?_
  refine g_iload_n C dX0_mayStandFor_6 rfl rfl ?_
  refine g_callVEv (Cl := RX0) (T := TX0) (N := 18) (ci := 0) (q0 := 0) (na := 1) C dX0_mayStandFor_7 (c_needWord hl (eG E) σ τ o _ (nI_pos (show b < 2 ^ 31 by omega)) (by rw [h3]; exact nI_lt (by omega) (by omega))) gX0_mayStandFor_X0_needWord rfl rfl (by decide +kernel) rfl rfl rfl (Nat.le_of_ble_eq_true rfl) (by rw [R]; exact ⟨by decide, by decide⟩) (by rw [R]; exact ⟨by decide, by decide⟩) ?_
  refine g_aload_n C dX0_mayStandFor_10 rfl rfl ?_
  refine g_getX C 1 dX0_mayStandFor_11 mwX0_mayStandFor_inX (by decide) mwX0_mayStandFor_f13 rfl rfl ?_
  refine g_iload_n C dX0_mayStandFor_14 rfl rfl ?_
  refine g_ialdN C (a) dX0_mayStandFor_15 rfl rfl (show a < 12 by omega) (by decide) ?_
  refine g_iload_n C dX0_mayStandFor_16 rfl rfl ?_
  refine g_callSEi (na := 2) C dX0_mayStandFor_17 (c_hasBit hl (eG E) σ τ o _ _) gX0_mayStandFor_X0_hasBit rfl rfl (by decide +kernel) rfl (Nat.le_of_ble_eq_true rfl) (by rw [R]; exact ⟨by decide, by decide⟩) (by rw [R]; exact ⟨by decide, by decide⟩) ?_
  exact g_zret C F dX0_mayStandFor_20 (hb_01 _ _) (by decide) (by decide) ⟨rfl, rfl, rfl, rfl⟩
set_option maxRecDepth 100000 in
theorem mwX0_mayJoin_inX : ∀ w ∈ wsX00, w ∈ wsX0_mayJoin := by decide +kernel
set_option maxRecDepth 100000 in
theorem mwX0_mayJoin_f16 : Cond.fieldLink RX0 16 "TelegraphPrices" "joins" "[I" ∈ wsX0_mayJoin := by decide +kernel
set_option maxHeartbeats 4000000 in
set_option maxRecDepth 100000 in
theorem c_mayJoin {l : Launch} (hl : l.stackTraces = false) (Γ : gG) (σ : gS) (τ : gT) (o : gO) (nw nl lm : Nat) (a b : Nat) (I : IX σ τ nw nl lm) (ha : a < nw) (hb9 : b < nw) : Ct l yX0_mayJoin wsX0_mayJoin 2 64 0 0 [.ref (Γ.2.1 100), .int (nI a), .int (nI b)] Γ σ τ o (pE (some (.int (hb (τ 2 a) (nI b)))) σ τ o) (noX) := by
  refine ct_of hl (by decide +kernel) rfl (Nat.le_of_ble_eq_true rfl) ?_
  intro E C F T hΓ hL R
  subst hΓ
  subst hL
  show G E 0 0 0 [(0, .ref ((eG E).2.1 100)), (1, .int (nI a)), (2, .int (nI b))] [] σ τ o
  have hnw := Iv_nw I
  have hnl := Iv_nl I
  have h3 : σ 3 = nI nw := Iv_h3 I
  have h9 : σ 9 = nI nl := Iv_h9 I
  have h4 : ¬ σ 4 = 0 := Iv_ne I
  refine g_aload_n C dX0_mayJoin_0 rfl rfl ?_
  refine g_iload_n C dX0_mayJoin_1 rfl rfl ?_
  refine g_callVEv (Cl := RX0) (T := TX0) (N := 18) (ci := 0) (q0 := 0) (na := 1) C dX0_mayJoin_2 (c_needWord hl (eG E) σ τ o _ (nI_pos (show a < 2 ^ 31 by omega)) (by rw [h3]; exact nI_lt (by omega) (by omega))) gX0_mayJoin_X0_needWord rfl rfl (by decide +kernel) rfl rfl rfl (Nat.le_of_ble_eq_true rfl) (by rw [R]; exact ⟨by decide, by decide⟩) (by rw [R]; exact ⟨by decide, by decide⟩) ?_
  refine g_aload_n C dX0_mayJoin_5 rfl rfl ?_
  refine g_iload_n C dX0_mayJoin_6 rfl rfl ?_
  refine g_callVEv (Cl := RX0) (T := TX0) (N := 18) (ci := 0) (q0 := 0) (na := 1) C dX0_mayJoin_7 (c_needWord hl (eG E) σ τ o _ (nI_pos (show b < 2 ^ 31 by omega)) (by rw [h3]; exact nI_lt (by omega) (by omega))) gX0_mayJoin_X0_needWord rfl rfl (by decide +kernel) rfl rfl rfl (Nat.le_of_ble_eq_true rfl) (by rw [R]; exact ⟨by decide, by decide⟩) (by rw [R]; exact ⟨by decide, by decide⟩) ?_
  refine g_aload_n C dX0_mayJoin_10 rfl rfl ?_
  refine g_getX C 2 dX0_mayJoin_11 mwX0_mayJoin_inX (by decide) mwX0_mayJoin_f16 rfl rfl ?_
  refine g_iload_n C dX0_mayJoin_14 rfl rfl ?_
  refine g_ialdN C (a) dX0_mayJoin_15 rfl rfl (show a < 12 by omega) (by decide) ?_
  refine g_iload_n C dX0_mayJoin_16 rfl rfl ?_
  refine g_callSEi (na := 2) C dX0_mayJoin_17 (c_hasBit hl (eG E) σ τ o _ _) gX0_mayJoin_X0_hasBit rfl rfl (by decide +kernel) rfl (Nat.le_of_ble_eq_true rfl) (by rw [R]; exact ⟨by decide, by decide⟩) (by rw [R]; exact ⟨by decide, by decide⟩) ?_
  exact g_zret C F dX0_mayJoin_20 (hb_01 _ _) (by decide) (by decide) ⟨rfl, rfl, rfl, rfl⟩
set_option maxRecDepth 100000 in
theorem mwX0_wordAt_inX : ∀ w ∈ wsX00, w ∈ wsX0_wordAt := by decide +kernel
set_option maxRecDepth 100000 in
theorem mwX0_wordAt_f32 : Cond.fieldLink RX0 32 "TelegraphPrices" "telegram" "[I" ∈ wsX0_wordAt := by decide +kernel
set_option maxHeartbeats 4000000 in
set_option maxRecDepth 100000 in
theorem c_wordAt {l : Launch} (hl : l.stackTraces = false) (Γ : gG) (σ : gS) (τ : gT) (o : gO) (nw nl lm : Nat) (p : Nat) (I : IX σ τ nw nl lm) (hp : p < nl) : Ct l yX0_wordAt wsX0_wordAt 2 64 0 0 [.ref (Γ.2.1 100), .int (nI p)] Γ σ τ o (pE (some (.int (τ 7 p))) σ τ o) (noX) := by
  refine ct_of hl (by decide +kernel) rfl (Nat.le_of_ble_eq_true rfl) ?_
  intro E C F T hΓ hL R
  subst hΓ
  subst hL
  show G E 0 0 0 [(0, .ref ((eG E).2.1 100)), (1, .int (nI p))] [] σ τ o
  have hnw := Iv_nw I
  have hnl := Iv_nl I
  have h3 : σ 3 = nI nw := Iv_h3 I
  have h9 : σ 9 = nI nl := Iv_h9 I
  have h4 : ¬ σ 4 = 0 := Iv_ne I
  refine g_aload_n C dX0_wordAt_0 rfl rfl ?_
  refine g_iload_n C dX0_wordAt_1 rfl rfl ?_
  refine g_callVEv (Cl := RX0) (T := TX0) (N := 18) (ci := 0) (q0 := 0) (na := 1) C dX0_wordAt_2 (c_needPlace hl (eG E) σ τ o _ (nI_pos (show p < 2 ^ 31 by omega)) (by rw [h9]; exact nI_lt (by omega) (by omega))) gX0_wordAt_X0_needPlace rfl rfl (by decide +kernel) rfl rfl rfl (Nat.le_of_ble_eq_true rfl) (by rw [R]; exact ⟨by decide, by decide⟩) (by rw [R]; exact ⟨by decide, by decide⟩) ?_
  refine g_aload_n C dX0_wordAt_5 rfl rfl ?_
  refine g_getX C 7 dX0_wordAt_6 mwX0_wordAt_inX (by decide) mwX0_wordAt_f32 rfl rfl ?_
  refine g_iload_n C dX0_wordAt_9 rfl rfl ?_
  refine g_ialdN C (p) dX0_wordAt_10 rfl rfl (show p < 16 by omega) (by decide) ?_
  exact g_iret C F dX0_wordAt_11 (by decide) (by decide) ⟨rfl, rfl, rfl, rfl⟩
set_option maxRecDepth 100000 in
theorem mwX0_isJoined_inX : ∀ w ∈ wsX00, w ∈ wsX0_isJoined := by decide +kernel
set_option maxRecDepth 100000 in
theorem mwX0_isJoined_f35 : Cond.fieldLink RX0 35 "TelegraphPrices" "joined" "[Z" ∈ wsX0_isJoined := by decide +kernel
set_option maxHeartbeats 4000000 in
set_option maxRecDepth 100000 in
theorem c_isJoined {l : Launch} (hl : l.stackTraces = false) (Γ : gG) (σ : gS) (τ : gT) (o : gO) (nw nl lm : Nat) (p : Nat) (I : IX σ τ nw nl lm) (hp : p < nl) : Ct l yX0_isJoined wsX0_isJoined 2 64 0 0 [.ref (Γ.2.1 100), .int (nI p)] Γ σ τ o (pE (some (.int (τ 8 p))) σ τ o) (noX) := by
  refine ct_of hl (by decide +kernel) rfl (Nat.le_of_ble_eq_true rfl) ?_
  intro E C F T hΓ hL R
  subst hΓ
  subst hL
  show G E 0 0 0 [(0, .ref ((eG E).2.1 100)), (1, .int (nI p))] [] σ τ o
  have hnw := Iv_nw I
  have hnl := Iv_nl I
  have h3 : σ 3 = nI nw := Iv_h3 I
  have h9 : σ 9 = nI nl := Iv_h9 I
  have h4 : ¬ σ 4 = 0 := Iv_ne I
  refine g_aload_n C dX0_isJoined_0 rfl rfl ?_
  refine g_iload_n C dX0_isJoined_1 rfl rfl ?_
  refine g_callVEv (Cl := RX0) (T := TX0) (N := 18) (ci := 0) (q0 := 0) (na := 1) C dX0_isJoined_2 (c_needPlace hl (eG E) σ τ o _ (nI_pos (show p < 2 ^ 31 by omega)) (by rw [h9]; exact nI_lt (by omega) (by omega))) gX0_isJoined_X0_needPlace rfl rfl (by decide +kernel) rfl rfl rfl (Nat.le_of_ble_eq_true rfl) (by rw [R]; exact ⟨by decide, by decide⟩) (by rw [R]; exact ⟨by decide, by decide⟩) ?_
  refine g_aload_n C dX0_isJoined_5 rfl rfl ?_
  refine g_getX C 8 dX0_isJoined_6 mwX0_isJoined_inX (by decide) mwX0_isJoined_f35 rfl rfl ?_
  refine g_iload_n C dX0_isJoined_9 rfl rfl ?_
  refine g_zaldN C (p) dX0_isJoined_10 rfl rfl (show p < 16 by omega) (by decide) ?_
  exact g_zret C F dX0_isJoined_11 (Iv_jd I p) (by decide) (by decide) ⟨rfl, rfl, rfl, rfl⟩
set_option maxRecDepth 100000 in
theorem mwX0_isJoinedInCheapest_inX : ∀ w ∈ wsX00, w ∈ wsX0_isJoinedInCheapest := by decide +kernel
set_option maxRecDepth 100000 in
theorem mwX0_isJoinedInCheapest_f63 : Cond.fieldLink RX0 63 "TelegraphPrices" "cheapestJoined" "[Z" ∈ wsX0_isJoinedInCheapest := by decide +kernel
set_option maxHeartbeats 4000000 in
set_option maxRecDepth 100000 in
theorem c_isJoinedInCheapest {l : Launch} (hl : l.stackTraces = false) (Γ : gG) (σ : gS) (τ : gT) (o : gO) (nw nl lm : Nat) (p : Nat) (I : IX σ τ nw nl lm) (hp : p < nl) : Ct l yX0_isJoinedInCheapest wsX0_isJoinedInCheapest 6 192 0 0 [.ref (Γ.2.1 100), .int (nI p)] Γ σ τ o (pI (fun r σ' τ' o' => r = cjd (prx σ τ nw nl) p ∧ σ' = σ ∧ o' = o ∧ CH σ τ nw nl nl τ')) (noX) := by
  refine ct_of hl (by decide +kernel) rfl (Nat.le_of_ble_eq_true rfl) ?_
  intro E C F T hΓ hL R
  subst hΓ
  subst hL
  show G E 0 0 0 [(0, .ref ((eG E).2.1 100)), (1, .int (nI p))] [] σ τ o
  have hnw := Iv_nw I
  have hnl := Iv_nl I
  have h3 : σ 3 = nI nw := Iv_h3 I
  have h9 : σ 9 = nI nl := Iv_h9 I
  have h4 : ¬ σ 4 = 0 := Iv_ne I
  refine g_aload_n C dX0_isJoinedInCheapest_0 rfl rfl ?_
  refine g_iload_n C dX0_isJoinedInCheapest_1 rfl rfl ?_
  refine g_callVEv (Cl := RX0) (T := TX0) (N := 18) (ci := 0) (q0 := 0) (na := 1) C dX0_isJoinedInCheapest_2 (c_needPlace hl (eG E) σ τ o _ (nI_pos (show p < 2 ^ 31 by omega)) (by rw [h9]; exact nI_lt (by omega) (by omega))) gX0_isJoinedInCheapest_X0_needPlace rfl rfl (by decide +kernel) rfl rfl rfl (Nat.le_of_ble_eq_true rfl) (by rw [R]; exact ⟨by decide, by decide⟩) (by rw [R]; exact ⟨by decide, by decide⟩) ?_
  refine g_aload_n C dX0_isJoinedInCheapest_5 rfl rfl ?_
  refine g_callVv (Cl := RX0) (T := TX0) (N := 18) (ci := 0) (q0 := 0) (na := 0) C dX0_isJoinedInCheapest_6 (c_noteWording hl (eG E) σ τ o nw nl lm I) gX0_isJoinedInCheapest_X0_noteCheapestWording rfl rfl (by decide +kernel) rfl rfl rfl (Nat.le_of_ble_eq_true rfl) (by rw [R]; exact ⟨by decide, by decide⟩) (by rw [R]; exact ⟨by decide, by decide⟩) noX_kx (fun σ1 τ1 o1 hN1 => ?_)
  obtain ⟨e1, e2, hN⟩ := hN1
  rw [e1, e2]
  refine g_aload_n C dX0_isJoinedInCheapest_9 rfl rfl ?_
  refine g_getX C 17 dX0_isJoinedInCheapest_10 mwX0_isJoinedInCheapest_inX (by decide) mwX0_isJoinedInCheapest_f63 rfl rfl ?_
  refine g_iload_n C dX0_isJoinedInCheapest_13 rfl rfl ?_
  refine g_zaldN C (p) dX0_isJoinedInCheapest_14 rfl rfl (show p < 16 by omega) (by decide) ?_
  exact g_zret C F dX0_isJoinedInCheapest_15 (hN.2.2.2.1 p) (by decide) (by decide) ⟨_, rfl, (hN.2.2.2.2 p hp).2, rfl, rfl, hN⟩
set_option maxRecDepth 100000 in
theorem mwX0_setLimit_inX : ∀ w ∈ wsX00, w ∈ wsX0_setLimit := by decide +kernel
set_option maxRecDepth 100000 in
theorem mwX0_setLimit_f23 : Cond.fieldLink RX0 23 "TelegraphPrices" "limit" "I" ∈ wsX0_setLimit := by decide +kernel
set_option maxHeartbeats 4000000 in
set_option maxRecDepth 100000 in
theorem c_setLimit {l : Launch} (hl : l.stackTraces = false) (Γ : gG) (σ : gS) (τ : gT) (o : gO) (x : Int32) (h1 : ¬ x < 3) (h2 : x ≤ 15) : Ct l yX0_setLimit wsX0_setLimit 1 32 0 0 [.ref (Γ.2.1 100), .int x] Γ σ τ o (pE (some (.int (σ 4))) (uS σ 4 x) τ o) (noX) := by
  refine ct_of hl (by decide +kernel) rfl (Nat.le_of_ble_eq_true rfl) ?_
  intro E C F T hΓ hL R
  subst hΓ
  subst hL
  show G E 0 0 0 [(0, .ref ((eG E).2.1 100)), (1, .int x)] [] σ τ o
  refine g_iload_n C dX0_setLimit_0 rfl rfl ?_
  refine g_iconst (v := 3) C dX0_setLimit_1 (by decide) ?_
  refine g_icmp_lt (tgt := 11) C dX0_setLimit_2 (by decide) (fun c_2 => ?_) (fun c_2 => ?_)
  · exact absurd c_2 h1
  · refine g_iload_n C dX0_setLimit_5 rfl rfl ?_
    refine g_bipush (v := 15) C dX0_setLimit_6 (by decide) ?_
    refine g_icmp_le (tgt := 21) C dX0_setLimit_8 (by decide) (fun c_8 => ?_) (fun c_8 => ?_)
    · refine g_aload_n C dX0_setLimit_21 rfl rfl ?_
      refine g_getX C 4 dX0_setLimit_22 mwX0_setLimit_inX (by decide) mwX0_setLimit_f23 rfl rfl ?_
      refine g_istore_n C [(2, _), (0, _), (1, _)] dX0_setLimit_25 rfl (by decide) rfl ?_
      refine g_aload_n C dX0_setLimit_26 rfl rfl ?_
      refine g_iload_n C dX0_setLimit_27 rfl rfl ?_
      refine g_putX C 4 dX0_setLimit_28 mwX0_setLimit_inX (by decide) mwX0_setLimit_f23 rfl rfl (by decide +kernel) rfl ?_
      refine g_iload_n C dX0_setLimit_31 rfl rfl ?_
      exact g_iret C F dX0_setLimit_32 (by decide) (by decide) ⟨rfl, rfl, rfl, rfl⟩
    · exact absurd h2 c_8
set_option maxRecDepth 100000 in
theorem mwX0_setLimit_k66 : Cond.classLink RX0 66 "java/lang/IllegalArgumentException" ∈ wsX0_setLimit := by decide +kernel
set_option maxRecDepth 100000 in
theorem mwX0_setLimit_n66 : Cond.initialized "java/lang/IllegalArgumentException" ∈ wsX0_setLimit := by decide +kernel
set_option maxRecDepth 100000 in
theorem mwX0_setLimit_a66 : ∀ w ∈ (vx_atS RX0 70 "java/lang/IllegalArgumentException" ["java/lang/RuntimeException", "java/lang/Exception"]).filter goodWord, w ∈ wsX0_setLimit := by decide +kernel
set_option maxRecDepth 100000 in
theorem mwX0_setLeastCount_inX : ∀ w ∈ wsX00, w ∈ wsX0_setLeastCount := by decide +kernel
set_option maxRecDepth 100000 in
theorem mwX0_setLeastCount_f26 : Cond.fieldLink RX0 26 "TelegraphPrices" "leastCount" "I" ∈ wsX0_setLeastCount := by decide +kernel
set_option maxHeartbeats 4000000 in
set_option maxRecDepth 100000 in
theorem c_setLeastCount {l : Launch} (hl : l.stackTraces = false) (Γ : gG) (σ : gS) (τ : gT) (o : gO) (x : Int32) (h1 : ¬ x < 0) (h2 : x ≤ 20) : Ct l yX0_setLeastCount wsX0_setLeastCount 1 32 0 0 [.ref (Γ.2.1 100), .int x] Γ σ τ o (pE (some (.int (σ 5))) (uS σ 5 x) τ o) (noX) := by
  refine ct_of hl (by decide +kernel) rfl (Nat.le_of_ble_eq_true rfl) ?_
  intro E C F T hΓ hL R
  subst hΓ
  subst hL
  show G E 0 0 0 [(0, .ref ((eG E).2.1 100)), (1, .int x)] [] σ τ o
  refine g_iload_n C dX0_setLeastCount_0 rfl rfl ?_
  refine g_if_lt (tgt := 10) C dX0_setLeastCount_1 (by decide) (fun c_1 => ?_) (fun c_1 => ?_)
  · exact absurd c_1 h1
  · refine g_iload_n C dX0_setLeastCount_4 rfl rfl ?_
    refine g_bipush (v := 20) C dX0_setLeastCount_5 (by decide) ?_
    refine g_icmp_le (tgt := 20) C dX0_setLeastCount_7 (by decide) (fun c_7 => ?_) (fun c_7 => ?_)
    · refine g_aload_n C dX0_setLeastCount_20 rfl rfl ?_
      refine g_getX C 5 dX0_setLeastCount_21 mwX0_setLeastCount_inX (by decide) mwX0_setLeastCount_f26 rfl rfl ?_
      refine g_istore_n C [(2, _), (0, _), (1, _)] dX0_setLeastCount_24 rfl (by decide) rfl ?_
      refine g_aload_n C dX0_setLeastCount_25 rfl rfl ?_
      refine g_iload_n C dX0_setLeastCount_26 rfl rfl ?_
      refine g_putX C 5 dX0_setLeastCount_27 mwX0_setLeastCount_inX (by decide) mwX0_setLeastCount_f26 rfl rfl (by decide +kernel) rfl ?_
      refine g_iload_n C dX0_setLeastCount_30 rfl rfl ?_
      exact g_iret C F dX0_setLeastCount_31 (by decide) (by decide) ⟨rfl, rfl, rfl, rfl⟩
    · exact absurd h2 c_7
set_option maxRecDepth 100000 in
theorem mwX0_setLeastCount_k66 : Cond.classLink RX0 66 "java/lang/IllegalArgumentException" ∈ wsX0_setLeastCount := by decide +kernel
set_option maxRecDepth 100000 in
theorem mwX0_setLeastCount_n66 : Cond.initialized "java/lang/IllegalArgumentException" ∈ wsX0_setLeastCount := by decide +kernel
set_option maxRecDepth 100000 in
theorem mwX0_setLeastCount_a66 : ∀ w ∈ (vx_atS RX0 70 "java/lang/IllegalArgumentException" ["java/lang/RuntimeException", "java/lang/Exception"]).filter goodWord, w ∈ wsX0_setLeastCount := by decide +kernel
set_option maxRecDepth 100000 in
theorem mwX0_setCoins_inX : ∀ w ∈ wsX00, w ∈ wsX0_setCoins := by decide +kernel
set_option maxRecDepth 100000 in
theorem mwX0_setCoins_f29 : Cond.fieldLink RX0 29 "TelegraphPrices" "coins" "I" ∈ wsX0_setCoins := by decide +kernel
set_option maxHeartbeats 4000000 in
set_option maxRecDepth 100000 in
theorem c_setCoins {l : Launch} (hl : l.stackTraces = false) (Γ : gG) (σ : gS) (τ : gT) (o : gO) (x : Int32) (h1 : ¬ x < 1) (h2 : x ≤ 50) : Ct l yX0_setCoins wsX0_setCoins 1 32 0 0 [.ref (Γ.2.1 100), .int x] Γ σ τ o (pE (some (.int (σ 6))) (uS σ 6 x) τ o) (noX) := by
  refine ct_of hl (by decide +kernel) rfl (Nat.le_of_ble_eq_true rfl) ?_
  intro E C F T hΓ hL R
  subst hΓ
  subst hL
  show G E 0 0 0 [(0, .ref ((eG E).2.1 100)), (1, .int x)] [] σ τ o
  refine g_iload_n C dX0_setCoins_0 rfl rfl ?_
  refine g_iconst (v := 1) C dX0_setCoins_1 (by decide) ?_
  refine g_icmp_lt (tgt := 11) C dX0_setCoins_2 (by decide) (fun c_2 => ?_) (fun c_2 => ?_)
  · exact absurd c_2 h1
  · refine g_iload_n C dX0_setCoins_5 rfl rfl ?_
    refine g_bipush (v := 50) C dX0_setCoins_6 (by decide) ?_
    refine g_icmp_le (tgt := 21) C dX0_setCoins_8 (by decide) (fun c_8 => ?_) (fun c_8 => ?_)
    · refine g_aload_n C dX0_setCoins_21 rfl rfl ?_
      refine g_getX C 6 dX0_setCoins_22 mwX0_setCoins_inX (by decide) mwX0_setCoins_f29 rfl rfl ?_
      refine g_istore_n C [(2, _), (0, _), (1, _)] dX0_setCoins_25 rfl (by decide) rfl ?_
      refine g_aload_n C dX0_setCoins_26 rfl rfl ?_
      refine g_iload_n C dX0_setCoins_27 rfl rfl ?_
      refine g_putX C 6 dX0_setCoins_28 mwX0_setCoins_inX (by decide) mwX0_setCoins_f29 rfl rfl (by decide +kernel) rfl ?_
      refine g_iload_n C dX0_setCoins_31 rfl rfl ?_
      exact g_iret C F dX0_setCoins_32 (by decide) (by decide) ⟨rfl, rfl, rfl, rfl⟩
    · exact absurd h2 c_8
set_option maxRecDepth 100000 in
theorem mwX0_setCoins_k66 : Cond.classLink RX0 66 "java/lang/IllegalArgumentException" ∈ wsX0_setCoins := by decide +kernel
set_option maxRecDepth 100000 in
theorem mwX0_setCoins_n66 : Cond.initialized "java/lang/IllegalArgumentException" ∈ wsX0_setCoins := by decide +kernel
set_option maxRecDepth 100000 in
theorem mwX0_setCoins_a66 : ∀ w ∈ (vx_atS RX0 70 "java/lang/IllegalArgumentException" ["java/lang/RuntimeException", "java/lang/Exception"]).filter goodWord, w ∈ wsX0_setCoins := by decide +kernel
set_option maxRecDepth 100000 in
theorem mwX0_addWord_inX : ∀ w ∈ wsX00, w ∈ wsX0_addWord := by decide +kernel
set_option maxRecDepth 100000 in
theorem mwX0_addWord_f19 : Cond.fieldLink RX0 19 "TelegraphPrices" "words" "I" ∈ wsX0_addWord := by decide +kernel
set_option maxRecDepth 100000 in
theorem mwX0_addWord_f9 : Cond.fieldLink RX0 9 "TelegraphPrices" "letters" "[I" ∈ wsX0_addWord := by decide +kernel
set_option maxRecDepth 100000 in
theorem mwX0_addWord_f13 : Cond.fieldLink RX0 13 "TelegraphPrices" "standIns" "[I" ∈ wsX0_addWord := by decide +kernel
set_option maxRecDepth 100000 in
theorem mwX0_addWord_f16 : Cond.fieldLink RX0 16 "TelegraphPrices" "joins" "[I" ∈ wsX0_addWord := by decide +kernel
set_option maxHeartbeats 4000000 in
set_option maxRecDepth 100000 in
theorem c_addWord {l : Launch} (hl : l.stackTraces = false) (Γ : gG) (σ : gS) (τ : gT) (o : gO) (nw nl lm : Nat) (x : Int32) (I : IX σ τ nw nl lm) (h1 : ¬ x < 1) (h2 : x ≤ 30) (hw : nw < 12) : Ct l yX0_addWord wsX0_addWord 1 32 0 0 [.ref (Γ.2.1 100), .int x] Γ σ τ o (pE (some (.int (nI nw))) (uS σ 3 (nI (nw + 1))) (uT (uT (uT τ 0 nw x) 1 nw ((1 : Int32) <<< (nI nw &&& 31))) 2 nw 0) o) (noX) := by
  refine ct_of hl (by decide +kernel) rfl (Nat.le_of_ble_eq_true rfl) ?_
  intro E C F T hΓ hL R
  subst hΓ
  subst hL
  show G E 0 0 0 [(0, .ref ((eG E).2.1 100)), (1, .int x)] [] σ τ o
  have hnw := Iv_nw I
  have hnl := Iv_nl I
  have h3 : σ 3 = nI nw := Iv_h3 I
  have h9 : σ 9 = nI nl := Iv_h9 I
  have h4 : ¬ σ 4 = 0 := Iv_ne I
  refine g_iload_n C dX0_addWord_0 rfl rfl ?_
  refine g_iconst (v := 1) C dX0_addWord_1 (by decide) ?_
  refine g_icmp_lt (tgt := 11) C dX0_addWord_2 (by decide) (fun c_2 => ?_) (fun c_2 => ?_)
  · exact absurd c_2 h1
  · refine g_iload_n C dX0_addWord_5 rfl rfl ?_
    refine g_bipush (v := 30) C dX0_addWord_6 (by decide) ?_
    refine g_icmp_le (tgt := 21) C dX0_addWord_8 (by decide) (fun c_8 => ?_) (fun c_8 => ?_)
    · refine g_aload_n C dX0_addWord_21 rfl rfl ?_
      refine g_getX C 3 dX0_addWord_22 mwX0_addWord_inX (by decide) mwX0_addWord_f19 rfl rfl ?_
      refine g_bipush (v := 12) C dX0_addWord_25 (by decide) ?_
      refine g_icmp_lt (tgt := 40) C dX0_addWord_27 (by decide) (fun c_27 => ?_) (fun c_27 => ?_)
      · refine g_aload_n C dX0_addWord_40 rfl rfl ?_
        refine g_getX C 3 dX0_addWord_41 mwX0_addWord_inX (by decide) mwX0_addWord_f19 rfl rfl ?_
        refine g_topi h3 ?_
        refine g_istore_n C [(2, _), (0, _), (1, _)] dX0_addWord_44 rfl (by decide) rfl ?_
        refine g_aload_n C dX0_addWord_45 rfl rfl ?_
        refine g_getX C 0 dX0_addWord_46 mwX0_addWord_inX (by decide) mwX0_addWord_f9 rfl rfl ?_
        refine g_iload_n C dX0_addWord_49 rfl rfl ?_
        refine g_iload_n C dX0_addWord_50 rfl rfl ?_
        refine g_iastN C (nw) dX0_addWord_51 rfl rfl hw (by decide) rfl ?_
        refine g_aload_n C dX0_addWord_52 rfl rfl ?_
        refine g_getX C 1 dX0_addWord_53 mwX0_addWord_inX (by decide) mwX0_addWord_f13 rfl rfl ?_
        refine g_iload_n C dX0_addWord_56 rfl rfl ?_
        refine g_iconst (v := 1) C dX0_addWord_57 (by decide) ?_
        refine g_iload_n C dX0_addWord_58 rfl rfl ?_
        refine g_ishl C dX0_addWord_59 ?_
        refine g_iastN C (nw) dX0_addWord_60 rfl rfl hw (by decide) rfl ?_
        refine g_aload_n C dX0_addWord_61 rfl rfl ?_
        refine g_getX C 2 dX0_addWord_62 mwX0_addWord_inX (by decide) mwX0_addWord_f16 rfl rfl ?_
        refine g_iload_n C dX0_addWord_65 rfl rfl ?_
        refine g_iconst (v := 0) C dX0_addWord_66 (by decide) ?_
        refine g_iastN C (nw) dX0_addWord_67 rfl rfl hw (by decide) rfl ?_
        refine g_aload_n C dX0_addWord_68 rfl rfl ?_
        refine g_dup C dX0_addWord_69 rfl ?_
        refine g_getX C 3 dX0_addWord_70 mwX0_addWord_inX (by decide) mwX0_addWord_f19 rfl rfl ?_
        refine g_iconst (v := 1) C dX0_addWord_73 (by decide) ?_
        refine g_iadd C dX0_addWord_74 ?_
        refine g_topi (show _ = nI (nw + 1) by rw [h3]; exact nI_1 nw) ?_
        refine g_putX C 3 dX0_addWord_75 mwX0_addWord_inX (by decide) mwX0_addWord_f19 rfl rfl (by decide +kernel) rfl ?_
        refine g_iload_n C dX0_addWord_78 rfl rfl ?_
        exact g_iret C F dX0_addWord_79 (by decide) (by decide) ⟨rfl, rfl, rfl, rfl⟩
      · exact absurd (by rw [h3]; exact nI_lt hw (by decide)) c_27
    · exact absurd h2 c_8
set_option maxRecDepth 100000 in
theorem mwX0_addWord_k66 : Cond.classLink RX0 66 "java/lang/IllegalArgumentException" ∈ wsX0_addWord := by decide +kernel
set_option maxRecDepth 100000 in
theorem mwX0_addWord_n66 : Cond.initialized "java/lang/IllegalArgumentException" ∈ wsX0_addWord := by decide +kernel
set_option maxRecDepth 100000 in
theorem mwX0_addWord_a66 : ∀ w ∈ (vx_atS RX0 70 "java/lang/IllegalArgumentException" ["java/lang/RuntimeException", "java/lang/Exception"]).filter goodWord, w ∈ wsX0_addWord := by decide +kernel
set_option maxRecDepth 100000 in
theorem mwX0_addWord_k73 : Cond.classLink RX0 73 "java/lang/IllegalStateException" ∈ wsX0_addWord := by decide +kernel
set_option maxRecDepth 100000 in
theorem mwX0_addWord_n73 : Cond.initialized "java/lang/IllegalStateException" ∈ wsX0_addWord := by decide +kernel
set_option maxRecDepth 100000 in
theorem mwX0_addWord_a73 : ∀ w ∈ (vx_atS RX0 77 "java/lang/IllegalStateException" ["java/lang/RuntimeException", "java/lang/Exception"]).filter goodWord, w ∈ wsX0_addWord := by decide +kernel
set_option maxRecDepth 100000 in
theorem mwX0_turnStandIn_inX : ∀ w ∈ wsX00, w ∈ wsX0_turnStandIn := by decide +kernel
set_option maxRecDepth 100000 in
theorem mwX0_turnStandIn_f13 : Cond.fieldLink RX0 13 "TelegraphPrices" "standIns" "[I" ∈ wsX0_turnStandIn := by decide +kernel
set_option maxHeartbeats 4000000 in
set_option maxRecDepth 100000 in
theorem c_turnStandIn {l : Launch} (hl : l.stackTraces = false) (Γ : gG) (σ : gS) (τ : gT) (o : gO) (nw nl lm : Nat) (a b : Nat) (I : IX σ τ nw nl lm) (ha : a < nw) (hb9 : b < nw) (hne : a ≠ b) : Ct l yX0_turnStandIn wsX0_turnStandIn 2 64 0 0 [.ref (Γ.2.1 100), .int (nI a), .int (nI b)] Γ σ τ o (pE (some (.int (hb (τ 1 a ^^^ ((1 : Int32) <<< (nI b &&& 31))) (nI b)))) σ (uT τ 1 a (τ 1 a ^^^ ((1 : Int32) <<< (nI b &&& 31)))) o) (noX) := by
  refine ct_of hl (by decide +kernel) rfl (Nat.le_of_ble_eq_true rfl) ?_
  intro E C F T hΓ hL R
  subst hΓ
  subst hL
  show G E 0 0 0 [(0, .ref ((eG E).2.1 100)), (1, .int (nI a)), (2, .int (nI b))] [] σ τ o
  have hnw := Iv_nw I
  have hnl := Iv_nl I
  have h3 : σ 3 = nI nw := Iv_h3 I
  have h9 : σ 9 = nI nl := Iv_h9 I
  have h4 : ¬ σ 4 = 0 := Iv_ne I
  refine g_aload_n C dX0_turnStandIn_0 rfl rfl ?_
  refine g_iload_n C dX0_turnStandIn_1 rfl rfl ?_
  refine g_callVEv (Cl := RX0) (T := TX0) (N := 18) (ci := 0) (q0 := 0) (na := 1) C dX0_turnStandIn_2 (c_needWord hl (eG E) σ τ o _ (nI_pos (show a < 2 ^ 31 by omega)) (by rw [h3]; exact nI_lt (by omega) (by omega))) gX0_turnStandIn_X0_needWord rfl rfl (by decide +kernel) rfl rfl rfl (Nat.le_of_ble_eq_true rfl) (by rw [R]; exact ⟨by decide, by decide⟩) (by rw [R]; exact ⟨by decide, by decide⟩) ?_
  refine g_aload_n C dX0_turnStandIn_5 rfl rfl ?_
  refine g_iload_n C dX0_turnStandIn_6 rfl rfl ?_
  refine g_callVEv (Cl := RX0) (T := TX0) (N := 18) (ci := 0) (q0 := 0) (na := 1) C dX0_turnStandIn_7 (c_needWord hl (eG E) σ τ o _ (nI_pos (show b < 2 ^ 31 by omega)) (by rw [h3]; exact nI_lt (by omega) (by omega))) gX0_turnStandIn_X0_needWord rfl rfl (by decide +kernel) rfl rfl rfl (Nat.le_of_ble_eq_true rfl) (by rw [R]; exact ⟨by decide, by decide⟩) (by rw [R]; exact ⟨by decide, by decide⟩) ?_
  refine g_iload_n C dX0_turnStandIn_10 rfl rfl ?_
  refine g_iload_n C dX0_turnStandIn_11 rfl rfl ?_
  refine g_icmp_ne (tgt := 25) C dX0_turnStandIn_12 (by decide) (fun c_12 => ?_) (fun c_12 => ?_)
  · refine g_aload_n C dX0_turnStandIn_25 rfl rfl ?_
    refine g_getX C 1 dX0_turnStandIn_26 mwX0_turnStandIn_inX (by decide) mwX0_turnStandIn_f13 rfl rfl ?_
    refine g_iload_n C dX0_turnStandIn_29 rfl rfl ?_
    refine g_dup2 C dX0_turnStandIn_30 rfl rfl ?_
    refine g_ialdN C (a) dX0_turnStandIn_31 rfl rfl (show a < 12 by omega) (by decide) ?_
    refine g_iconst (v := 1) C dX0_turnStandIn_32 (by decide) ?_
    refine g_iload_n C dX0_turnStandIn_33 rfl rfl ?_
    refine g_ishl C dX0_turnStandIn_34 ?_
    refine g_ixor C dX0_turnStandIn_35 ?_
    refine g_iastN C (a) dX0_turnStandIn_36 rfl rfl (show a < 12 by omega) (by decide) rfl ?_
    refine g_aload_n C dX0_turnStandIn_37 rfl rfl ?_
    refine g_getX C 1 dX0_turnStandIn_38 mwX0_turnStandIn_inX (by decide) mwX0_turnStandIn_f13 rfl rfl ?_
    refine g_iload_n C dX0_turnStandIn_41 rfl rfl ?_
    refine g_ialdN C (a) dX0_turnStandIn_42 rfl rfl (show a < 12 by omega) (by decide) ?_
    refine g_topi (show _ = (τ 1 a ^^^ ((1 : Int32) <<< (nI b &&& 31))) by rw [uT_eq, upd_eq]) ?_
    refine g_iload_n C dX0_turnStandIn_43 rfl rfl ?_
    refine g_callSEi (na := 2) C dX0_turnStandIn_44 (c_hasBit hl (eG E) σ (uT τ 1 a (τ 1 a ^^^ ((1 : Int32) <<< (nI b &&& 31)))) o _ _) gX0_turnStandIn_X0_hasBit rfl rfl (by decide +kernel) rfl (Nat.le_of_ble_eq_true rfl) (by rw [R]; exact ⟨by decide, by decide⟩) (by rw [R]; exact ⟨by decide, by decide⟩) ?_
    exact g_zret C F dX0_turnStandIn_47 (hb_01 _ _) (by decide) (by decide) ⟨rfl, rfl, rfl, rfl⟩
  · exact absurd ((nI_eq (show a < 2 ^ 31 by omega) (show b < 2 ^ 31 by omega)).mp c_12) hne
set_option maxRecDepth 100000 in
theorem mwX0_turnJoin_inX : ∀ w ∈ wsX00, w ∈ wsX0_turnJoin := by decide +kernel
set_option maxRecDepth 100000 in
theorem mwX0_turnJoin_f16 : Cond.fieldLink RX0 16 "TelegraphPrices" "joins" "[I" ∈ wsX0_turnJoin := by decide +kernel
set_option maxHeartbeats 4000000 in
set_option maxRecDepth 100000 in
theorem c_turnJoin {l : Launch} (hl : l.stackTraces = false) (Γ : gG) (σ : gS) (τ : gT) (o : gO) (nw nl lm : Nat) (a b : Nat) (I : IX σ τ nw nl lm) (ha : a < nw) (hb9 : b < nw) : Ct l yX0_turnJoin wsX0_turnJoin 2 64 0 0 [.ref (Γ.2.1 100), .int (nI a), .int (nI b)] Γ σ τ o (pE (some (.int (hb (τ 2 a ^^^ ((1 : Int32) <<< (nI b &&& 31))) (nI b)))) σ (uT τ 2 a (τ 2 a ^^^ ((1 : Int32) <<< (nI b &&& 31)))) o) (noX) := by
  refine ct_of hl (by decide +kernel) rfl (Nat.le_of_ble_eq_true rfl) ?_
  intro E C F T hΓ hL R
  subst hΓ
  subst hL
  show G E 0 0 0 [(0, .ref ((eG E).2.1 100)), (1, .int (nI a)), (2, .int (nI b))] [] σ τ o
  have hnw := Iv_nw I
  have hnl := Iv_nl I
  have h3 : σ 3 = nI nw := Iv_h3 I
  have h9 : σ 9 = nI nl := Iv_h9 I
  have h4 : ¬ σ 4 = 0 := Iv_ne I
  refine g_aload_n C dX0_turnJoin_0 rfl rfl ?_
  refine g_iload_n C dX0_turnJoin_1 rfl rfl ?_
  refine g_callVEv (Cl := RX0) (T := TX0) (N := 18) (ci := 0) (q0 := 0) (na := 1) C dX0_turnJoin_2 (c_needWord hl (eG E) σ τ o _ (nI_pos (show a < 2 ^ 31 by omega)) (by rw [h3]; exact nI_lt (by omega) (by omega))) gX0_turnJoin_X0_needWord rfl rfl (by decide +kernel) rfl rfl rfl (Nat.le_of_ble_eq_true rfl) (by rw [R]; exact ⟨by decide, by decide⟩) (by rw [R]; exact ⟨by decide, by decide⟩) ?_
  refine g_aload_n C dX0_turnJoin_5 rfl rfl ?_
  refine g_iload_n C dX0_turnJoin_6 rfl rfl ?_
  refine g_callVEv (Cl := RX0) (T := TX0) (N := 18) (ci := 0) (q0 := 0) (na := 1) C dX0_turnJoin_7 (c_needWord hl (eG E) σ τ o _ (nI_pos (show b < 2 ^ 31 by omega)) (by rw [h3]; exact nI_lt (by omega) (by omega))) gX0_turnJoin_X0_needWord rfl rfl (by decide +kernel) rfl rfl rfl (Nat.le_of_ble_eq_true rfl) (by rw [R]; exact ⟨by decide, by decide⟩) (by rw [R]; exact ⟨by decide, by decide⟩) ?_
  refine g_aload_n C dX0_turnJoin_10 rfl rfl ?_
  refine g_getX C 2 dX0_turnJoin_11 mwX0_turnJoin_inX (by decide) mwX0_turnJoin_f16 rfl rfl ?_
  refine g_iload_n C dX0_turnJoin_14 rfl rfl ?_
  refine g_dup2 C dX0_turnJoin_15 rfl rfl ?_
  refine g_ialdN C (a) dX0_turnJoin_16 rfl rfl (show a < 12 by omega) (by decide) ?_
  refine g_iconst (v := 1) C dX0_turnJoin_17 (by decide) ?_
  refine g_iload_n C dX0_turnJoin_18 rfl rfl ?_
  refine g_ishl C dX0_turnJoin_19 ?_
  refine g_ixor C dX0_turnJoin_20 ?_
  refine g_iastN C (a) dX0_turnJoin_21 rfl rfl (show a < 12 by omega) (by decide) rfl ?_
  refine g_aload_n C dX0_turnJoin_22 rfl rfl ?_
  refine g_getX C 2 dX0_turnJoin_23 mwX0_turnJoin_inX (by decide) mwX0_turnJoin_f16 rfl rfl ?_
  refine g_iload_n C dX0_turnJoin_26 rfl rfl ?_
  refine g_ialdN C (a) dX0_turnJoin_27 rfl rfl (show a < 12 by omega) (by decide) ?_
  refine g_topi (show _ = (τ 2 a ^^^ ((1 : Int32) <<< (nI b &&& 31))) by rw [uT_eq, upd_eq]) ?_
  refine g_iload_n C dX0_turnJoin_28 rfl rfl ?_
  refine g_callSEi (na := 2) C dX0_turnJoin_29 (c_hasBit hl (eG E) σ (uT τ 2 a (τ 2 a ^^^ ((1 : Int32) <<< (nI b &&& 31)))) o _ _) gX0_turnJoin_X0_hasBit rfl rfl (by decide +kernel) rfl (Nat.le_of_ble_eq_true rfl) (by rw [R]; exact ⟨by decide, by decide⟩) (by rw [R]; exact ⟨by decide, by decide⟩) ?_
  exact g_zret C F dX0_turnJoin_32 (hb_01 _ _) (by decide) (by decide) ⟨rfl, rfl, rfl, rfl⟩
set_option maxRecDepth 100000 in
theorem mwX0_turnStandIn_k66 : Cond.classLink RX0 66 "java/lang/IllegalArgumentException" ∈ wsX0_turnStandIn := by decide +kernel
set_option maxRecDepth 100000 in
theorem mwX0_turnStandIn_n66 : Cond.initialized "java/lang/IllegalArgumentException" ∈ wsX0_turnStandIn := by decide +kernel
set_option maxRecDepth 100000 in
theorem mwX0_turnStandIn_a66 : ∀ w ∈ (vx_atS RX0 70 "java/lang/IllegalArgumentException" ["java/lang/RuntimeException", "java/lang/Exception"]).filter goodWord, w ∈ wsX0_turnStandIn := by decide +kernel
set_option maxRecDepth 100000 in
theorem mwX0_write_inX : ∀ w ∈ wsX00, w ∈ wsX0_write := by decide +kernel
set_option maxRecDepth 100000 in
theorem mwX0_write_f39 : Cond.fieldLink RX0 39 "TelegraphPrices" "length" "I" ∈ wsX0_write := by decide +kernel
set_option maxRecDepth 100000 in
theorem mwX0_write_f32 : Cond.fieldLink RX0 32 "TelegraphPrices" "telegram" "[I" ∈ wsX0_write := by decide +kernel
set_option maxRecDepth 100000 in
theorem mwX0_write_f35 : Cond.fieldLink RX0 35 "TelegraphPrices" "joined" "[Z" ∈ wsX0_write := by decide +kernel
set_option maxHeartbeats 4000000 in
set_option maxRecDepth 100000 in
theorem c_write {l : Launch} (hl : l.stackTraces = false) (Γ : gG) (σ : gS) (τ : gT) (o : gO) (nw nl lm : Nat) (a : Nat) (I : IX σ τ nw nl lm) (ha : a < nw) (h16 : nl < 16) : Ct l yX0_write wsX0_write 2 64 0 0 [.ref (Γ.2.1 100), .int (nI a)] Γ σ τ o (pE (some (.int (nI (nl + 1)))) (uS σ 9 (nI (nl + 1))) (uT (uT τ 7 nl (nI a)) 8 nl 0) o) (noX) := by
  refine ct_of hl (by decide +kernel) rfl (Nat.le_of_ble_eq_true rfl) ?_
  intro E C F T hΓ hL R
  subst hΓ
  subst hL
  show G E 0 0 0 [(0, .ref ((eG E).2.1 100)), (1, .int (nI a))] [] σ τ o
  have hnw := Iv_nw I
  have hnl := Iv_nl I
  have h3 : σ 3 = nI nw := Iv_h3 I
  have h9 : σ 9 = nI nl := Iv_h9 I
  have h4 : ¬ σ 4 = 0 := Iv_ne I
  refine g_aload_n C dX0_write_0 rfl rfl ?_
  refine g_iload_n C dX0_write_1 rfl rfl ?_
  refine g_callVEv (Cl := RX0) (T := TX0) (N := 18) (ci := 0) (q0 := 0) (na := 1) C dX0_write_2 (c_needWord hl (eG E) σ τ o _ (nI_pos (show a < 2 ^ 31 by omega)) (by rw [h3]; exact nI_lt (by omega) (by omega))) gX0_write_X0_needWord rfl rfl (by decide +kernel) rfl rfl rfl (Nat.le_of_ble_eq_true rfl) (by rw [R]; exact ⟨by decide, by decide⟩) (by rw [R]; exact ⟨by decide, by decide⟩) ?_
  refine g_aload_n C dX0_write_5 rfl rfl ?_
  refine g_getX C 9 dX0_write_6 mwX0_write_inX (by decide) mwX0_write_f39 rfl rfl ?_
  refine g_bipush (v := 16) C dX0_write_9 (by decide) ?_
  refine g_icmp_lt (tgt := 24) C dX0_write_11 (by decide) (fun c_11 => ?_) (fun c_11 => ?_)
  · refine g_aload_n C dX0_write_24 rfl rfl ?_
    refine g_getX C 7 dX0_write_25 mwX0_write_inX (by decide) mwX0_write_f32 rfl rfl ?_
    refine g_aload_n C dX0_write_28 rfl rfl ?_
    refine g_getX C 9 dX0_write_29 mwX0_write_inX (by decide) mwX0_write_f39 rfl rfl ?_
    refine g_topi h9 ?_
    refine g_iload_n C dX0_write_32 rfl rfl ?_
    refine g_iastN C (nl) dX0_write_33 rfl rfl h16 (by decide) rfl ?_
    refine g_aload_n C dX0_write_34 rfl rfl ?_
    refine g_getX C 8 dX0_write_35 mwX0_write_inX (by decide) mwX0_write_f35 rfl rfl ?_
    refine g_aload_n C dX0_write_38 rfl rfl ?_
    refine g_getX C 9 dX0_write_39 mwX0_write_inX (by decide) mwX0_write_f39 rfl rfl ?_
    refine g_topi h9 ?_
    refine g_iconst (v := 0) C dX0_write_42 (by decide) ?_
    refine g_zastN C (nl) dX0_write_43 rfl rfl h16 (by decide) (Or.inl rfl) rfl ?_
    refine g_aload_n C dX0_write_44 rfl rfl ?_
    refine g_dup C dX0_write_45 rfl ?_
    refine g_getX C 9 dX0_write_46 mwX0_write_inX (by decide) mwX0_write_f39 rfl rfl ?_
    refine g_iconst (v := 1) C dX0_write_49 (by decide) ?_
    refine g_iadd C dX0_write_50 ?_
    refine g_topi (show _ = nI (nl + 1) by rw [h9]; exact nI_1 nl) ?_
    refine g_putX C 9 dX0_write_51 mwX0_write_inX (by decide) mwX0_write_f39 rfl rfl (by decide +kernel) rfl ?_
    refine g_aload_n C dX0_write_54 rfl rfl ?_
    refine g_getX C 9 dX0_write_55 mwX0_write_inX (by decide) mwX0_write_f39 rfl rfl ?_
    exact g_iret C F dX0_write_58 (by decide) (by decide) ⟨rfl, rfl, rfl, rfl⟩
  · exact absurd (by rw [h9]; exact nI_lt h16 (by decide)) c_11
set_option maxRecDepth 100000 in
theorem mwX0_write_k73 : Cond.classLink RX0 73 "java/lang/IllegalStateException" ∈ wsX0_write := by decide +kernel
set_option maxRecDepth 100000 in
theorem mwX0_write_n73 : Cond.initialized "java/lang/IllegalStateException" ∈ wsX0_write := by decide +kernel
set_option maxRecDepth 100000 in
theorem mwX0_write_a73 : ∀ w ∈ (vx_atS RX0 77 "java/lang/IllegalStateException" ["java/lang/RuntimeException", "java/lang/Exception"]).filter goodWord, w ∈ wsX0_write := by decide +kernel
set_option maxRecDepth 100000 in
theorem mwX0_send_inX : ∀ w ∈ wsX00, w ∈ wsX0_send := by decide +kernel
set_option maxRecDepth 100000 in
theorem mwX0_send_f39 : Cond.fieldLink RX0 39 "TelegraphPrices" "length" "I" ∈ wsX0_send := by decide +kernel
set_option maxRecDepth 100000 in
theorem mwX0_send_f42 : Cond.fieldLink RX0 42 "TelegraphPrices" "sent" "I" ∈ wsX0_send := by decide +kernel
set_option maxRecDepth 100000 in
theorem mwX0_send_f45 : Cond.fieldLink RX0 45 "TelegraphPrices" "earned" "I" ∈ wsX0_send := by decide +kernel
set_option maxHeartbeats 4000000 in
set_option maxRecDepth 100000 in
theorem c_send {l : Launch} (hl : l.stackTraces = false) (Γ : gG) (σ : gS) (τ : gT) (o : gO) (nw nl lm : Nat) (z : Int32) (I : IX σ τ nw nl lm) (hz : ¬ z < 0 ∧ z < 4) (h0 : nl ≠ 0) : Ct l yX0_send wsX0_send 6 192 0 0 [.ref (Γ.2.1 100), .int z] Γ σ τ o (pE (some (.int (CTx σ τ nl * σ 6 * (z + 2) / 2))) (uS (uS (uS σ 10 (σ 10 + 1)) 11 (σ 11 + CTx σ τ nl * σ 6 * (z + 2) / 2)) 9 0) τ o) (noX) := by
  refine ct_of hl (by decide +kernel) rfl (Nat.le_of_ble_eq_true rfl) ?_
  intro E C F T hΓ hL R
  subst hΓ
  subst hL
  show G E 0 0 0 [(0, .ref ((eG E).2.1 100)), (1, .int z)] [] σ τ o
  have hnw := Iv_nw I
  have hnl := Iv_nl I
  have h3 : σ 3 = nI nw := Iv_h3 I
  have h9 : σ 9 = nI nl := Iv_h9 I
  have h4 : ¬ σ 4 = 0 := Iv_ne I
  refine g_aload_n C dX0_send_0 rfl rfl ?_
  refine g_iload_n C dX0_send_1 rfl rfl ?_
  refine g_callVEi (Cl := RX0) (T := TX0) (N := 18) (ci := 0) (q0 := 0) (na := 1) C dX0_send_2 (c_priceTo hl (eG E) σ τ o nw nl lm z I hz) gX0_send_X0_priceTo rfl rfl (by decide +kernel) rfl rfl rfl (Nat.le_of_ble_eq_true rfl) (by rw [R]; exact ⟨by decide, by decide⟩) (by rw [R]; exact ⟨by decide, by decide⟩) ?_
  refine g_istore_n C [(2, _), (0, _), (1, _)] dX0_send_5 rfl (by decide) rfl ?_
  refine g_aload_n C dX0_send_6 rfl rfl ?_
  refine g_getX C 9 dX0_send_7 mwX0_send_inX (by decide) mwX0_send_f39 rfl rfl ?_
  refine g_if_ne (tgt := 23) C dX0_send_10 (by decide) (fun c_10 => ?_) (fun c_10 => ?_)
  · refine g_aload_n C dX0_send_23 rfl rfl ?_
    refine g_dup C dX0_send_24 rfl ?_
    refine g_getX C 10 dX0_send_25 mwX0_send_inX (by decide) mwX0_send_f42 rfl rfl ?_
    refine g_iconst (v := 1) C dX0_send_28 (by decide) ?_
    refine g_iadd C dX0_send_29 ?_
    refine g_putX C 10 dX0_send_30 mwX0_send_inX (by decide) mwX0_send_f42 rfl rfl (by decide +kernel) rfl ?_
    refine g_aload_n C dX0_send_33 rfl rfl ?_
    refine g_dup C dX0_send_34 rfl ?_
    refine g_getX C 11 dX0_send_35 mwX0_send_inX (by decide) mwX0_send_f45 rfl rfl ?_
    refine g_iload_n C dX0_send_38 rfl rfl ?_
    refine g_iadd C dX0_send_39 ?_
    refine g_putX C 11 dX0_send_40 mwX0_send_inX (by decide) mwX0_send_f45 rfl rfl (by decide +kernel) rfl ?_
    refine g_aload_n C dX0_send_43 rfl rfl ?_
    refine g_iconst (v := 0) C dX0_send_44 (by decide) ?_
    refine g_putX C 9 dX0_send_45 mwX0_send_inX (by decide) mwX0_send_f39 rfl rfl (by decide +kernel) rfl ?_
    refine g_iload_n C dX0_send_48 rfl rfl ?_
    exact g_iret C F dX0_send_49 (by decide) (by decide) ⟨rfl, rfl, rfl, rfl⟩
  · exact absurd (by rw [← h9]; exact c_10) (nI_ne0 (Nat.pos_of_ne_zero h0) (by omega))
set_option maxRecDepth 100000 in
theorem mwX0_send_k73 : Cond.classLink RX0 73 "java/lang/IllegalStateException" ∈ wsX0_send := by decide +kernel
set_option maxRecDepth 100000 in
theorem mwX0_send_n73 : Cond.initialized "java/lang/IllegalStateException" ∈ wsX0_send := by decide +kernel
set_option maxRecDepth 100000 in
theorem mwX0_send_a73 : ∀ w ∈ (vx_atS RX0 77 "java/lang/IllegalStateException" ["java/lang/RuntimeException", "java/lang/Exception"]).filter goodWord, w ∈ wsX0_send := by decide +kernel
/-- may the place be joined with the next one -/
def cbj (J Tg Jd : Nat → Int32) (p : Nat) : Int32 := if (p ≠ 0 ∧ Jd (p - 1) ≠ 0) ∨ Jd (p + 1) ≠ 0 then 0 else hb (J (Tg p).toNatClampNeg) (Tg (p + 1))
theorem cbj_01 (J Tg Jd : Nat → Int32) (p : Nat) : cbj J Tg Jd p = 0 ∨ cbj J Tg Jd p = 1 := by
  unfold cbj
  split
  · exact Or.inl rfl
  · exact hb_01 _ _
theorem nI_m1 {p : Nat} (h : p ≠ 0) : nI p - 1 = nI (p - 1) := by
  obtain ⟨q, rfl⟩ : ∃ q, p = q + 1 := ⟨p - 1, by omega⟩
  exact nI_pred q
set_option maxRecDepth 100000 in
theorem mwX0_couldBeJoined_inX : ∀ w ∈ wsX00, w ∈ wsX0_couldBeJoined := by decide +kernel
set_option maxRecDepth 100000 in
theorem mwX0_couldBeJoined_f35 : Cond.fieldLink RX0 35 "TelegraphPrices" "joined" "[Z" ∈ wsX0_couldBeJoined := by decide +kernel
set_option maxRecDepth 100000 in
theorem mwX0_couldBeJoined_f16 : Cond.fieldLink RX0 16 "TelegraphPrices" "joins" "[I" ∈ wsX0_couldBeJoined := by decide +kernel
set_option maxRecDepth 100000 in
theorem mwX0_couldBeJoined_f32 : Cond.fieldLink RX0 32 "TelegraphPrices" "telegram" "[I" ∈ wsX0_couldBeJoined := by decide +kernel
set_option maxHeartbeats 4000000 in
set_option maxRecDepth 100000 in
theorem c_couldBe {l : Launch} (hl : l.stackTraces = false) (Γ : gG) (σ : gS) (τ : gT) (o : gO) (nw nl lm : Nat) (p : Nat) (I : IX σ τ nw nl lm) (hp : p + 1 < nl) : Ct l yX0_couldBeJoined wsX0_couldBeJoined 2 64 0 0 [.ref (Γ.2.1 100), .int (nI p)] Γ σ τ o (pE (some (.int (cbj (τ 2) (τ 7) (τ 8) p))) σ τ o) (noX) := by
  refine ct_of hl (by decide +kernel) rfl (Nat.le_of_ble_eq_true rfl) ?_
  intro E C F T hΓ hL R
  subst hΓ
  subst hL
  show G E 0 0 0 [(0, .ref ((eG E).2.1 100)), (1, .int (nI p))] [] σ τ o
  have hnw := Iv_nw I
  have hnl := Iv_nl I
  have h3 : σ 3 = nI nw := Iv_h3 I
  have h9 : σ 9 = nI nl := Iv_h9 I
  have h4 : ¬ σ 4 = 0 := Iv_ne I
  refine g_iload_n C dX0_couldBeJoined_0 rfl rfl ?_
  refine g_if_le (tgt := 15) C dX0_couldBeJoined_1 (by decide) (fun c_1 => ?_) (fun c_1 => ?_)
  · have hpr : ¬ (p ≠ 0 ∧ τ 8 (p - 1) ≠ 0) := fun z => absurd c_1 (fun y => nI_nle (Nat.pos_of_ne_zero z.1) (by omega) y)
    refine g_aload_n C dX0_couldBeJoined_15 rfl rfl ?_
    refine g_getX C 8 dX0_couldBeJoined_16 mwX0_couldBeJoined_inX (by decide) mwX0_couldBeJoined_f35 rfl rfl ?_
    refine g_iload_n C dX0_couldBeJoined_19 rfl rfl ?_
    refine g_iconst (v := 1) C dX0_couldBeJoined_20 (by decide) ?_
    refine g_iadd C dX0_couldBeJoined_21 ?_
    refine g_zaldN C (p + 1) dX0_couldBeJoined_22 rfl (nI_1 p) (show p + 1 < 16 by omega) (by decide) ?_
    refine g_if_eq (tgt := 30) C dX0_couldBeJoined_23 (by decide) (fun c_23 => ?_) (fun c_23 => ?_)
    · have e0 : cbj (τ 2) (τ 7) (τ 8) p = hb (τ 2 (τ 7 p).toNatClampNeg) (τ 7 (p + 1)) := by
        unfold cbj
        rw [if_neg (fun z => z.elim hpr (fun y => y c_23))]
      refine g_iconst (v := 0) C dX0_couldBeJoined_30 (by decide) ?_
      refine g_istore_n C [(2, _), (0, _), (1, _)] dX0_couldBeJoined_31 rfl (by decide) rfl ?_
      refine g_iload_n C dX0_couldBeJoined_32 rfl rfl ?_
      refine g_if_ne (tgt := 65) C dX0_couldBeJoined_33 (by decide) (fun c_33 => ?_) (fun c_33 => ?_)
      · exact absurd rfl c_33
      · refine g_aload_n C dX0_couldBeJoined_36 rfl rfl ?_
        refine g_getX C 2 dX0_couldBeJoined_37 mwX0_couldBeJoined_inX (by decide) mwX0_couldBeJoined_f16 rfl rfl ?_
        refine g_aload_n C dX0_couldBeJoined_40 rfl rfl ?_
        refine g_getX C 7 dX0_couldBeJoined_41 mwX0_couldBeJoined_inX (by decide) mwX0_couldBeJoined_f32 rfl rfl ?_
        refine g_iload_n C dX0_couldBeJoined_44 rfl rfl ?_
        refine g_ialdN C (p) dX0_couldBeJoined_45 rfl rfl (show p < 16 by omega) (by decide) ?_
        refine g_iald C dX0_couldBeJoined_46 rfl (Iv_tin I (show p < nl by omega)) ?_
        refine g_aload_n C dX0_couldBeJoined_47 rfl rfl ?_
        refine g_getX C 7 dX0_couldBeJoined_48 mwX0_couldBeJoined_inX (by decide) mwX0_couldBeJoined_f32 rfl rfl ?_
        refine g_iload_n C dX0_couldBeJoined_51 rfl rfl ?_
        refine g_iconst (v := 1) C dX0_couldBeJoined_52 (by decide) ?_
        refine g_iadd C dX0_couldBeJoined_53 ?_
        refine g_ialdN C (p + 1) dX0_couldBeJoined_54 rfl (nI_1 p) (show p + 1 < 16 by omega) (by decide) ?_
        refine g_callSEi (na := 2) C dX0_couldBeJoined_55 (c_hasBit hl (eG E) σ τ o _ _) gX0_couldBeJoined_X0_hasBit rfl rfl (by decide +kernel) rfl (Nat.le_of_ble_eq_true rfl) (by rw [R]; exact ⟨by decide, by decide⟩) (by rw [R]; exact ⟨by decide, by decide⟩) ?_
        refine g_if_eq (tgt := 65) C dX0_couldBeJoined_58 (by decide) (fun c_58 => ?_) (fun c_58 => ?_)
        · have e : cbj (τ 2) (τ 7) (τ 8) p = 0 := by rw [e0]; exact c_58
          refine g_iconst (v := 0) C dX0_couldBeJoined_65 (by decide) ?_
          exact g_zret C F dX0_couldBeJoined_66 (by first | exact Or.inl rfl | exact Or.inr rfl) (by decide) (by decide) ⟨by rw [e], rfl, rfl, rfl⟩
        · have e : cbj (τ 2) (τ 7) (τ 8) p = 1 := by rw [e0]; exact (hb_01 _ _).resolve_left c_58
          refine g_iconst (v := 1) C dX0_couldBeJoined_61 (by decide) ?_
          refine g_goto (tgt := 66) C dX0_couldBeJoined_62 (by decide) ?_
          exact g_zret C F dX0_couldBeJoined_66 (by first | exact Or.inl rfl | exact Or.inr rfl) (by decide) (by decide) ⟨by rw [e], rfl, rfl, rfl⟩
    · have e : cbj (τ 2) (τ 7) (τ 8) p = 0 := by
        unfold cbj
        rw [if_pos (Or.inr c_23)]
      refine g_iconst (v := 1) C dX0_couldBeJoined_26 (by decide) ?_
      refine g_goto (tgt := 31) C dX0_couldBeJoined_27 (by decide) ?_
      refine g_istore_n C [(2, _), (0, _), (1, _)] dX0_couldBeJoined_31 rfl (by decide) rfl ?_
      refine g_iload_n C dX0_couldBeJoined_32 rfl rfl ?_
      refine g_if_ne (tgt := 65) C dX0_couldBeJoined_33 (by decide) (fun c_33 => ?_) (fun c_33 => ?_)
      · refine g_iconst (v := 0) C dX0_couldBeJoined_65 (by decide) ?_
        exact g_zret C F dX0_couldBeJoined_66 (by first | exact Or.inl rfl | exact Or.inr rfl) (by decide) (by decide) ⟨by rw [e], rfl, rfl, rfl⟩
      · exact absurd c_33 (by decide)
  · have hp0 : p ≠ 0 := fun z => c_1 (by rw [z]; decide)
    refine g_aload_n C dX0_couldBeJoined_4 rfl rfl ?_
    refine g_getX C 8 dX0_couldBeJoined_5 mwX0_couldBeJoined_inX (by decide) mwX0_couldBeJoined_f35 rfl rfl ?_
    refine g_iload_n C dX0_couldBeJoined_8 rfl rfl ?_
    refine g_iconst (v := 1) C dX0_couldBeJoined_9 (by decide) ?_
    refine g_isub C dX0_couldBeJoined_10 ?_
    refine g_zaldN C (p - 1) dX0_couldBeJoined_11 rfl (nI_m1 hp0) (show p - 1 < 16 by omega) (by decide) ?_
    refine g_if_ne (tgt := 26) C dX0_couldBeJoined_12 (by decide) (fun c_12 => ?_) (fun c_12 => ?_)
    · have e : cbj (τ 2) (τ 7) (τ 8) p = 0 := by
        unfold cbj
        rw [if_pos (Or.inl ⟨hp0, c_12⟩)]
      refine g_iconst (v := 1) C dX0_couldBeJoined_26 (by decide) ?_
      refine g_goto (tgt := 31) C dX0_couldBeJoined_27 (by decide) ?_
      refine g_istore_n C [(2, _), (0, _), (1, _)] dX0_couldBeJoined_31 rfl (by decide) rfl ?_
      refine g_iload_n C dX0_couldBeJoined_32 rfl rfl ?_
      refine g_if_ne (tgt := 65) C dX0_couldBeJoined_33 (by decide) (fun c_33 => ?_) (fun c_33 => ?_)
      · refine g_iconst (v := 0) C dX0_couldBeJoined_65 (by decide) ?_
        exact g_zret C F dX0_couldBeJoined_66 (by first | exact Or.inl rfl | exact Or.inr rfl) (by decide) (by decide) ⟨by rw [e], rfl, rfl, rfl⟩
      · exact absurd c_33 (by decide)
    · have hpr : ¬ (p ≠ 0 ∧ τ 8 (p - 1) ≠ 0) := fun z => z.2 c_12
      refine g_aload_n C dX0_couldBeJoined_15 rfl rfl ?_
      refine g_getX C 8 dX0_couldBeJoined_16 mwX0_couldBeJoined_inX (by decide) mwX0_couldBeJoined_f35 rfl rfl ?_
      refine g_iload_n C dX0_couldBeJoined_19 rfl rfl ?_
      refine g_iconst (v := 1) C dX0_couldBeJoined_20 (by decide) ?_
      refine g_iadd C dX0_couldBeJoined_21 ?_
      refine g_zaldN C (p + 1) dX0_couldBeJoined_22 rfl (nI_1 p) (show p + 1 < 16 by omega) (by decide) ?_
      refine g_if_eq (tgt := 30) C dX0_couldBeJoined_23 (by decide) (fun c_23 => ?_) (fun c_23 => ?_)
      · have e0 : cbj (τ 2) (τ 7) (τ 8) p = hb (τ 2 (τ 7 p).toNatClampNeg) (τ 7 (p + 1)) := by
          unfold cbj
          rw [if_neg (fun z => z.elim hpr (fun y => y c_23))]
        refine g_iconst (v := 0) C dX0_couldBeJoined_30 (by decide) ?_
        refine g_istore_n C [(2, _), (0, _), (1, _)] dX0_couldBeJoined_31 rfl (by decide) rfl ?_
        refine g_iload_n C dX0_couldBeJoined_32 rfl rfl ?_
        refine g_if_ne (tgt := 65) C dX0_couldBeJoined_33 (by decide) (fun c_33 => ?_) (fun c_33 => ?_)
        · exact absurd rfl c_33
        · refine g_aload_n C dX0_couldBeJoined_36 rfl rfl ?_
          refine g_getX C 2 dX0_couldBeJoined_37 mwX0_couldBeJoined_inX (by decide) mwX0_couldBeJoined_f16 rfl rfl ?_
          refine g_aload_n C dX0_couldBeJoined_40 rfl rfl ?_
          refine g_getX C 7 dX0_couldBeJoined_41 mwX0_couldBeJoined_inX (by decide) mwX0_couldBeJoined_f32 rfl rfl ?_
          refine g_iload_n C dX0_couldBeJoined_44 rfl rfl ?_
          refine g_ialdN C (p) dX0_couldBeJoined_45 rfl rfl (show p < 16 by omega) (by decide) ?_
          refine g_iald C dX0_couldBeJoined_46 rfl (Iv_tin I (show p < nl by omega)) ?_
          refine g_aload_n C dX0_couldBeJoined_47 rfl rfl ?_
          refine g_getX C 7 dX0_couldBeJoined_48 mwX0_couldBeJoined_inX (by decide) mwX0_couldBeJoined_f32 rfl rfl ?_
          refine g_iload_n C dX0_couldBeJoined_51 rfl rfl ?_
          refine g_iconst (v := 1) C dX0_couldBeJoined_52 (by decide) ?_
          refine g_iadd C dX0_couldBeJoined_53 ?_
          refine g_ialdN C (p + 1) dX0_couldBeJoined_54 rfl (nI_1 p) (show p + 1 < 16 by omega) (by decide) ?_
          refine g_callSEi (na := 2) C dX0_couldBeJoined_55 (c_hasBit hl (eG E) σ τ o _ _) gX0_couldBeJoined_X0_hasBit rfl rfl (by decide +kernel) rfl (Nat.le_of_ble_eq_true rfl) (by rw [R]; exact ⟨by decide, by decide⟩) (by rw [R]; exact ⟨by decide, by decide⟩) ?_
          refine g_if_eq (tgt := 65) C dX0_couldBeJoined_58 (by decide) (fun c_58 => ?_) (fun c_58 => ?_)
          · have e : cbj (τ 2) (τ 7) (τ 8) p = 0 := by rw [e0]; exact c_58
            refine g_iconst (v := 0) C dX0_couldBeJoined_65 (by decide) ?_
            exact g_zret C F dX0_couldBeJoined_66 (by first | exact Or.inl rfl | exact Or.inr rfl) (by decide) (by decide) ⟨by rw [e], rfl, rfl, rfl⟩
          · have e : cbj (τ 2) (τ 7) (τ 8) p = 1 := by rw [e0]; exact (hb_01 _ _).resolve_left c_58
            refine g_iconst (v := 1) C dX0_couldBeJoined_61 (by decide) ?_
            refine g_goto (tgt := 66) C dX0_couldBeJoined_62 (by decide) ?_
            exact g_zret C F dX0_couldBeJoined_66 (by first | exact Or.inl rfl | exact Or.inr rfl) (by decide) (by decide) ⟨by rw [e], rfl, rfl, rfl⟩
      · have e : cbj (τ 2) (τ 7) (τ 8) p = 0 := by
          unfold cbj
          rw [if_pos (Or.inr c_23)]
        refine g_iconst (v := 1) C dX0_couldBeJoined_26 (by decide) ?_
        refine g_goto (tgt := 31) C dX0_couldBeJoined_27 (by decide) ?_
        refine g_istore_n C [(2, _), (0, _), (1, _)] dX0_couldBeJoined_31 rfl (by decide) rfl ?_
        refine g_iload_n C dX0_couldBeJoined_32 rfl rfl ?_
        refine g_if_ne (tgt := 65) C dX0_couldBeJoined_33 (by decide) (fun c_33 => ?_) (fun c_33 => ?_)
        · refine g_iconst (v := 0) C dX0_couldBeJoined_65 (by decide) ?_
          exact g_zret C F dX0_couldBeJoined_66 (by first | exact Or.inl rfl | exact Or.inr rfl) (by decide) (by decide) ⟨by rw [e], rfl, rfl, rfl⟩
        · exact absurd c_33 (by decide)
set_option maxRecDepth 100000 in
theorem mwX0_turnJoined_inX : ∀ w ∈ wsX00, w ∈ wsX0_turnJoined := by decide +kernel
set_option maxRecDepth 100000 in
theorem mwX0_turnJoined_f35 : Cond.fieldLink RX0 35 "TelegraphPrices" "joined" "[Z" ∈ wsX0_turnJoined := by decide +kernel
set_option maxHeartbeats 4000000 in
set_option maxRecDepth 100000 in
theorem c_turnJoinedOff {l : Launch} (hl : l.stackTraces = false) (Γ : gG) (σ : gS) (τ : gT) (o : gO) (nw nl lm : Nat) (p : Nat) (I : IX σ τ nw nl lm) (hp : p + 1 < nl) (hj : ¬ τ 8 p = 0) : Ct l yX0_turnJoined wsX0_turnJoined 3 96 0 0 [.ref (Γ.2.1 100), .int (nI p)] Γ σ τ o (pE (some (.int 0)) σ (uT τ 8 p 0) o) (noX) := by
  refine ct_of hl (by decide +kernel) rfl (Nat.le_of_ble_eq_true rfl) ?_
  intro E C F T hΓ hL R
  subst hΓ
  subst hL
  show G E 0 0 0 [(0, .ref ((eG E).2.1 100)), (1, .int (nI p))] [] σ τ o
  have hnw := Iv_nw I
  have hnl := Iv_nl I
  have h3 : σ 3 = nI nw := Iv_h3 I
  have h9 : σ 9 = nI nl := Iv_h9 I
  have h4 : ¬ σ 4 = 0 := Iv_ne I
  refine g_aload_n C dX0_turnJoined_0 rfl rfl ?_
  refine g_iload_n C dX0_turnJoined_1 rfl rfl ?_
  refine g_callVEv (Cl := RX0) (T := TX0) (N := 18) (ci := 0) (q0 := 0) (na := 1) C dX0_turnJoined_2 (c_needPlace hl (eG E) σ τ o _ (nI_pos (show p < 2 ^ 31 by omega)) (by rw [h9]; exact nI_lt (by omega) (by omega))) gX0_turnJoined_X0_needPlace rfl rfl (by decide +kernel) rfl rfl rfl (Nat.le_of_ble_eq_true rfl) (by rw [R]; exact ⟨by decide, by decide⟩) (by rw [R]; exact ⟨by decide, by decide⟩) ?_
  refine g_aload_n C dX0_turnJoined_5 rfl rfl ?_
  refine g_iload_n C dX0_turnJoined_6 rfl rfl ?_
  refine g_iconst (v := 1) C dX0_turnJoined_7 (by decide) ?_
  refine g_iadd C dX0_turnJoined_8 ?_
  refine g_topi (nI_1 p) ?_
  refine g_callVEv (Cl := RX0) (T := TX0) (N := 18) (ci := 0) (q0 := 0) (na := 1) C dX0_turnJoined_9 (c_needPlace hl (eG E) σ τ o _ (nI_pos (show p + 1 < 2 ^ 31 by omega)) (by rw [h9]; exact nI_lt (by omega) (by omega))) gX0_turnJoined_X0_needPlace rfl rfl (by decide +kernel) rfl rfl rfl (Nat.le_of_ble_eq_true rfl) (by rw [R]; exact ⟨by decide, by decide⟩) (by rw [R]; exact ⟨by decide, by decide⟩) ?_
  refine g_aload_n C dX0_turnJoined_12 rfl rfl ?_
  refine g_getX C 8 dX0_turnJoined_13 mwX0_turnJoined_inX (by decide) mwX0_turnJoined_f35 rfl rfl ?_
  refine g_iload_n C dX0_turnJoined_16 rfl rfl ?_
  refine g_zaldN C (p) dX0_turnJoined_17 rfl rfl (show p < 16 by omega) (by decide) ?_
  refine g_if_ne (tgt := 39) C dX0_turnJoined_18 (by decide) (fun c_18 => ?_) (fun c_18 => ?_)
  · refine g_aload_n C dX0_turnJoined_39 rfl rfl ?_
    refine g_getX C 8 dX0_turnJoined_40 mwX0_turnJoined_inX (by decide) mwX0_turnJoined_f35 rfl rfl ?_
    refine g_iload_n C dX0_turnJoined_43 rfl rfl ?_
    refine g_aload_n C dX0_turnJoined_44 rfl rfl ?_
    refine g_getX C 8 dX0_turnJoined_45 mwX0_turnJoined_inX (by decide) mwX0_turnJoined_f35 rfl rfl ?_
    refine g_iload_n C dX0_turnJoined_48 rfl rfl ?_
    refine g_zaldN C (p) dX0_turnJoined_49 rfl rfl (show p < 16 by omega) (by decide) ?_
    refine g_if_ne (tgt := 57) C dX0_turnJoined_50 (by decide) (fun c_50 => ?_) (fun c_50 => ?_)
    · refine g_iconst (v := 0) C dX0_turnJoined_57 (by decide) ?_
      refine g_zastN C (p) dX0_turnJoined_58 rfl rfl (show p < 16 by omega) (by decide) (Or.inl rfl) rfl ?_
      refine g_aload_n C dX0_turnJoined_59 rfl rfl ?_
      refine g_getX C 8 dX0_turnJoined_60 mwX0_turnJoined_inX (by decide) mwX0_turnJoined_f35 rfl rfl ?_
      refine g_iload_n C dX0_turnJoined_63 rfl rfl ?_
      refine g_zaldN C (p) dX0_turnJoined_64 rfl rfl (show p < 16 by omega) (by decide) ?_
      refine g_topi (show _ = (0 : Int32) by rw [uT_eq, upd_eq]) ?_
      exact g_zret C F dX0_turnJoined_65 (Or.inl rfl) (by decide) (by decide) ⟨rfl, rfl, rfl, rfl⟩
    · exact absurd c_50 hj
  · exact absurd c_18 hj
set_option maxHeartbeats 4000000 in
set_option maxRecDepth 100000 in
theorem c_turnJoinedOn {l : Launch} (hl : l.stackTraces = false) (Γ : gG) (σ : gS) (τ : gT) (o : gO) (nw nl lm : Nat) (p : Nat) (I : IX σ τ nw nl lm) (hp : p + 1 < nl) (hj : τ 8 p = 0) (hc : ¬ cbj (τ 2) (τ 7) (τ 8) p = 0) : Ct l yX0_turnJoined wsX0_turnJoined 3 96 0 0 [.ref (Γ.2.1 100), .int (nI p)] Γ σ τ o (pE (some (.int 1)) σ (uT τ 8 p 1) o) (noX) := by
  refine ct_of hl (by decide +kernel) rfl (Nat.le_of_ble_eq_true rfl) ?_
  intro E C F T hΓ hL R
  subst hΓ
  subst hL
  show G E 0 0 0 [(0, .ref ((eG E).2.1 100)), (1, .int (nI p))] [] σ τ o
  have hnw := Iv_nw I
  have hnl := Iv_nl I
  have h3 : σ 3 = nI nw := Iv_h3 I
  have h9 : σ 9 = nI nl := Iv_h9 I
  have h4 : ¬ σ 4 = 0 := Iv_ne I
  refine g_aload_n C dX0_turnJoined_0 rfl rfl ?_
  refine g_iload_n C dX0_turnJoined_1 rfl rfl ?_
  refine g_callVEv (Cl := RX0) (T := TX0) (N := 18) (ci := 0) (q0 := 0) (na := 1) C dX0_turnJoined_2 (c_needPlace hl (eG E) σ τ o _ (nI_pos (show p < 2 ^ 31 by omega)) (by rw [h9]; exact nI_lt (by omega) (by omega))) gX0_turnJoined_X0_needPlace rfl rfl (by decide +kernel) rfl rfl rfl (Nat.le_of_ble_eq_true rfl) (by rw [R]; exact ⟨by decide, by decide⟩) (by rw [R]; exact ⟨by decide, by decide⟩) ?_
  refine g_aload_n C dX0_turnJoined_5 rfl rfl ?_
  refine g_iload_n C dX0_turnJoined_6 rfl rfl ?_
  refine g_iconst (v := 1) C dX0_turnJoined_7 (by decide) ?_
  refine g_iadd C dX0_turnJoined_8 ?_
  refine g_topi (nI_1 p) ?_
  refine g_callVEv (Cl := RX0) (T := TX0) (N := 18) (ci := 0) (q0 := 0) (na := 1) C dX0_turnJoined_9 (c_needPlace hl (eG E) σ τ o _ (nI_pos (show p + 1 < 2 ^ 31 by omega)) (by rw [h9]; exact nI_lt (by omega) (by omega))) gX0_turnJoined_X0_needPlace rfl rfl (by decide +kernel) rfl rfl rfl (Nat.le_of_ble_eq_true rfl) (by rw [R]; exact ⟨by decide, by decide⟩) (by rw [R]; exact ⟨by decide, by decide⟩) ?_
  refine g_aload_n C dX0_turnJoined_12 rfl rfl ?_
  refine g_getX C 8 dX0_turnJoined_13 mwX0_turnJoined_inX (by decide) mwX0_turnJoined_f35 rfl rfl ?_
  refine g_iload_n C dX0_turnJoined_16 rfl rfl ?_
  refine g_zaldN C (p) dX0_turnJoined_17 rfl rfl (show p < 16 by omega) (by decide) ?_
  refine g_if_ne (tgt := 39) C dX0_turnJoined_18 (by decide) (fun c_18 => ?_) (fun c_18 => ?_)
  · exact absurd hj c_18
  · refine g_aload_n C dX0_turnJoined_21 rfl rfl ?_
    refine g_iload_n C dX0_turnJoined_22 rfl rfl ?_
    refine g_callVEi (Cl := RX0) (T := TX0) (N := 18) (ci := 0) (q0 := 0) (na := 1) C dX0_turnJoined_23 (c_couldBe hl (eG E) σ τ o nw nl lm p I hp) gX0_turnJoined_X0_couldBeJoined rfl rfl (by decide +kernel) rfl rfl rfl (Nat.le_of_ble_eq_true rfl) (by rw [R]; exact ⟨by decide, by decide⟩) (by rw [R]; exact ⟨by decide, by decide⟩) ?_
    refine g_if_ne (tgt := 39) C dX0_turnJoined_26 (by decide) (fun c_26 => ?_) (fun c_26 => ?_)
    · refine g_aload_n C dX0_turnJoined_39 rfl rfl ?_
      refine g_getX C 8 dX0_turnJoined_40 mwX0_turnJoined_inX (by decide) mwX0_turnJoined_f35 rfl rfl ?_
      refine g_iload_n C dX0_turnJoined_43 rfl rfl ?_
      refine g_aload_n C dX0_turnJoined_44 rfl rfl ?_
      refine g_getX C 8 dX0_turnJoined_45 mwX0_turnJoined_inX (by decide) mwX0_turnJoined_f35 rfl rfl ?_
      refine g_iload_n C dX0_turnJoined_48 rfl rfl ?_
      refine g_zaldN C (p) dX0_turnJoined_49 rfl rfl (show p < 16 by omega) (by decide) ?_
      refine g_if_ne (tgt := 57) C dX0_turnJoined_50 (by decide) (fun c_50 => ?_) (fun c_50 => ?_)
      · exact absurd hj c_50
      · refine g_iconst (v := 1) C dX0_turnJoined_53 (by decide) ?_
        refine g_goto (tgt := 58) C dX0_turnJoined_54 (by decide) ?_
        refine g_zastN C (p) dX0_turnJoined_58 rfl rfl (show p < 16 by omega) (by decide) (Or.inr rfl) rfl ?_
        refine g_aload_n C dX0_turnJoined_59 rfl rfl ?_
        refine g_getX C 8 dX0_turnJoined_60 mwX0_turnJoined_inX (by decide) mwX0_turnJoined_f35 rfl rfl ?_
        refine g_iload_n C dX0_turnJoined_63 rfl rfl ?_
        refine g_zaldN C (p) dX0_turnJoined_64 rfl rfl (show p < 16 by omega) (by decide) ?_
        refine g_topi (show _ = (1 : Int32) by rw [uT_eq, upd_eq]) ?_
        exact g_zret C F dX0_turnJoined_65 (Or.inr rfl) (by decide) (by decide) ⟨rfl, rfl, rfl, rfl⟩
    · exact absurd c_26 hc
set_option maxRecDepth 100000 in
theorem mwX0_turnJoined_k73 : Cond.classLink RX0 73 "java/lang/IllegalStateException" ∈ wsX0_turnJoined := by decide +kernel
set_option maxRecDepth 100000 in
theorem mwX0_turnJoined_n73 : Cond.initialized "java/lang/IllegalStateException" ∈ wsX0_turnJoined := by decide +kernel
set_option maxRecDepth 100000 in
theorem mwX0_turnJoined_a73 : ∀ w ∈ (vx_atS RX0 77 "java/lang/IllegalStateException" ["java/lang/RuntimeException", "java/lang/Exception"]).filter goodWord, w ∈ wsX0_turnJoined := by decide +kernel
set_option maxRecDepth 100000 in
theorem mwX0_meanCost_inX : ∀ w ∈ wsX00, w ∈ wsX0_meanCost := by decide +kernel
set_option maxRecDepth 100000 in
theorem mwX0_meanCost_f42 : Cond.fieldLink RX0 42 "TelegraphPrices" "sent" "I" ∈ wsX0_meanCost := by decide +kernel
set_option maxHeartbeats 4000000 in
set_option maxRecDepth 100000 in
theorem c_meanCost0 {l : Launch} (hl : l.stackTraces = false) (Γ : gG) (σ : gS) (τ : gT) (o : gO)  (h : σ 10 = 0) : Ct l yX0_meanCost wsX0_meanCost 1 32 0 0 [.ref (Γ.2.1 100)] Γ σ τ o (pE (some (.double FP.dconst0)) σ τ o) (noX) := by
  refine ct_of hl (by decide +kernel) rfl (Nat.le_of_ble_eq_true rfl) ?_
  intro E C F T hΓ hL R
  subst hΓ
  subst hL
  show G E 0 0 0 [(0, .ref ((eG E).2.1 100))] [] σ τ o
  refine g_aload_n C dX0_meanCost_0 rfl rfl ?_
  refine g_getX C 10 dX0_meanCost_1 mwX0_meanCost_inX (by decide) mwX0_meanCost_f42 rfl rfl ?_
  refine g_if_ne (tgt := 9) C dX0_meanCost_4 (by decide) (fun c_4 => ?_) (fun c_4 => ?_)
  · exact absurd h c_4
  · refine g_dconst0 C dX0_meanCost_7 ?_
    exact g_dret C F dX0_meanCost_8 (by decide) (by decide) ⟨rfl, rfl, rfl, rfl⟩
set_option maxRecDepth 100000 in
theorem mwX0_meanCost_f45 : Cond.fieldLink RX0 45 "TelegraphPrices" "earned" "I" ∈ wsX0_meanCost := by decide +kernel
set_option maxHeartbeats 4000000 in
set_option maxRecDepth 100000 in
theorem c_meanCost {l : Launch} (hl : l.stackTraces = false) (Γ : gG) (σ : gS) (τ : gT) (o : gO)  (h : ¬ σ 10 = 0) (hn : vf_n64 (FP.ddiv (FP.i2d (σ 11)) (FP.i2d (σ 10)))) : Ct l yX0_meanCost wsX0_meanCost 1 32 0 0 [.ref (Γ.2.1 100)] Γ σ τ o (pE (some (.double (FP.ddiv (FP.i2d (σ 11)) (FP.i2d (σ 10))))) σ τ o) (noX) := by
  refine ct_of hl (by decide +kernel) rfl (Nat.le_of_ble_eq_true rfl) ?_
  intro E C F T hΓ hL R
  subst hΓ
  subst hL
  show G E 0 0 0 [(0, .ref ((eG E).2.1 100))] [] σ τ o
  refine g_aload_n C dX0_meanCost_0 rfl rfl ?_
  refine g_getX C 10 dX0_meanCost_1 mwX0_meanCost_inX (by decide) mwX0_meanCost_f42 rfl rfl ?_
  refine g_if_ne (tgt := 9) C dX0_meanCost_4 (by decide) (fun c_4 => ?_) (fun c_4 => ?_)
  · refine g_aload_n C dX0_meanCost_9 rfl rfl ?_
    refine g_getX C 11 dX0_meanCost_10 mwX0_meanCost_inX (by decide) mwX0_meanCost_f45 rfl rfl ?_
    refine g_i2d C dX0_meanCost_13 ?_
    refine g_aload_n C dX0_meanCost_14 rfl rfl ?_
    refine g_getX C 10 dX0_meanCost_15 mwX0_meanCost_inX (by decide) mwX0_meanCost_f42 rfl rfl ?_
    refine g_i2d C dX0_meanCost_18 ?_
    refine g_ddiv C dX0_meanCost_19 hn ?_
    exact g_dret C F dX0_meanCost_20 (by decide) (by decide) ⟨rfl, rfl, rfl, rfl⟩
  · exact absurd c_4 h
