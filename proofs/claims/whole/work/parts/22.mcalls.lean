/-! the reference's calls -/
theorem zn_3 : (3 : Int32).toInt = 3 := by decide
theorem zn_4 : (4 : Int32).toInt = 4 := by decide
theorem zn_y {z : Int32} (h : ¬ z < 0 ∧ z < 4) : ¬ ii z 0 3 = 0 := by
  unfold ii
  obtain ⟨h1, h2⟩ := h
  rw [Int32.lt_iff_toInt_lt, zn_4] at h2
  have h3 : ¬ (3 : Int32) < z := by
    rw [Int32.lt_iff_toInt_lt, zn_3]
    omega
  rw [if_neg h1, if_neg h3]
  decide
theorem zn_n {z : Int32} (h : z < 0 ∨ ¬ z < 4) : ii z 0 3 = 0 := by
  unfold ii
  by_cases q : z < 0
  · rw [if_pos q]
  · have h2 := h.resolve_left q
    rw [Int32.lt_iff_toInt_lt, zn_4] at h2
    have h3 : (3 : Int32) < z := by
      rw [Int32.lt_iff_toInt_lt, zn_3]
      omega
    rw [if_neg q, if_pos h3]
set_option maxRecDepth 100000 in
theorem mwX1_words_inM : ∀ w ∈ wsX10, w ∈ wsX1_words := by decide +kernel
set_option maxRecDepth 100000 in
theorem mwX1_words_f48 : Cond.fieldLink RX1 48 "TelegraphPricesModel" "words" "I" ∈ wsX1_words := by decide +kernel
set_option maxHeartbeats 4000000 in
set_option maxRecDepth 100000 in
theorem m_words {l : Launch} (hl : l.stackTraces = false) (Γ : gG) (σ : gS) (τ : gT) (o : gO)  : Ct l yX1_words wsX1_words 2 64 0 0 [.ref (Γ.2.1 101)] Γ σ τ o (pE (some (.int (σ 21))) (uS σ 20 0) τ o) (noX) := by
  refine ct_of hl (by decide +kernel) rfl (Nat.le_of_ble_eq_true rfl) ?_
  intro E C F T hΓ hL R
  subst hΓ
  subst hL
  show G E 0 0 0 [(0, .ref ((eG E).2.1 101))] [] σ τ o
  refine g_aload_n C dX1_words_0 rfl rfl ?_
  refine g_aload_n C dX1_words_1 rfl rfl ?_
  refine g_getM C 1 dX1_words_2 mwX1_words_inM (by decide) mwX1_words_f48 rfl rfl ?_
  refine g_callVEi (Cl := RX1) (T := TX1) (N := 16) (ci := 1) (q0 := 12) (na := 1) C dX1_words_5 (m_told hl (eG E) σ τ o _) gX1_words_X1_told rfl rfl (by decide +kernel) rfl rfl rfl (Nat.le_of_ble_eq_true rfl) (by rw [R]; exact ⟨by decide, by decide⟩) (by rw [R]; exact ⟨by decide, by decide⟩) ?_
  exact g_iret C F dX1_words_8 (by decide) (by decide) ⟨rfl, rfl, rfl, rfl⟩
set_option maxRecDepth 100000 in
theorem mwX1_limit_inM : ∀ w ∈ wsX10, w ∈ wsX1_limit := by decide +kernel
set_option maxRecDepth 100000 in
theorem mwX1_limit_f7 : Cond.fieldLink RX1 7 "TelegraphPricesModel" "limit" "I" ∈ wsX1_limit := by decide +kernel
set_option maxHeartbeats 4000000 in
set_option maxRecDepth 100000 in
theorem m_limit {l : Launch} (hl : l.stackTraces = false) (Γ : gG) (σ : gS) (τ : gT) (o : gO)  : Ct l yX1_limit wsX1_limit 2 64 0 0 [.ref (Γ.2.1 101)] Γ σ τ o (pE (some (.int (σ 22))) (uS σ 20 0) τ o) (noX) := by
  refine ct_of hl (by decide +kernel) rfl (Nat.le_of_ble_eq_true rfl) ?_
  intro E C F T hΓ hL R
  subst hΓ
  subst hL
  show G E 0 0 0 [(0, .ref ((eG E).2.1 101))] [] σ τ o
  refine g_aload_n C dX1_limit_0 rfl rfl ?_
  refine g_aload_n C dX1_limit_1 rfl rfl ?_
  refine g_getM C 2 dX1_limit_2 mwX1_limit_inM (by decide) mwX1_limit_f7 rfl rfl ?_
  refine g_callVEi (Cl := RX1) (T := TX1) (N := 16) (ci := 1) (q0 := 12) (na := 1) C dX1_limit_5 (m_told hl (eG E) σ τ o _) gX1_limit_X1_told rfl rfl (by decide +kernel) rfl rfl rfl (Nat.le_of_ble_eq_true rfl) (by rw [R]; exact ⟨by decide, by decide⟩) (by rw [R]; exact ⟨by decide, by decide⟩) ?_
  exact g_iret C F dX1_limit_8 (by decide) (by decide) ⟨rfl, rfl, rfl, rfl⟩
set_option maxRecDepth 100000 in
theorem mwX1_leastCount_inM : ∀ w ∈ wsX10, w ∈ wsX1_leastCount := by decide +kernel
set_option maxRecDepth 100000 in
theorem mwX1_leastCount_f13 : Cond.fieldLink RX1 13 "TelegraphPricesModel" "least" "I" ∈ wsX1_leastCount := by decide +kernel
set_option maxHeartbeats 4000000 in
set_option maxRecDepth 100000 in
theorem m_leastCount {l : Launch} (hl : l.stackTraces = false) (Γ : gG) (σ : gS) (τ : gT) (o : gO)  : Ct l yX1_leastCount wsX1_leastCount 2 64 0 0 [.ref (Γ.2.1 101)] Γ σ τ o (pE (some (.int (σ 23))) (uS σ 20 0) τ o) (noX) := by
  refine ct_of hl (by decide +kernel) rfl (Nat.le_of_ble_eq_true rfl) ?_
  intro E C F T hΓ hL R
  subst hΓ
  subst hL
  show G E 0 0 0 [(0, .ref ((eG E).2.1 101))] [] σ τ o
  refine g_aload_n C dX1_leastCount_0 rfl rfl ?_
  refine g_aload_n C dX1_leastCount_1 rfl rfl ?_
  refine g_getM C 3 dX1_leastCount_2 mwX1_leastCount_inM (by decide) mwX1_leastCount_f13 rfl rfl ?_
  refine g_callVEi (Cl := RX1) (T := TX1) (N := 16) (ci := 1) (q0 := 12) (na := 1) C dX1_leastCount_5 (m_told hl (eG E) σ τ o _) gX1_leastCount_X1_told rfl rfl (by decide +kernel) rfl rfl rfl (Nat.le_of_ble_eq_true rfl) (by rw [R]; exact ⟨by decide, by decide⟩) (by rw [R]; exact ⟨by decide, by decide⟩) ?_
  exact g_iret C F dX1_leastCount_8 (by decide) (by decide) ⟨rfl, rfl, rfl, rfl⟩
set_option maxRecDepth 100000 in
theorem mwX1_coins_inM : ∀ w ∈ wsX10, w ∈ wsX1_coins := by decide +kernel
set_option maxRecDepth 100000 in
theorem mwX1_coins_f16 : Cond.fieldLink RX1 16 "TelegraphPricesModel" "coins" "I" ∈ wsX1_coins := by decide +kernel
set_option maxHeartbeats 4000000 in
set_option maxRecDepth 100000 in
theorem m_coins {l : Launch} (hl : l.stackTraces = false) (Γ : gG) (σ : gS) (τ : gT) (o : gO)  : Ct l yX1_coins wsX1_coins 2 64 0 0 [.ref (Γ.2.1 101)] Γ σ τ o (pE (some (.int (σ 24))) (uS σ 20 0) τ o) (noX) := by
  refine ct_of hl (by decide +kernel) rfl (Nat.le_of_ble_eq_true rfl) ?_
  intro E C F T hΓ hL R
  subst hΓ
  subst hL
  show G E 0 0 0 [(0, .ref ((eG E).2.1 101))] [] σ τ o
  refine g_aload_n C dX1_coins_0 rfl rfl ?_
  refine g_aload_n C dX1_coins_1 rfl rfl ?_
  refine g_getM C 4 dX1_coins_2 mwX1_coins_inM (by decide) mwX1_coins_f16 rfl rfl ?_
  refine g_callVEi (Cl := RX1) (T := TX1) (N := 16) (ci := 1) (q0 := 12) (na := 1) C dX1_coins_5 (m_told hl (eG E) σ τ o _) gX1_coins_X1_told rfl rfl (by decide +kernel) rfl rfl rfl (Nat.le_of_ble_eq_true rfl) (by rw [R]; exact ⟨by decide, by decide⟩) (by rw [R]; exact ⟨by decide, by decide⟩) ?_
  exact g_iret C F dX1_coins_8 (by decide) (by decide) ⟨rfl, rfl, rfl, rfl⟩
set_option maxRecDepth 100000 in
theorem mwX1_length_inM : ∀ w ∈ wsX10, w ∈ wsX1_length := by decide +kernel
set_option maxRecDepth 100000 in
theorem mwX1_length_f55 : Cond.fieldLink RX1 55 "TelegraphPricesModel" "length" "I" ∈ wsX1_length := by decide +kernel
set_option maxHeartbeats 4000000 in
set_option maxRecDepth 100000 in
theorem m_length {l : Launch} (hl : l.stackTraces = false) (Γ : gG) (σ : gS) (τ : gT) (o : gO)  : Ct l yX1_length wsX1_length 2 64 0 0 [.ref (Γ.2.1 101)] Γ σ τ o (pE (some (.int (σ 30))) (uS σ 20 0) τ o) (noX) := by
  refine ct_of hl (by decide +kernel) rfl (Nat.le_of_ble_eq_true rfl) ?_
  intro E C F T hΓ hL R
  subst hΓ
  subst hL
  show G E 0 0 0 [(0, .ref ((eG E).2.1 101))] [] σ τ o
  refine g_aload_n C dX1_length_0 rfl rfl ?_
  refine g_aload_n C dX1_length_1 rfl rfl ?_
  refine g_getM C 10 dX1_length_2 mwX1_length_inM (by decide) mwX1_length_f55 rfl rfl ?_
  refine g_callVEi (Cl := RX1) (T := TX1) (N := 16) (ci := 1) (q0 := 12) (na := 1) C dX1_length_5 (m_told hl (eG E) σ τ o _) gX1_length_X1_told rfl rfl (by decide +kernel) rfl rfl rfl (Nat.le_of_ble_eq_true rfl) (by rw [R]; exact ⟨by decide, by decide⟩) (by rw [R]; exact ⟨by decide, by decide⟩) ?_
  exact g_iret C F dX1_length_8 (by decide) (by decide) ⟨rfl, rfl, rfl, rfl⟩
set_option maxRecDepth 100000 in
theorem mwX1_sent_inM : ∀ w ∈ wsX10, w ∈ wsX1_sent := by decide +kernel
set_option maxRecDepth 100000 in
theorem mwX1_sent_f127 : Cond.fieldLink RX1 127 "TelegraphPricesModel" "sent" "I" ∈ wsX1_sent := by decide +kernel
set_option maxHeartbeats 4000000 in
set_option maxRecDepth 100000 in
theorem m_sent {l : Launch} (hl : l.stackTraces = false) (Γ : gG) (σ : gS) (τ : gT) (o : gO)  : Ct l yX1_sent wsX1_sent 2 64 0 0 [.ref (Γ.2.1 101)] Γ σ τ o (pE (some (.int (σ 25))) (uS σ 20 0) τ o) (noX) := by
  refine ct_of hl (by decide +kernel) rfl (Nat.le_of_ble_eq_true rfl) ?_
  intro E C F T hΓ hL R
  subst hΓ
  subst hL
  show G E 0 0 0 [(0, .ref ((eG E).2.1 101))] [] σ τ o
  refine g_aload_n C dX1_sent_0 rfl rfl ?_
  refine g_aload_n C dX1_sent_1 rfl rfl ?_
  refine g_getM C 5 dX1_sent_2 mwX1_sent_inM (by decide) mwX1_sent_f127 rfl rfl ?_
  refine g_callVEi (Cl := RX1) (T := TX1) (N := 16) (ci := 1) (q0 := 12) (na := 1) C dX1_sent_5 (m_told hl (eG E) σ τ o _) gX1_sent_X1_told rfl rfl (by decide +kernel) rfl rfl rfl (Nat.le_of_ble_eq_true rfl) (by rw [R]; exact ⟨by decide, by decide⟩) (by rw [R]; exact ⟨by decide, by decide⟩) ?_
  exact g_iret C F dX1_sent_8 (by decide) (by decide) ⟨rfl, rfl, rfl, rfl⟩
set_option maxRecDepth 100000 in
theorem mwX1_earned_inM : ∀ w ∈ wsX10, w ∈ wsX1_earned := by decide +kernel
set_option maxRecDepth 100000 in
theorem mwX1_earned_f130 : Cond.fieldLink RX1 130 "TelegraphPricesModel" "earned" "I" ∈ wsX1_earned := by decide +kernel
set_option maxHeartbeats 4000000 in
set_option maxRecDepth 100000 in
theorem m_earned {l : Launch} (hl : l.stackTraces = false) (Γ : gG) (σ : gS) (τ : gT) (o : gO)  : Ct l yX1_earned wsX1_earned 2 64 0 0 [.ref (Γ.2.1 101)] Γ σ τ o (pE (some (.int (σ 26))) (uS σ 20 0) τ o) (noX) := by
  refine ct_of hl (by decide +kernel) rfl (Nat.le_of_ble_eq_true rfl) ?_
  intro E C F T hΓ hL R
  subst hΓ
  subst hL
  show G E 0 0 0 [(0, .ref ((eG E).2.1 101))] [] σ τ o
  refine g_aload_n C dX1_earned_0 rfl rfl ?_
  refine g_aload_n C dX1_earned_1 rfl rfl ?_
  refine g_getM C 6 dX1_earned_2 mwX1_earned_inM (by decide) mwX1_earned_f130 rfl rfl ?_
  refine g_callVEi (Cl := RX1) (T := TX1) (N := 16) (ci := 1) (q0 := 12) (na := 1) C dX1_earned_5 (m_told hl (eG E) σ τ o _) gX1_earned_X1_told rfl rfl (by decide +kernel) rfl rfl rfl (Nat.le_of_ble_eq_true rfl) (by rw [R]; exact ⟨by decide, by decide⟩) (by rw [R]; exact ⟨by decide, by decide⟩) ?_
  exact g_iret C F dX1_earned_8 (by decide) (by decide) ⟨rfl, rfl, rfl, rfl⟩
/-- standIns -/
def sI (x : Int32) : Nat → Int32
  | 0 => 0
  | a + 1 => sI x a + ((x >>> (nI a &&& 31)) &&& 1)
set_option maxRecDepth 100000 in
theorem mwX1_standIns_inM : ∀ w ∈ wsX10, w ∈ wsX1_standIns := by decide +kernel
set_option maxRecDepth 100000 in
theorem mwX1_standIns_f48 : Cond.fieldLink RX1 48 "TelegraphPricesModel" "words" "I" ∈ wsX1_standIns := by decide +kernel
set_option maxRecDepth 100000 in
theorem mwX1_standIns_f23 : Cond.fieldLink RX1 23 "TelegraphPricesModel" "stand" "[I" ∈ wsX1_standIns := by decide +kernel
set_option maxHeartbeats 4000000 in
set_option maxRecDepth 100000 in
theorem m_standIns {l : Launch} (hl : l.stackTraces = false) (Γ : gG) (σ : gS) (τ : gT) (o : gO) (nw nl lm : Nat) (x : Int32) (I : IM σ τ nw nl lm) (hx : vp_in x 12) : Ct l yX1_standIns wsX1_standIns 1 32 0 0 [.ref (Γ.2.1 101), .int x] Γ σ τ o (pE (some (.int (sI (τ 28 x.toNatClampNeg) nw))) σ τ o) (noX) := by
  refine ct_of hl (by decide +kernel) rfl (Nat.le_of_ble_eq_true rfl) ?_
  intro E C F T hΓ hL R
  subst hΓ
  subst hL
  show G E 0 0 0 [(0, .ref ((eG E).2.1 101)), (1, .int x)] [] σ τ o
  have hnw := Iv_nw I
  have hnl := Iv_nl I
  have h3 : σ 21 = nI nw := Iv_h3 I
  have h9 : σ 30 = nI nl := Iv_h9 I
  have h4 : ¬ σ 22 = 0 := Iv_ne I
  have I0 : IM (uS σ 20 0) τ nw nl lm := I
  have h30 : uS σ 20 0 21 = nI nw := h3
  have h90 : uS σ 20 0 30 = nI nl := h9
  have h40 : ¬ uS σ 20 0 22 = 0 := h4
  have loop : ∀ m a : Nat, a + m = nw → G E 0 0 4 [(3, .int (nI a)), (2, .int (sI (τ 28 x.toNatClampNeg) a)), (0, .ref ((eG E).2.1 101)), (1, .int x)] [] σ τ o := by
    intro m
    induction m with
    | zero =>
      intro a ha
      refine g_iload_n C dX1_standIns_4 rfl rfl ?_
      refine g_aload_n C dX1_standIns_5 rfl rfl ?_
      refine g_getM C 1 dX1_standIns_6 mwX1_standIns_inM (by decide) mwX1_standIns_f48 rfl rfl ?_
      refine g_icmp_ge (tgt := 31) C dX1_standIns_9 (by decide) (fun c_9 => ?_) (fun c_9 => ?_)
      · refine g_iload_n C dX1_standIns_31 rfl rfl ?_
        exact g_iret C F dX1_standIns_32 (by decide) (by decide) ⟨by rw [show a = nw by omega], rfl, rfl, rfl⟩
      · exact absurd (by rw [h3]; exact nI_le (by omega) (by omega)) c_9
    | succ m ih =>
      intro a ha
      refine g_iload_n C dX1_standIns_4 rfl rfl ?_
      refine g_aload_n C dX1_standIns_5 rfl rfl ?_
      refine g_getM C 1 dX1_standIns_6 mwX1_standIns_inM (by decide) mwX1_standIns_f48 rfl rfl ?_
      refine g_icmp_ge (tgt := 31) C dX1_standIns_9 (by decide) (fun c_9 => ?_) (fun c_9 => ?_)
      · exact absurd (by rw [h3] at c_9; exact c_9) (nI_ge (by omega) (by omega))
      · refine g_iload_n C dX1_standIns_12 rfl rfl ?_
        refine g_aload_n C dX1_standIns_13 rfl rfl ?_
        refine g_getM C 8 dX1_standIns_14 mwX1_standIns_inM (by decide) mwX1_standIns_f23 rfl rfl ?_
        refine g_iload_n C dX1_standIns_17 rfl rfl ?_
        refine g_iald C dX1_standIns_18 rfl hx ?_
        refine g_iload_n C dX1_standIns_19 rfl rfl ?_
        refine g_ishr C dX1_standIns_20 ?_
        refine g_iconst (v := 1) C dX1_standIns_21 (by decide) ?_
        refine g_iand C dX1_standIns_22 ?_
        refine g_iadd C dX1_standIns_23 ?_
        refine g_istore_n C [(2, _), (3, _), (0, _), (1, _)] dX1_standIns_24 rfl (by decide) rfl ?_
        refine g_iinc C 1 [(3, _), (2, _), (0, _), (1, _)] dX1_standIns_25 rfl (nI_i1 a) (by decide) rfl ?_
        refine g_goto (tgt := 4) C dX1_standIns_28 (by decide) ?_
        exact ih (a + 1) (by omega)
  refine g_iconst (v := 0) C dX1_standIns_0 (by decide) ?_
  refine g_istore_n C [(2, _), (0, _), (1, _)] dX1_standIns_1 rfl (by decide) rfl ?_
  refine g_iconst (v := 0) C dX1_standIns_2 (by decide) ?_
  refine g_istore_n C [(3, _), (2, _), (0, _), (1, _)] dX1_standIns_3 rfl (by decide) rfl ?_
  exact loop nw 0 (Nat.zero_add _)
set_option maxRecDepth 100000 in
theorem mwX1_lettersOf_inM : ∀ w ∈ wsX10, w ∈ wsX1_lettersOf := by decide +kernel
set_option maxRecDepth 100000 in
theorem mwX1_lettersOf_f45 : Cond.fieldLink RX1 45 "TelegraphPricesModel" "thrown" "I" ∈ wsX1_lettersOf := by decide +kernel
set_option maxRecDepth 100000 in
theorem mwX1_lettersOf_f19 : Cond.fieldLink RX1 19 "TelegraphPricesModel" "letters" "[I" ∈ wsX1_lettersOf := by decide +kernel
set_option maxHeartbeats 4000000 in
set_option maxRecDepth 100000 in
theorem m_lettersOf {l : Launch} (hl : l.stackTraces = false) (Γ : gG) (σ : gS) (τ : gT) (o : gO) (nw nl lm : Nat) (a : Nat) (I : IM σ τ nw nl lm) (ha : a < nw) : Ct l yX1_lettersOf wsX1_lettersOf 3 96 0 0 [.ref (Γ.2.1 101), .int (nI a)] Γ σ τ o (pE (some (.int (τ 27 a))) (uS σ 20 0) τ o) (noX) := by
  refine ct_of hl (by decide +kernel) rfl (Nat.le_of_ble_eq_true rfl) ?_
  intro E C F T hΓ hL R
  subst hΓ
  subst hL
  show G E 0 0 0 [(0, .ref ((eG E).2.1 101)), (1, .int (nI a))] [] σ τ o
  have hnw := Iv_nw I
  have hnl := Iv_nl I
  have h3 : σ 21 = nI nw := Iv_h3 I
  have h9 : σ 30 = nI nl := Iv_h9 I
  have h4 : ¬ σ 22 = 0 := Iv_ne I
  have I0 : IM (uS σ 20 0) τ nw nl lm := I
  have h30 : uS σ 20 0 21 = nI nw := h3
  have h90 : uS σ 20 0 30 = nI nl := h9
  have h40 : ¬ uS σ 20 0 22 = 0 := h4
  refine g_aload_n C dX1_lettersOf_0 rfl rfl ?_
  refine g_iconst (v := 0) C dX1_lettersOf_1 (by decide) ?_
  refine g_putM C 0 dX1_lettersOf_2 mwX1_lettersOf_inM (by decide) mwX1_lettersOf_f45 rfl rfl (by decide +kernel) rfl ?_
  refine g_aload_n C dX1_lettersOf_5 rfl rfl ?_
  refine g_iload_n C dX1_lettersOf_6 rfl rfl ?_
  refine g_callVEi (Cl := RX1) (T := TX1) (N := 16) (ci := 1) (q0 := 12) (na := 1) C dX1_lettersOf_7 (m_isWord hl (eG E) (uS σ 20 0) τ o _) gX1_lettersOf_X1_isWord rfl rfl (by decide +kernel) rfl rfl rfl (Nat.le_of_ble_eq_true rfl) (by rw [R]; exact ⟨by decide, by decide⟩) (by rw [R]; exact ⟨by decide, by decide⟩) ?_
  refine g_if_eq (tgt := 22) C dX1_lettersOf_10 (by decide) (fun c_10 => ?_) (fun c_10 => ?_)
  · exact absurd c_10 (by rw [h30, ii_y ha (by omega)]; decide)
  · refine g_aload_n C dX1_lettersOf_13 rfl rfl ?_
    refine g_getM C 7 dX1_lettersOf_14 mwX1_lettersOf_inM (by decide) mwX1_lettersOf_f19 rfl rfl ?_
    refine g_iload_n C dX1_lettersOf_17 rfl rfl ?_
    refine g_ialdN C (a) dX1_lettersOf_18 rfl rfl (show a < 12 by omega) (by decide) ?_
    refine g_goto (tgt := 27) C dX1_lettersOf_19 (by decide) ?_
    exact g_iret C F dX1_lettersOf_27 (by decide) (by decide) ⟨rfl, rfl, rfl, rfl⟩
set_option maxHeartbeats 4000000 in
set_option maxRecDepth 100000 in
theorem m_lettersOfX {l : Launch} (hl : l.stackTraces = false) (Γ : gG) (σ : gS) (τ : gT) (o : gO) (nw nl lm : Nat) (w : Int32) (I : IM σ τ nw nl lm) (hw : w < 0 ∨ ¬ w < σ 21) : Ct l yX1_lettersOf wsX1_lettersOf 3 96 0 0 [.ref (Γ.2.1 101), .int w] Γ σ τ o (pE (some (.int 0)) (uS (uS σ 20 0) 20 1) τ o) (noX) := by
  refine ct_of hl (by decide +kernel) rfl (Nat.le_of_ble_eq_true rfl) ?_
  intro E C F T hΓ hL R
  subst hΓ
  subst hL
  show G E 0 0 0 [(0, .ref ((eG E).2.1 101)), (1, .int w)] [] σ τ o
  have hnw := Iv_nw I
  have hnl := Iv_nl I
  have h3 : σ 21 = nI nw := Iv_h3 I
  have h9 : σ 30 = nI nl := Iv_h9 I
  have h4 : ¬ σ 22 = 0 := Iv_ne I
  have I0 : IM (uS σ 20 0) τ nw nl lm := I
  have h30 : uS σ 20 0 21 = nI nw := h3
  have h90 : uS σ 20 0 30 = nI nl := h9
  have h40 : ¬ uS σ 20 0 22 = 0 := h4
  refine g_aload_n C dX1_lettersOf_0 rfl rfl ?_
  refine g_iconst (v := 0) C dX1_lettersOf_1 (by decide) ?_
  refine g_putM C 0 dX1_lettersOf_2 mwX1_lettersOf_inM (by decide) mwX1_lettersOf_f45 rfl rfl (by decide +kernel) rfl ?_
  refine g_aload_n C dX1_lettersOf_5 rfl rfl ?_
  refine g_iload_n C dX1_lettersOf_6 rfl rfl ?_
  refine g_callVEi (Cl := RX1) (T := TX1) (N := 16) (ci := 1) (q0 := 12) (na := 1) C dX1_lettersOf_7 (m_isWord hl (eG E) (uS σ 20 0) τ o _) gX1_lettersOf_X1_isWord rfl rfl (by decide +kernel) rfl rfl rfl (Nat.le_of_ble_eq_true rfl) (by rw [R]; exact ⟨by decide, by decide⟩) (by rw [R]; exact ⟨by decide, by decide⟩) ?_
  refine g_if_eq (tgt := 22) C dX1_lettersOf_10 (by decide) (fun c_10 => ?_) (fun c_10 => ?_)
  · refine g_aload_n C dX1_lettersOf_22 rfl rfl ?_
    refine g_iconst (v := 1) C dX1_lettersOf_23 (by decide) ?_
    refine g_callVEi (Cl := RX1) (T := TX1) (N := 16) (ci := 1) (q0 := 12) (na := 1) C dX1_lettersOf_24 (m_fail hl (eG E) (uS σ 20 0) τ o 1) gX1_lettersOf_X1_fail rfl rfl (by decide +kernel) rfl rfl rfl (Nat.le_of_ble_eq_true rfl) (by rw [R]; exact ⟨by decide, by decide⟩) (by rw [R]; exact ⟨by decide, by decide⟩) ?_
    exact g_iret C F dX1_lettersOf_27 (by decide) (by decide) ⟨rfl, rfl, rfl, rfl⟩
  · exact absurd (by rw [h30]; exact ii_n (by omega) (by rw [← h3]; exact hw)) c_10
set_option maxRecDepth 100000 in
theorem mwX1_countOf_inM : ∀ w ∈ wsX10, w ∈ wsX1_countOf := by decide +kernel
set_option maxRecDepth 100000 in
theorem mwX1_countOf_f45 : Cond.fieldLink RX1 45 "TelegraphPricesModel" "thrown" "I" ∈ wsX1_countOf := by decide +kernel
set_option maxRecDepth 100000 in
theorem mwX1_countOf_f19 : Cond.fieldLink RX1 19 "TelegraphPricesModel" "letters" "[I" ∈ wsX1_countOf := by decide +kernel
set_option maxHeartbeats 4000000 in
set_option maxRecDepth 100000 in
theorem m_countOf {l : Launch} (hl : l.stackTraces = false) (Γ : gG) (σ : gS) (τ : gT) (o : gO) (nw nl lm : Nat) (a : Nat) (I : IM σ τ nw nl lm) (ha : a < nw) : Ct l yX1_countOf wsX1_countOf 3 96 0 0 [.ref (Γ.2.1 101), .int (nI a)] Γ σ τ o (pE (some (.int (cn (σ 22) (τ 27 a)))) (uS σ 20 0) τ o) (noX) := by
  refine ct_of hl (by decide +kernel) rfl (Nat.le_of_ble_eq_true rfl) ?_
  intro E C F T hΓ hL R
  subst hΓ
  subst hL
  show G E 0 0 0 [(0, .ref ((eG E).2.1 101)), (1, .int (nI a))] [] σ τ o
  have hnw := Iv_nw I
  have hnl := Iv_nl I
  have h3 : σ 21 = nI nw := Iv_h3 I
  have h9 : σ 30 = nI nl := Iv_h9 I
  have h4 : ¬ σ 22 = 0 := Iv_ne I
  have I0 : IM (uS σ 20 0) τ nw nl lm := I
  have h30 : uS σ 20 0 21 = nI nw := h3
  have h90 : uS σ 20 0 30 = nI nl := h9
  have h40 : ¬ uS σ 20 0 22 = 0 := h4
  refine g_aload_n C dX1_countOf_0 rfl rfl ?_
  refine g_iconst (v := 0) C dX1_countOf_1 (by decide) ?_
  refine g_putM C 0 dX1_countOf_2 mwX1_countOf_inM (by decide) mwX1_countOf_f45 rfl rfl (by decide +kernel) rfl ?_
  refine g_aload_n C dX1_countOf_5 rfl rfl ?_
  refine g_iload_n C dX1_countOf_6 rfl rfl ?_
  refine g_callVEi (Cl := RX1) (T := TX1) (N := 16) (ci := 1) (q0 := 12) (na := 1) C dX1_countOf_7 (m_isWord hl (eG E) (uS σ 20 0) τ o _) gX1_countOf_X1_isWord rfl rfl (by decide +kernel) rfl rfl rfl (Nat.le_of_ble_eq_true rfl) (by rw [R]; exact ⟨by decide, by decide⟩) (by rw [R]; exact ⟨by decide, by decide⟩) ?_
  refine g_if_eq (tgt := 26) C dX1_countOf_10 (by decide) (fun c_10 => ?_) (fun c_10 => ?_)
  · exact absurd c_10 (by rw [h30, ii_y ha (by omega)]; decide)
  · refine g_aload_n C dX1_countOf_13 rfl rfl ?_
    refine g_aload_n C dX1_countOf_14 rfl rfl ?_
    refine g_getM C 7 dX1_countOf_15 mwX1_countOf_inM (by decide) mwX1_countOf_f19 rfl rfl ?_
    refine g_iload_n C dX1_countOf_18 rfl rfl ?_
    refine g_ialdN C (a) dX1_countOf_19 rfl rfl (show a < 12 by omega) (by decide) ?_
    refine g_callVEi (Cl := RX1) (T := TX1) (N := 16) (ci := 1) (q0 := 12) (na := 1) C dX1_countOf_20 (m_counts hl (eG E) (uS σ 20 0) τ o _ h40) gX1_countOf_X1_counts rfl rfl (by decide +kernel) rfl rfl rfl (Nat.le_of_ble_eq_true rfl) (by rw [R]; exact ⟨by decide, by decide⟩) (by rw [R]; exact ⟨by decide, by decide⟩) ?_
    refine g_goto (tgt := 31) C dX1_countOf_23 (by decide) ?_
    exact g_iret C F dX1_countOf_31 (by decide) (by decide) ⟨rfl, rfl, rfl, rfl⟩
set_option maxHeartbeats 4000000 in
set_option maxRecDepth 100000 in
theorem m_countOfX {l : Launch} (hl : l.stackTraces = false) (Γ : gG) (σ : gS) (τ : gT) (o : gO) (nw nl lm : Nat) (w : Int32) (I : IM σ τ nw nl lm) (hw : w < 0 ∨ ¬ w < σ 21) : Ct l yX1_countOf wsX1_countOf 3 96 0 0 [.ref (Γ.2.1 101), .int w] Γ σ τ o (pE (some (.int 0)) (uS (uS σ 20 0) 20 1) τ o) (noX) := by
  refine ct_of hl (by decide +kernel) rfl (Nat.le_of_ble_eq_true rfl) ?_
  intro E C F T hΓ hL R
  subst hΓ
  subst hL
  show G E 0 0 0 [(0, .ref ((eG E).2.1 101)), (1, .int w)] [] σ τ o
  have hnw := Iv_nw I
  have hnl := Iv_nl I
  have h3 : σ 21 = nI nw := Iv_h3 I
  have h9 : σ 30 = nI nl := Iv_h9 I
  have h4 : ¬ σ 22 = 0 := Iv_ne I
  have I0 : IM (uS σ 20 0) τ nw nl lm := I
  have h30 : uS σ 20 0 21 = nI nw := h3
  have h90 : uS σ 20 0 30 = nI nl := h9
  have h40 : ¬ uS σ 20 0 22 = 0 := h4
  refine g_aload_n C dX1_countOf_0 rfl rfl ?_
  refine g_iconst (v := 0) C dX1_countOf_1 (by decide) ?_
  refine g_putM C 0 dX1_countOf_2 mwX1_countOf_inM (by decide) mwX1_countOf_f45 rfl rfl (by decide +kernel) rfl ?_
  refine g_aload_n C dX1_countOf_5 rfl rfl ?_
  refine g_iload_n C dX1_countOf_6 rfl rfl ?_
  refine g_callVEi (Cl := RX1) (T := TX1) (N := 16) (ci := 1) (q0 := 12) (na := 1) C dX1_countOf_7 (m_isWord hl (eG E) (uS σ 20 0) τ o _) gX1_countOf_X1_isWord rfl rfl (by decide +kernel) rfl rfl rfl (Nat.le_of_ble_eq_true rfl) (by rw [R]; exact ⟨by decide, by decide⟩) (by rw [R]; exact ⟨by decide, by decide⟩) ?_
  refine g_if_eq (tgt := 26) C dX1_countOf_10 (by decide) (fun c_10 => ?_) (fun c_10 => ?_)
  · refine g_aload_n C dX1_countOf_26 rfl rfl ?_
    refine g_iconst (v := 1) C dX1_countOf_27 (by decide) ?_
    refine g_callVEi (Cl := RX1) (T := TX1) (N := 16) (ci := 1) (q0 := 12) (na := 1) C dX1_countOf_28 (m_fail hl (eG E) (uS σ 20 0) τ o 1) gX1_countOf_X1_fail rfl rfl (by decide +kernel) rfl rfl rfl (Nat.le_of_ble_eq_true rfl) (by rw [R]; exact ⟨by decide, by decide⟩) (by rw [R]; exact ⟨by decide, by decide⟩) ?_
    exact g_iret C F dX1_countOf_31 (by decide) (by decide) ⟨rfl, rfl, rfl, rfl⟩
  · exact absurd (by rw [h30]; exact ii_n (by omega) (by rw [← h3]; exact hw)) c_10
set_option maxRecDepth 100000 in
theorem mwX1_standInsOf_inM : ∀ w ∈ wsX10, w ∈ wsX1_standInsOf := by decide +kernel
set_option maxRecDepth 100000 in
theorem mwX1_standInsOf_f45 : Cond.fieldLink RX1 45 "TelegraphPricesModel" "thrown" "I" ∈ wsX1_standInsOf := by decide +kernel
set_option maxHeartbeats 4000000 in
set_option maxRecDepth 100000 in
theorem m_standInsOf {l : Launch} (hl : l.stackTraces = false) (Γ : gG) (σ : gS) (τ : gT) (o : gO) (nw nl lm : Nat) (a : Nat) (I : IM σ τ nw nl lm) (ha : a < nw) : Ct l yX1_standInsOf wsX1_standInsOf 3 96 0 0 [.ref (Γ.2.1 101), .int (nI a)] Γ σ τ o (pE (some (.int (sI (τ 28 a) nw))) (uS σ 20 0) τ o) (noX) := by
  refine ct_of hl (by decide +kernel) rfl (Nat.le_of_ble_eq_true rfl) ?_
  intro E C F T hΓ hL R
  subst hΓ
  subst hL
  show G E 0 0 0 [(0, .ref ((eG E).2.1 101)), (1, .int (nI a))] [] σ τ o
  have hnw := Iv_nw I
  have hnl := Iv_nl I
  have h3 : σ 21 = nI nw := Iv_h3 I
  have h9 : σ 30 = nI nl := Iv_h9 I
  have h4 : ¬ σ 22 = 0 := Iv_ne I
  have I0 : IM (uS σ 20 0) τ nw nl lm := I
  have h30 : uS σ 20 0 21 = nI nw := h3
  have h90 : uS σ 20 0 30 = nI nl := h9
  have h40 : ¬ uS σ 20 0 22 = 0 := h4
  refine g_aload_n C dX1_standInsOf_0 rfl rfl ?_
  refine g_iconst (v := 0) C dX1_standInsOf_1 (by decide) ?_
  refine g_putM C 0 dX1_standInsOf_2 mwX1_standInsOf_inM (by decide) mwX1_standInsOf_f45 rfl rfl (by decide +kernel) rfl ?_
  refine g_aload_n C dX1_standInsOf_5 rfl rfl ?_
  refine g_iload_n C dX1_standInsOf_6 rfl rfl ?_
  refine g_callVEi (Cl := RX1) (T := TX1) (N := 16) (ci := 1) (q0 := 12) (na := 1) C dX1_standInsOf_7 (m_isWord hl (eG E) (uS σ 20 0) τ o _) gX1_standInsOf_X1_isWord rfl rfl (by decide +kernel) rfl rfl rfl (Nat.le_of_ble_eq_true rfl) (by rw [R]; exact ⟨by decide, by decide⟩) (by rw [R]; exact ⟨by decide, by decide⟩) ?_
  refine g_if_eq (tgt := 21) C dX1_standInsOf_10 (by decide) (fun c_10 => ?_) (fun c_10 => ?_)
  · exact absurd c_10 (by rw [h30, ii_y ha (by omega)]; decide)
  · refine g_aload_n C dX1_standInsOf_13 rfl rfl ?_
    refine g_iload_n C dX1_standInsOf_14 rfl rfl ?_
    refine g_callVEi (Cl := RX1) (T := TX1) (N := 16) (ci := 1) (q0 := 12) (na := 1) C dX1_standInsOf_15 (m_standIns hl (eG E) (uS σ 20 0) τ o nw nl lm _ I0 (vp_in_nI (show a < 12 by omega) (by decide))) gX1_standInsOf_X1_standIns rfl rfl (by decide +kernel) rfl rfl rfl (Nat.le_of_ble_eq_true rfl) (by rw [R]; exact ⟨by decide, by decide⟩) (by rw [R]; exact ⟨by decide, by decide⟩) ?_
    rw [nI_clamp (show a < 2 ^ 31 by omega)]
    refine g_goto (tgt := 26) C dX1_standInsOf_18 (by decide) ?_
    exact g_iret C F dX1_standInsOf_26 (by decide) (by decide) ⟨rfl, rfl, rfl, rfl⟩
set_option maxHeartbeats 4000000 in
set_option maxRecDepth 100000 in
theorem m_standInsOfX {l : Launch} (hl : l.stackTraces = false) (Γ : gG) (σ : gS) (τ : gT) (o : gO) (nw nl lm : Nat) (w : Int32) (I : IM σ τ nw nl lm) (hw : w < 0 ∨ ¬ w < σ 21) : Ct l yX1_standInsOf wsX1_standInsOf 3 96 0 0 [.ref (Γ.2.1 101), .int w] Γ σ τ o (pE (some (.int 0)) (uS (uS σ 20 0) 20 1) τ o) (noX) := by
  refine ct_of hl (by decide +kernel) rfl (Nat.le_of_ble_eq_true rfl) ?_
  intro E C F T hΓ hL R
  subst hΓ
  subst hL
  show G E 0 0 0 [(0, .ref ((eG E).2.1 101)), (1, .int w)] [] σ τ o
  have hnw := Iv_nw I
  have hnl := Iv_nl I
  have h3 : σ 21 = nI nw := Iv_h3 I
  have h9 : σ 30 = nI nl := Iv_h9 I
  have h4 : ¬ σ 22 = 0 := Iv_ne I
  have I0 : IM (uS σ 20 0) τ nw nl lm := I
  have h30 : uS σ 20 0 21 = nI nw := h3
  have h90 : uS σ 20 0 30 = nI nl := h9
  have h40 : ¬ uS σ 20 0 22 = 0 := h4
  refine g_aload_n C dX1_standInsOf_0 rfl rfl ?_
  refine g_iconst (v := 0) C dX1_standInsOf_1 (by decide) ?_
  refine g_putM C 0 dX1_standInsOf_2 mwX1_standInsOf_inM (by decide) mwX1_standInsOf_f45 rfl rfl (by decide +kernel) rfl ?_
  refine g_aload_n C dX1_standInsOf_5 rfl rfl ?_
  refine g_iload_n C dX1_standInsOf_6 rfl rfl ?_
  refine g_callVEi (Cl := RX1) (T := TX1) (N := 16) (ci := 1) (q0 := 12) (na := 1) C dX1_standInsOf_7 (m_isWord hl (eG E) (uS σ 20 0) τ o _) gX1_standInsOf_X1_isWord rfl rfl (by decide +kernel) rfl rfl rfl (Nat.le_of_ble_eq_true rfl) (by rw [R]; exact ⟨by decide, by decide⟩) (by rw [R]; exact ⟨by decide, by decide⟩) ?_
  refine g_if_eq (tgt := 21) C dX1_standInsOf_10 (by decide) (fun c_10 => ?_) (fun c_10 => ?_)
  · refine g_aload_n C dX1_standInsOf_21 rfl rfl ?_
    refine g_iconst (v := 1) C dX1_standInsOf_22 (by decide) ?_
    refine g_callVEi (Cl := RX1) (T := TX1) (N := 16) (ci := 1) (q0 := 12) (na := 1) C dX1_standInsOf_23 (m_fail hl (eG E) (uS σ 20 0) τ o 1) gX1_standInsOf_X1_fail rfl rfl (by decide +kernel) rfl rfl rfl (Nat.le_of_ble_eq_true rfl) (by rw [R]; exact ⟨by decide, by decide⟩) (by rw [R]; exact ⟨by decide, by decide⟩) ?_
    exact g_iret C F dX1_standInsOf_26 (by decide) (by decide) ⟨rfl, rfl, rfl, rfl⟩
  · exact absurd (by rw [h30]; exact ii_n (by omega) (by rw [← h3]; exact hw)) c_10
set_option maxRecDepth 100000 in
theorem mwX1_wordAt_inM : ∀ w ∈ wsX10, w ∈ wsX1_wordAt := by decide +kernel
set_option maxRecDepth 100000 in
theorem mwX1_wordAt_f45 : Cond.fieldLink RX1 45 "TelegraphPricesModel" "thrown" "I" ∈ wsX1_wordAt := by decide +kernel
set_option maxRecDepth 100000 in
theorem mwX1_wordAt_f29 : Cond.fieldLink RX1 29 "TelegraphPricesModel" "word" "[I" ∈ wsX1_wordAt := by decide +kernel
set_option maxHeartbeats 4000000 in
set_option maxRecDepth 100000 in
theorem m_wordAt {l : Launch} (hl : l.stackTraces = false) (Γ : gG) (σ : gS) (τ : gT) (o : gO) (nw nl lm : Nat) (p : Nat) (I : IM σ τ nw nl lm) (hp : p < nl) : Ct l yX1_wordAt wsX1_wordAt 3 96 0 0 [.ref (Γ.2.1 101), .int (nI p)] Γ σ τ o (pE (some (.int (τ 31 p))) (uS σ 20 0) τ o) (noX) := by
  refine ct_of hl (by decide +kernel) rfl (Nat.le_of_ble_eq_true rfl) ?_
  intro E C F T hΓ hL R
  subst hΓ
  subst hL
  show G E 0 0 0 [(0, .ref ((eG E).2.1 101)), (1, .int (nI p))] [] σ τ o
  have hnw := Iv_nw I
  have hnl := Iv_nl I
  have h3 : σ 21 = nI nw := Iv_h3 I
  have h9 : σ 30 = nI nl := Iv_h9 I
  have h4 : ¬ σ 22 = 0 := Iv_ne I
  have I0 : IM (uS σ 20 0) τ nw nl lm := I
  have h30 : uS σ 20 0 21 = nI nw := h3
  have h90 : uS σ 20 0 30 = nI nl := h9
  have h40 : ¬ uS σ 20 0 22 = 0 := h4
  refine g_aload_n C dX1_wordAt_0 rfl rfl ?_
  refine g_iconst (v := 0) C dX1_wordAt_1 (by decide) ?_
  refine g_putM C 0 dX1_wordAt_2 mwX1_wordAt_inM (by decide) mwX1_wordAt_f45 rfl rfl (by decide +kernel) rfl ?_
  refine g_aload_n C dX1_wordAt_5 rfl rfl ?_
  refine g_iload_n C dX1_wordAt_6 rfl rfl ?_
  refine g_callVEi (Cl := RX1) (T := TX1) (N := 16) (ci := 1) (q0 := 12) (na := 1) C dX1_wordAt_7 (m_isPlace hl (eG E) (uS σ 20 0) τ o _) gX1_wordAt_X1_isPlace rfl rfl (by decide +kernel) rfl rfl rfl (Nat.le_of_ble_eq_true rfl) (by rw [R]; exact ⟨by decide, by decide⟩) (by rw [R]; exact ⟨by decide, by decide⟩) ?_
  refine g_if_eq (tgt := 22) C dX1_wordAt_10 (by decide) (fun c_10 => ?_) (fun c_10 => ?_)
  · exact absurd c_10 (by rw [h90, ii_y hp (by omega)]; decide)
  · refine g_aload_n C dX1_wordAt_13 rfl rfl ?_
    refine g_getM C 11 dX1_wordAt_14 mwX1_wordAt_inM (by decide) mwX1_wordAt_f29 rfl rfl ?_
    refine g_iload_n C dX1_wordAt_17 rfl rfl ?_
    refine g_ialdN C (p) dX1_wordAt_18 rfl rfl (show p < 16 by omega) (by decide) ?_
    refine g_goto (tgt := 27) C dX1_wordAt_19 (by decide) ?_
    exact g_iret C F dX1_wordAt_27 (by decide) (by decide) ⟨rfl, rfl, rfl, rfl⟩
set_option maxHeartbeats 4000000 in
set_option maxRecDepth 100000 in
theorem m_wordAtX {l : Launch} (hl : l.stackTraces = false) (Γ : gG) (σ : gS) (τ : gT) (o : gO) (nw nl lm : Nat) (w : Int32) (I : IM σ τ nw nl lm) (hw : w < 0 ∨ ¬ w < σ 30) : Ct l yX1_wordAt wsX1_wordAt 3 96 0 0 [.ref (Γ.2.1 101), .int w] Γ σ τ o (pE (some (.int 0)) (uS (uS σ 20 0) 20 1) τ o) (noX) := by
  refine ct_of hl (by decide +kernel) rfl (Nat.le_of_ble_eq_true rfl) ?_
  intro E C F T hΓ hL R
  subst hΓ
  subst hL
  show G E 0 0 0 [(0, .ref ((eG E).2.1 101)), (1, .int w)] [] σ τ o
  have hnw := Iv_nw I
  have hnl := Iv_nl I
  have h3 : σ 21 = nI nw := Iv_h3 I
  have h9 : σ 30 = nI nl := Iv_h9 I
  have h4 : ¬ σ 22 = 0 := Iv_ne I
  have I0 : IM (uS σ 20 0) τ nw nl lm := I
  have h30 : uS σ 20 0 21 = nI nw := h3
  have h90 : uS σ 20 0 30 = nI nl := h9
  have h40 : ¬ uS σ 20 0 22 = 0 := h4
  refine g_aload_n C dX1_wordAt_0 rfl rfl ?_
  refine g_iconst (v := 0) C dX1_wordAt_1 (by decide) ?_
  refine g_putM C 0 dX1_wordAt_2 mwX1_wordAt_inM (by decide) mwX1_wordAt_f45 rfl rfl (by decide +kernel) rfl ?_
  refine g_aload_n C dX1_wordAt_5 rfl rfl ?_
  refine g_iload_n C dX1_wordAt_6 rfl rfl ?_
  refine g_callVEi (Cl := RX1) (T := TX1) (N := 16) (ci := 1) (q0 := 12) (na := 1) C dX1_wordAt_7 (m_isPlace hl (eG E) (uS σ 20 0) τ o _) gX1_wordAt_X1_isPlace rfl rfl (by decide +kernel) rfl rfl rfl (Nat.le_of_ble_eq_true rfl) (by rw [R]; exact ⟨by decide, by decide⟩) (by rw [R]; exact ⟨by decide, by decide⟩) ?_
  refine g_if_eq (tgt := 22) C dX1_wordAt_10 (by decide) (fun c_10 => ?_) (fun c_10 => ?_)
  · refine g_aload_n C dX1_wordAt_22 rfl rfl ?_
    refine g_iconst (v := 1) C dX1_wordAt_23 (by decide) ?_
    refine g_callVEi (Cl := RX1) (T := TX1) (N := 16) (ci := 1) (q0 := 12) (na := 1) C dX1_wordAt_24 (m_fail hl (eG E) (uS σ 20 0) τ o 1) gX1_wordAt_X1_fail rfl rfl (by decide +kernel) rfl rfl rfl (Nat.le_of_ble_eq_true rfl) (by rw [R]; exact ⟨by decide, by decide⟩) (by rw [R]; exact ⟨by decide, by decide⟩) ?_
    exact g_iret C F dX1_wordAt_27 (by decide) (by decide) ⟨rfl, rfl, rfl, rfl⟩
  · exact absurd (by rw [h90]; exact ii_n (by omega) (by rw [← h9]; exact hw)) c_10
set_option maxRecDepth 100000 in
theorem mwX1_isJoined_inM : ∀ w ∈ wsX10, w ∈ wsX1_isJoined := by decide +kernel
set_option maxRecDepth 100000 in
theorem mwX1_isJoined_f45 : Cond.fieldLink RX1 45 "TelegraphPricesModel" "thrown" "I" ∈ wsX1_isJoined := by decide +kernel
set_option maxRecDepth 100000 in
theorem mwX1_isJoined_f32 : Cond.fieldLink RX1 32 "TelegraphPricesModel" "joined" "[Z" ∈ wsX1_isJoined := by decide +kernel
set_option maxHeartbeats 4000000 in
set_option maxRecDepth 100000 in
theorem m_isJoined {l : Launch} (hl : l.stackTraces = false) (Γ : gG) (σ : gS) (τ : gT) (o : gO) (nw nl lm : Nat) (p : Nat) (I : IM σ τ nw nl lm) (hp : p < nl) : Ct l yX1_isJoined wsX1_isJoined 3 96 0 0 [.ref (Γ.2.1 101), .int (nI p)] Γ σ τ o (pE (some (.int (τ 32 p))) (uS σ 20 0) τ o) (noX) := by
  refine ct_of hl (by decide +kernel) rfl (Nat.le_of_ble_eq_true rfl) ?_
  intro E C F T hΓ hL R
  subst hΓ
  subst hL
  show G E 0 0 0 [(0, .ref ((eG E).2.1 101)), (1, .int (nI p))] [] σ τ o
  have hnw := Iv_nw I
  have hnl := Iv_nl I
  have h3 : σ 21 = nI nw := Iv_h3 I
  have h9 : σ 30 = nI nl := Iv_h9 I
  have h4 : ¬ σ 22 = 0 := Iv_ne I
  have I0 : IM (uS σ 20 0) τ nw nl lm := I
  have h30 : uS σ 20 0 21 = nI nw := h3
  have h90 : uS σ 20 0 30 = nI nl := h9
  have h40 : ¬ uS σ 20 0 22 = 0 := h4
  refine g_aload_n C dX1_isJoined_0 rfl rfl ?_
  refine g_iconst (v := 0) C dX1_isJoined_1 (by decide) ?_
  refine g_putM C 0 dX1_isJoined_2 mwX1_isJoined_inM (by decide) mwX1_isJoined_f45 rfl rfl (by decide +kernel) rfl ?_
  refine g_aload_n C dX1_isJoined_5 rfl rfl ?_
  refine g_iload_n C dX1_isJoined_6 rfl rfl ?_
  refine g_callVEi (Cl := RX1) (T := TX1) (N := 16) (ci := 1) (q0 := 12) (na := 1) C dX1_isJoined_7 (m_isPlace hl (eG E) (uS σ 20 0) τ o _) gX1_isJoined_X1_isPlace rfl rfl (by decide +kernel) rfl rfl rfl (Nat.le_of_ble_eq_true rfl) (by rw [R]; exact ⟨by decide, by decide⟩) (by rw [R]; exact ⟨by decide, by decide⟩) ?_
  refine g_if_eq (tgt := 22) C dX1_isJoined_10 (by decide) (fun c_10 => ?_) (fun c_10 => ?_)
  · exact absurd c_10 (by rw [h90, ii_y hp (by omega)]; decide)
  · refine g_aload_n C dX1_isJoined_13 rfl rfl ?_
    refine g_getM C 12 dX1_isJoined_14 mwX1_isJoined_inM (by decide) mwX1_isJoined_f32 rfl rfl ?_
    refine g_iload_n C dX1_isJoined_17 rfl rfl ?_
    refine g_zaldN C (p) dX1_isJoined_18 rfl rfl (show p < 16 by omega) (by decide) ?_
    refine g_goto (tgt := 27) C dX1_isJoined_19 (by decide) ?_
    exact g_zret C F dX1_isJoined_27 (Iv_jd I p) (by decide) (by decide) ⟨rfl, rfl, rfl, rfl⟩
set_option maxHeartbeats 4000000 in
set_option maxRecDepth 100000 in
theorem m_isJoinedX {l : Launch} (hl : l.stackTraces = false) (Γ : gG) (σ : gS) (τ : gT) (o : gO) (nw nl lm : Nat) (w : Int32) (I : IM σ τ nw nl lm) (hw : w < 0 ∨ ¬ w < σ 30) : Ct l yX1_isJoined wsX1_isJoined 3 96 0 0 [.ref (Γ.2.1 101), .int w] Γ σ τ o (pE (some (.int 0)) (uS (uS σ 20 0) 20 1) τ o) (noX) := by
  refine ct_of hl (by decide +kernel) rfl (Nat.le_of_ble_eq_true rfl) ?_
  intro E C F T hΓ hL R
  subst hΓ
  subst hL
  show G E 0 0 0 [(0, .ref ((eG E).2.1 101)), (1, .int w)] [] σ τ o
  have hnw := Iv_nw I
  have hnl := Iv_nl I
  have h3 : σ 21 = nI nw := Iv_h3 I
  have h9 : σ 30 = nI nl := Iv_h9 I
  have h4 : ¬ σ 22 = 0 := Iv_ne I
  have I0 : IM (uS σ 20 0) τ nw nl lm := I
  have h30 : uS σ 20 0 21 = nI nw := h3
  have h90 : uS σ 20 0 30 = nI nl := h9
  have h40 : ¬ uS σ 20 0 22 = 0 := h4
  refine g_aload_n C dX1_isJoined_0 rfl rfl ?_
  refine g_iconst (v := 0) C dX1_isJoined_1 (by decide) ?_
  refine g_putM C 0 dX1_isJoined_2 mwX1_isJoined_inM (by decide) mwX1_isJoined_f45 rfl rfl (by decide +kernel) rfl ?_
  refine g_aload_n C dX1_isJoined_5 rfl rfl ?_
  refine g_iload_n C dX1_isJoined_6 rfl rfl ?_
  refine g_callVEi (Cl := RX1) (T := TX1) (N := 16) (ci := 1) (q0 := 12) (na := 1) C dX1_isJoined_7 (m_isPlace hl (eG E) (uS σ 20 0) τ o _) gX1_isJoined_X1_isPlace rfl rfl (by decide +kernel) rfl rfl rfl (Nat.le_of_ble_eq_true rfl) (by rw [R]; exact ⟨by decide, by decide⟩) (by rw [R]; exact ⟨by decide, by decide⟩) ?_
  refine g_if_eq (tgt := 22) C dX1_isJoined_10 (by decide) (fun c_10 => ?_) (fun c_10 => ?_)
  · refine g_aload_n C dX1_isJoined_22 rfl rfl ?_
    refine g_iconst (v := 1) C dX1_isJoined_23 (by decide) ?_
    refine g_callVEi (Cl := RX1) (T := TX1) (N := 16) (ci := 1) (q0 := 12) (na := 1) C dX1_isJoined_24 (m_failed hl (eG E) (uS σ 20 0) τ o 1) gX1_isJoined_X1_failed rfl rfl (by decide +kernel) rfl rfl rfl (Nat.le_of_ble_eq_true rfl) (by rw [R]; exact ⟨by decide, by decide⟩) (by rw [R]; exact ⟨by decide, by decide⟩) ?_
    exact g_zret C F dX1_isJoined_27 (Or.inl rfl) (by decide) (by decide) ⟨rfl, rfl, rfl, rfl⟩
  · exact absurd (by rw [h90]; exact ii_n (by omega) (by rw [← h9]; exact hw)) c_10
set_option maxRecDepth 100000 in
theorem mwX1_arePair_inM : ∀ w ∈ wsX10, w ∈ wsX1_arePair := by decide +kernel
set_option maxRecDepth 100000 in
theorem mwX1_arePair_f45 : Cond.fieldLink RX1 45 "TelegraphPricesModel" "thrown" "I" ∈ wsX1_arePair := by decide +kernel
set_option maxHeartbeats 4000000 in
set_option maxRecDepth 100000 in
theorem m_arePair {l : Launch} (hl : l.stackTraces = false) (Γ : gG) (σ : gS) (τ : gT) (o : gO) (nw nl lm : Nat) (a b : Nat) (I : IM σ τ nw nl lm) (ha : a < nw) (hb9 : b < nw) : Ct l yX1_arePair wsX1_arePair 3 96 0 0 [.ref (Γ.2.1 101), .int (nI a), .int (nI b)] Γ σ τ o (pE (some (.int 1)) (uS σ 20 0) τ o) (noX) := by
  refine ct_of hl (by decide +kernel) rfl (Nat.le_of_ble_eq_true rfl) ?_
  intro E C F T hΓ hL R
  subst hΓ
  subst hL
  show G E 0 0 0 [(0, .ref ((eG E).2.1 101)), (1, .int (nI a)), (2, .int (nI b))] [] σ τ o
  have hnw := Iv_nw I
  have hnl := Iv_nl I
  have h3 : σ 21 = nI nw := Iv_h3 I
  have h9 : σ 30 = nI nl := Iv_h9 I
  have h4 : ¬ σ 22 = 0 := Iv_ne I
  have I0 : IM (uS σ 20 0) τ nw nl lm := I
  have h30 : uS σ 20 0 21 = nI nw := h3
  have h90 : uS σ 20 0 30 = nI nl := h9
  have h40 : ¬ uS σ 20 0 22 = 0 := h4
  refine g_aload_n C dX1_arePair_0 rfl rfl ?_
  refine g_aload_n C dX1_arePair_1 rfl rfl ?_
  refine g_iload_n C dX1_arePair_2 rfl rfl ?_
  refine g_callVEi (Cl := RX1) (T := TX1) (N := 16) (ci := 1) (q0 := 12) (na := 1) C dX1_arePair_3 (m_isWord hl (eG E) σ τ o _) gX1_arePair_X1_isWord rfl rfl (by decide +kernel) rfl rfl rfl (Nat.le_of_ble_eq_true rfl) (by rw [R]; exact ⟨by decide, by decide⟩) (by rw [R]; exact ⟨by decide, by decide⟩) ?_
  refine g_if_eq (tgt := 21) C dX1_arePair_6 (by decide) (fun c_6 => ?_) (fun c_6 => ?_)
  · exact absurd c_6 (by rw [h3, ii_y ha (by omega)]; decide)
  · refine g_aload_n C dX1_arePair_9 rfl rfl ?_
    refine g_iload_n C dX1_arePair_10 rfl rfl ?_
    refine g_callVEi (Cl := RX1) (T := TX1) (N := 16) (ci := 1) (q0 := 12) (na := 1) C dX1_arePair_11 (m_isWord hl (eG E) σ τ o _) gX1_arePair_X1_isWord rfl rfl (by decide +kernel) rfl rfl rfl (Nat.le_of_ble_eq_true rfl) (by rw [R]; exact ⟨by decide, by decide⟩) (by rw [R]; exact ⟨by decide, by decide⟩) ?_
    refine g_if_eq (tgt := 21) C dX1_arePair_14 (by decide) (fun c_14 => ?_) (fun c_14 => ?_)
    · exact absurd c_14 (by rw [h3, ii_y hb9 (by omega)]; decide)
    · refine g_iconst (v := 0) C dX1_arePair_17 (by decide) ?_
      refine g_goto (tgt := 22) C dX1_arePair_18 (by decide) ?_
      refine g_putM C 0 dX1_arePair_22 mwX1_arePair_inM (by decide) mwX1_arePair_f45 rfl rfl (by decide +kernel) rfl ?_
      refine g_aload_n C dX1_arePair_25 rfl rfl ?_
      refine g_getM C 0 dX1_arePair_26 mwX1_arePair_inM (by decide) mwX1_arePair_f45 rfl rfl ?_
      refine g_if_ne (tgt := 36) C dX1_arePair_29 (by decide) (fun c_29 => ?_) (fun c_29 => ?_)
      · exact absurd rfl c_29
      · refine g_iconst (v := 1) C dX1_arePair_32 (by decide) ?_
        refine g_goto (tgt := 37) C dX1_arePair_33 (by decide) ?_
        exact g_zret C F dX1_arePair_37 (by first | exact Or.inl rfl | exact Or.inr rfl) (by decide) (by decide) ⟨rfl, rfl, rfl, rfl⟩
set_option maxHeartbeats 4000000 in
set_option maxRecDepth 100000 in
theorem m_arePairX {l : Launch} (hl : l.stackTraces = false) (Γ : gG) (σ : gS) (τ : gT) (o : gO) (nw nl lm : Nat) (w v : Int32) (I : IM σ τ nw nl lm) (hw : (w < 0 ∨ ¬ w < σ 21) ∨ (v < 0 ∨ ¬ v < σ 21)) : Ct l yX1_arePair wsX1_arePair 3 96 0 0 [.ref (Γ.2.1 101), .int w, .int v] Γ σ τ o (pE (some (.int 0)) (uS σ 20 1) τ o) (noX) := by
  refine ct_of hl (by decide +kernel) rfl (Nat.le_of_ble_eq_true rfl) ?_
  intro E C F T hΓ hL R
  subst hΓ
  subst hL
  show G E 0 0 0 [(0, .ref ((eG E).2.1 101)), (1, .int w), (2, .int v)] [] σ τ o
  have hnw := Iv_nw I
  have hnl := Iv_nl I
  have h3 : σ 21 = nI nw := Iv_h3 I
  have h9 : σ 30 = nI nl := Iv_h9 I
  have h4 : ¬ σ 22 = 0 := Iv_ne I
  have I0 : IM (uS σ 20 0) τ nw nl lm := I
  have h30 : uS σ 20 0 21 = nI nw := h3
  have h90 : uS σ 20 0 30 = nI nl := h9
  have h40 : ¬ uS σ 20 0 22 = 0 := h4
  refine g_aload_n C dX1_arePair_0 rfl rfl ?_
  refine g_aload_n C dX1_arePair_1 rfl rfl ?_
  refine g_iload_n C dX1_arePair_2 rfl rfl ?_
  refine g_callVEi (Cl := RX1) (T := TX1) (N := 16) (ci := 1) (q0 := 12) (na := 1) C dX1_arePair_3 (m_isWord hl (eG E) σ τ o _) gX1_arePair_X1_isWord rfl rfl (by decide +kernel) rfl rfl rfl (Nat.le_of_ble_eq_true rfl) (by rw [R]; exact ⟨by decide, by decide⟩) (by rw [R]; exact ⟨by decide, by decide⟩) ?_
  refine g_if_eq (tgt := 21) C dX1_arePair_6 (by decide) (fun c_6 => ?_) (fun c_6 => ?_)
  · refine g_iconst (v := 1) C dX1_arePair_21 (by decide) ?_
    refine g_putM C 0 dX1_arePair_22 mwX1_arePair_inM (by decide) mwX1_arePair_f45 rfl rfl (by decide +kernel) rfl ?_
    refine g_aload_n C dX1_arePair_25 rfl rfl ?_
    refine g_getM C 0 dX1_arePair_26 mwX1_arePair_inM (by decide) mwX1_arePair_f45 rfl rfl ?_
    refine g_if_ne (tgt := 36) C dX1_arePair_29 (by decide) (fun c_29 => ?_) (fun c_29 => ?_)
    · refine g_iconst (v := 0) C dX1_arePair_36 (by decide) ?_
      exact g_zret C F dX1_arePair_37 (by first | exact Or.inl rfl | exact Or.inr rfl) (by decide) (by decide) ⟨rfl, rfl, rfl, rfl⟩
    · exact absurd (show (1 : Int32) = 0 from c_29) (by decide)
  · refine g_aload_n C dX1_arePair_9 rfl rfl ?_
    refine g_iload_n C dX1_arePair_10 rfl rfl ?_
    refine g_callVEi (Cl := RX1) (T := TX1) (N := 16) (ci := 1) (q0 := 12) (na := 1) C dX1_arePair_11 (m_isWord hl (eG E) σ τ o _) gX1_arePair_X1_isWord rfl rfl (by decide +kernel) rfl rfl rfl (Nat.le_of_ble_eq_true rfl) (by rw [R]; exact ⟨by decide, by decide⟩) (by rw [R]; exact ⟨by decide, by decide⟩) ?_
    refine g_if_eq (tgt := 21) C dX1_arePair_14 (by decide) (fun c_14 => ?_) (fun c_14 => ?_)
    · refine g_iconst (v := 1) C dX1_arePair_21 (by decide) ?_
      refine g_putM C 0 dX1_arePair_22 mwX1_arePair_inM (by decide) mwX1_arePair_f45 rfl rfl (by decide +kernel) rfl ?_
      refine g_aload_n C dX1_arePair_25 rfl rfl ?_
      refine g_getM C 0 dX1_arePair_26 mwX1_arePair_inM (by decide) mwX1_arePair_f45 rfl rfl ?_
      refine g_if_ne (tgt := 36) C dX1_arePair_29 (by decide) (fun c_29 => ?_) (fun c_29 => ?_)
      · refine g_iconst (v := 0) C dX1_arePair_36 (by decide) ?_
        exact g_zret C F dX1_arePair_37 (by first | exact Or.inl rfl | exact Or.inr rfl) (by decide) (by decide) ⟨rfl, rfl, rfl, rfl⟩
      · exact absurd (show (1 : Int32) = 0 from c_29) (by decide)
    · rcases hw with hw | hw
      · exact absurd (by rw [h3]; exact ii_n (by omega) (by rw [← h3]; exact hw)) c_6
      · exact absurd (by rw [h3]; exact ii_n (by omega) (by rw [← h3]; exact hw)) c_14
set_option maxRecDepth 100000 in
theorem mwX1_mayStandFor_inM : ∀ w ∈ wsX10, w ∈ wsX1_mayStandFor := by decide +kernel
set_option maxRecDepth 100000 in
theorem mwX1_mayStandFor_f23 : Cond.fieldLink RX1 23 "TelegraphPricesModel" "stand" "[I" ∈ wsX1_mayStandFor := by decide +kernel
set_option maxHeartbeats 4000000 in
set_option maxRecDepth 100000 in
theorem m_mayStandFor {l : Launch} (hl : l.stackTraces = false) (Γ : gG) (σ : gS) (τ : gT) (o : gO) (nw nl lm : Nat) (a b : Nat) (I : IM σ τ nw nl lm) (ha : a < nw) (hb9 : b < nw) : Ct l yX1_mayStandFor wsX1_mayStandFor 4 128 0 0 [.ref (Γ.2.1 101), .int (nI a), .int (nI b)] Γ σ τ o (pE (some (.int (hb (τ 28 a) (nI b)))) (uS σ 20 0) τ o) (noX) := by
  refine ct_of hl (by decide +kernel) rfl (Nat.le_of_ble_eq_true rfl) ?_
  intro E C F T hΓ hL R
  subst hΓ
  subst hL
  show G E 0 0 0 [(0, .ref ((eG E).2.1 101)), (1, .int (nI a)), (2, .int (nI b))] [] σ τ o
  have hnw := Iv_nw I
  have hnl := Iv_nl I
  have h3 : σ 21 = nI nw := Iv_h3 I
  have h9 : σ 30 = nI nl := Iv_h9 I
  have h4 : ¬ σ 22 = 0 := Iv_ne I
  have I0 : IM (uS σ 20 0) τ nw nl lm := I
  have h30 : uS σ 20 0 21 = nI nw := h3
  have h90 : uS σ 20 0 30 = nI nl := h9
  have h40 : ¬ uS σ 20 0 22 = 0 := h4
  refine g_aload_n C dX1_mayStandFor_0 rfl rfl ?_
  refine g_iload_n C dX1_mayStandFor_1 rfl rfl ?_
  refine g_iload_n C dX1_mayStandFor_2 rfl rfl ?_
  refine g_callVEi (Cl := RX1) (T := TX1) (N := 16) (ci := 1) (q0 := 12) (na := 2) C dX1_mayStandFor_3 (m_arePair hl (eG E) σ τ o nw nl lm a b I ha hb9) gX1_mayStandFor_X1_arePair rfl rfl (by decide +kernel) rfl rfl rfl (Nat.le_of_ble_eq_true rfl) (by rw [R]; exact ⟨by decide, by decide⟩) (by rw [R]; exact ⟨by decide, by decide⟩) ?_
  refine g_if_eq (tgt := 26) C dX1_mayStandFor_6 (by decide) (fun c_6 => ?_) (fun c_6 => ?_)
  · exact absurd c_6 (by decide)
  · refine g_aload_n C dX1_mayStandFor_9 rfl rfl ?_
    refine g_getM C 8 dX1_mayStandFor_10 mwX1_mayStandFor_inM (by decide) mwX1_mayStandFor_f23 rfl rfl ?_
    refine g_iload_n C dX1_mayStandFor_13 rfl rfl ?_
    refine g_ialdN C (a) dX1_mayStandFor_14 rfl rfl (show a < 12 by omega) (by decide) ?_
    refine g_iload_n C dX1_mayStandFor_15 rfl rfl ?_
    refine g_callSEi (na := 2) C dX1_mayStandFor_16 (m_has hl (eG E) (uS σ 20 0) τ o _ _) gX1_mayStandFor_X1_has rfl rfl (by decide +kernel) rfl (Nat.le_of_ble_eq_true rfl) (by rw [R]; exact ⟨by decide, by decide⟩) (by rw [R]; exact ⟨by decide, by decide⟩) ?_
    refine g_if_eq (tgt := 26) C dX1_mayStandFor_19 (by decide) (fun c_19 => ?_) (fun c_19 => ?_)
    · have e : hb (τ 28 a) (nI b) = 0 := c_19
      refine g_iconst (v := 0) C dX1_mayStandFor_26 (by decide) ?_
      exact g_zret C F dX1_mayStandFor_27 (by first | exact Or.inl rfl | exact Or.inr rfl) (by decide) (by decide) ⟨by rw [e], rfl, rfl, rfl⟩
    · have e : hb (τ 28 a) (nI b) = 1 := (hb_01 _ _).resolve_left c_19
      refine g_iconst (v := 1) C dX1_mayStandFor_22 (by decide) ?_
      refine g_goto (tgt := 27) C dX1_mayStandFor_23 (by decide) ?_
      exact g_zret C F dX1_mayStandFor_27 (by first | exact Or.inl rfl | exact Or.inr rfl) (by decide) (by decide) ⟨by rw [e], rfl, rfl, rfl⟩
set_option maxHeartbeats 4000000 in
set_option maxRecDepth 100000 in
theorem m_mayStandForX {l : Launch} (hl : l.stackTraces = false) (Γ : gG) (σ : gS) (τ : gT) (o : gO) (nw nl lm : Nat) (w v : Int32) (I : IM σ τ nw nl lm) (hw : (w < 0 ∨ ¬ w < σ 21) ∨ (v < 0 ∨ ¬ v < σ 21)) : Ct l yX1_mayStandFor wsX1_mayStandFor 4 128 0 0 [.ref (Γ.2.1 101), .int w, .int v] Γ σ τ o (pE (some (.int 0)) (uS σ 20 1) τ o) (noX) := by
  refine ct_of hl (by decide +kernel) rfl (Nat.le_of_ble_eq_true rfl) ?_
  intro E C F T hΓ hL R
  subst hΓ
  subst hL
  show G E 0 0 0 [(0, .ref ((eG E).2.1 101)), (1, .int w), (2, .int v)] [] σ τ o
  have hnw := Iv_nw I
  have hnl := Iv_nl I
  have h3 : σ 21 = nI nw := Iv_h3 I
  have h9 : σ 30 = nI nl := Iv_h9 I
  have h4 : ¬ σ 22 = 0 := Iv_ne I
  have I0 : IM (uS σ 20 0) τ nw nl lm := I
  have h30 : uS σ 20 0 21 = nI nw := h3
  have h90 : uS σ 20 0 30 = nI nl := h9
  have h40 : ¬ uS σ 20 0 22 = 0 := h4
  refine g_aload_n C dX1_mayStandFor_0 rfl rfl ?_
  refine g_iload_n C dX1_mayStandFor_1 rfl rfl ?_
  refine g_iload_n C dX1_mayStandFor_2 rfl rfl ?_
  refine g_callVEi (Cl := RX1) (T := TX1) (N := 16) (ci := 1) (q0 := 12) (na := 2) C dX1_mayStandFor_3 (m_arePairX hl (eG E) σ τ o nw nl lm w v I hw) gX1_mayStandFor_X1_arePair rfl rfl (by decide +kernel) rfl rfl rfl (Nat.le_of_ble_eq_true rfl) (by rw [R]; exact ⟨by decide, by decide⟩) (by rw [R]; exact ⟨by decide, by decide⟩) ?_
  refine g_if_eq (tgt := 26) C dX1_mayStandFor_6 (by decide) (fun c_6 => ?_) (fun c_6 => ?_)
  · refine g_iconst (v := 0) C dX1_mayStandFor_26 (by decide) ?_
    exact g_zret C F dX1_mayStandFor_27 (Or.inl rfl) (by decide) (by decide) ⟨rfl, rfl, rfl, rfl⟩
  · exact absurd rfl c_6
set_option maxRecDepth 100000 in
theorem mwX1_mayJoin_inM : ∀ w ∈ wsX10, w ∈ wsX1_mayJoin := by decide +kernel
set_option maxRecDepth 100000 in
theorem mwX1_mayJoin_f26 : Cond.fieldLink RX1 26 "TelegraphPricesModel" "join" "[I" ∈ wsX1_mayJoin := by decide +kernel
set_option maxHeartbeats 4000000 in
set_option maxRecDepth 100000 in
theorem m_mayJoin {l : Launch} (hl : l.stackTraces = false) (Γ : gG) (σ : gS) (τ : gT) (o : gO) (nw nl lm : Nat) (a b : Nat) (I : IM σ τ nw nl lm) (ha : a < nw) (hb9 : b < nw) : Ct l yX1_mayJoin wsX1_mayJoin 4 128 0 0 [.ref (Γ.2.1 101), .int (nI a), .int (nI b)] Γ σ τ o (pE (some (.int (hb (τ 29 a) (nI b)))) (uS σ 20 0) τ o) (noX) := by
  refine ct_of hl (by decide +kernel) rfl (Nat.le_of_ble_eq_true rfl) ?_
  intro E C F T hΓ hL R
  subst hΓ
  subst hL
  show G E 0 0 0 [(0, .ref ((eG E).2.1 101)), (1, .int (nI a)), (2, .int (nI b))] [] σ τ o
  have hnw := Iv_nw I
  have hnl := Iv_nl I
  have h3 : σ 21 = nI nw := Iv_h3 I
  have h9 : σ 30 = nI nl := Iv_h9 I
  have h4 : ¬ σ 22 = 0 := Iv_ne I
  have I0 : IM (uS σ 20 0) τ nw nl lm := I
  have h30 : uS σ 20 0 21 = nI nw := h3
  have h90 : uS σ 20 0 30 = nI nl := h9
  have h40 : ¬ uS σ 20 0 22 = 0 := h4
  refine g_aload_n C dX1_mayJoin_0 rfl rfl ?_
  refine g_iload_n C dX1_mayJoin_1 rfl rfl ?_
  refine g_iload_n C dX1_mayJoin_2 rfl rfl ?_
  refine g_callVEi (Cl := RX1) (T := TX1) (N := 16) (ci := 1) (q0 := 12) (na := 2) C dX1_mayJoin_3 (m_arePair hl (eG E) σ τ o nw nl lm a b I ha hb9) gX1_mayJoin_X1_arePair rfl rfl (by decide +kernel) rfl rfl rfl (Nat.le_of_ble_eq_true rfl) (by rw [R]; exact ⟨by decide, by decide⟩) (by rw [R]; exact ⟨by decide, by decide⟩) ?_
  refine g_if_eq (tgt := 26) C dX1_mayJoin_6 (by decide) (fun c_6 => ?_) (fun c_6 => ?_)
  · exact absurd c_6 (by decide)
  · refine g_aload_n C dX1_mayJoin_9 rfl rfl ?_
    refine g_getM C 9 dX1_mayJoin_10 mwX1_mayJoin_inM (by decide) mwX1_mayJoin_f26 rfl rfl ?_
    refine g_iload_n C dX1_mayJoin_13 rfl rfl ?_
    refine g_ialdN C (a) dX1_mayJoin_14 rfl rfl (show a < 12 by omega) (by decide) ?_
    refine g_iload_n C dX1_mayJoin_15 rfl rfl ?_
    refine g_callSEi (na := 2) C dX1_mayJoin_16 (m_has hl (eG E) (uS σ 20 0) τ o _ _) gX1_mayJoin_X1_has rfl rfl (by decide +kernel) rfl (Nat.le_of_ble_eq_true rfl) (by rw [R]; exact ⟨by decide, by decide⟩) (by rw [R]; exact ⟨by decide, by decide⟩) ?_
    refine g_if_eq (tgt := 26) C dX1_mayJoin_19 (by decide) (fun c_19 => ?_) (fun c_19 => ?_)
    · have e : hb (τ 29 a) (nI b) = 0 := c_19
      refine g_iconst (v := 0) C dX1_mayJoin_26 (by decide) ?_
      exact g_zret C F dX1_mayJoin_27 (by first | exact Or.inl rfl | exact Or.inr rfl) (by decide) (by decide) ⟨by rw [e], rfl, rfl, rfl⟩
    · have e : hb (τ 29 a) (nI b) = 1 := (hb_01 _ _).resolve_left c_19
      refine g_iconst (v := 1) C dX1_mayJoin_22 (by decide) ?_
      refine g_goto (tgt := 27) C dX1_mayJoin_23 (by decide) ?_
      exact g_zret C F dX1_mayJoin_27 (by first | exact Or.inl rfl | exact Or.inr rfl) (by decide) (by decide) ⟨by rw [e], rfl, rfl, rfl⟩
set_option maxHeartbeats 4000000 in
set_option maxRecDepth 100000 in
theorem m_mayJoinX {l : Launch} (hl : l.stackTraces = false) (Γ : gG) (σ : gS) (τ : gT) (o : gO) (nw nl lm : Nat) (w v : Int32) (I : IM σ τ nw nl lm) (hw : (w < 0 ∨ ¬ w < σ 21) ∨ (v < 0 ∨ ¬ v < σ 21)) : Ct l yX1_mayJoin wsX1_mayJoin 4 128 0 0 [.ref (Γ.2.1 101), .int w, .int v] Γ σ τ o (pE (some (.int 0)) (uS σ 20 1) τ o) (noX) := by
  refine ct_of hl (by decide +kernel) rfl (Nat.le_of_ble_eq_true rfl) ?_
  intro E C F T hΓ hL R
  subst hΓ
  subst hL
  show G E 0 0 0 [(0, .ref ((eG E).2.1 101)), (1, .int w), (2, .int v)] [] σ τ o
  have hnw := Iv_nw I
  have hnl := Iv_nl I
  have h3 : σ 21 = nI nw := Iv_h3 I
  have h9 : σ 30 = nI nl := Iv_h9 I
  have h4 : ¬ σ 22 = 0 := Iv_ne I
  have I0 : IM (uS σ 20 0) τ nw nl lm := I
  have h30 : uS σ 20 0 21 = nI nw := h3
  have h90 : uS σ 20 0 30 = nI nl := h9
  have h40 : ¬ uS σ 20 0 22 = 0 := h4
  refine g_aload_n C dX1_mayJoin_0 rfl rfl ?_
  refine g_iload_n C dX1_mayJoin_1 rfl rfl ?_
  refine g_iload_n C dX1_mayJoin_2 rfl rfl ?_
  refine g_callVEi (Cl := RX1) (T := TX1) (N := 16) (ci := 1) (q0 := 12) (na := 2) C dX1_mayJoin_3 (m_arePairX hl (eG E) σ τ o nw nl lm w v I hw) gX1_mayJoin_X1_arePair rfl rfl (by decide +kernel) rfl rfl rfl (Nat.le_of_ble_eq_true rfl) (by rw [R]; exact ⟨by decide, by decide⟩) (by rw [R]; exact ⟨by decide, by decide⟩) ?_
  refine g_if_eq (tgt := 26) C dX1_mayJoin_6 (by decide) (fun c_6 => ?_) (fun c_6 => ?_)
  · refine g_iconst (v := 0) C dX1_mayJoin_26 (by decide) ?_
    exact g_zret C F dX1_mayJoin_27 (Or.inl rfl) (by decide) (by decide) ⟨rfl, rfl, rfl, rfl⟩
  · exact absurd rfl c_6
set_option maxRecDepth 100000 in
theorem mwX1_turnStandIn_inM : ∀ w ∈ wsX10, w ∈ wsX1_turnStandIn := by decide +kernel
set_option maxRecDepth 100000 in
theorem mwX1_turnStandIn_f23 : Cond.fieldLink RX1 23 "TelegraphPricesModel" "stand" "[I" ∈ wsX1_turnStandIn := by decide +kernel
set_option maxHeartbeats 4000000 in
set_option maxRecDepth 100000 in
theorem m_turnStandIn {l : Launch} (hl : l.stackTraces = false) (Γ : gG) (σ : gS) (τ : gT) (o : gO) (nw nl lm : Nat) (a b : Nat) (I : IM σ τ nw nl lm) (ha : a < nw) (hb9 : b < nw) (hne : a ≠ b) : Ct l yX1_turnStandIn wsX1_turnStandIn 4 128 0 0 [.ref (Γ.2.1 101), .int (nI a), .int (nI b)] Γ σ τ o (pE (some (.int (hb (τ 28 a ^^^ ((1 : Int32) <<< (nI b &&& 31))) (nI b)))) (uS σ 20 0) (uT τ 28 a (τ 28 a ^^^ ((1 : Int32) <<< (nI b &&& 31)))) o) (noX) := by
  refine ct_of hl (by decide +kernel) rfl (Nat.le_of_ble_eq_true rfl) ?_
  intro E C F T hΓ hL R
  subst hΓ
  subst hL
  show G E 0 0 0 [(0, .ref ((eG E).2.1 101)), (1, .int (nI a)), (2, .int (nI b))] [] σ τ o
  have hnw := Iv_nw I
  have hnl := Iv_nl I
  have h3 : σ 21 = nI nw := Iv_h3 I
  have h9 : σ 30 = nI nl := Iv_h9 I
  have h4 : ¬ σ 22 = 0 := Iv_ne I
  have I0 : IM (uS σ 20 0) τ nw nl lm := I
  have h30 : uS σ 20 0 21 = nI nw := h3
  have h90 : uS σ 20 0 30 = nI nl := h9
  have h40 : ¬ uS σ 20 0 22 = 0 := h4
  refine g_aload_n C dX1_turnStandIn_0 rfl rfl ?_
  refine g_iload_n C dX1_turnStandIn_1 rfl rfl ?_
  refine g_iload_n C dX1_turnStandIn_2 rfl rfl ?_
  refine g_callVEi (Cl := RX1) (T := TX1) (N := 16) (ci := 1) (q0 := 12) (na := 2) C dX1_turnStandIn_3 (m_arePair hl (eG E) σ τ o nw nl lm a b I ha hb9) gX1_turnStandIn_X1_arePair rfl rfl (by decide +kernel) rfl rfl rfl (Nat.le_of_ble_eq_true rfl) (by rw [R]; exact ⟨by decide, by decide⟩) (by rw [R]; exact ⟨by decide, by decide⟩) ?_
  refine g_if_ne (tgt := 11) C dX1_turnStandIn_6 (by decide) (fun c_6 => ?_) (fun c_6 => ?_)
  · refine g_iload_n C dX1_turnStandIn_11 rfl rfl ?_
    refine g_iload_n C dX1_turnStandIn_12 rfl rfl ?_
    refine g_icmp_ne (tgt := 22) C dX1_turnStandIn_13 (by decide) (fun c_13 => ?_) (fun c_13 => ?_)
    · refine g_aload_n C dX1_turnStandIn_22 rfl rfl ?_
      refine g_getM C 8 dX1_turnStandIn_23 mwX1_turnStandIn_inM (by decide) mwX1_turnStandIn_f23 rfl rfl ?_
      refine g_iload_n C dX1_turnStandIn_26 rfl rfl ?_
      refine g_dup2 C dX1_turnStandIn_27 rfl rfl ?_
      refine g_ialdN C (a) dX1_turnStandIn_28 rfl rfl (show a < 12 by omega) (by decide) ?_
      refine g_iconst (v := 1) C dX1_turnStandIn_29 (by decide) ?_
      refine g_iload_n C dX1_turnStandIn_30 rfl rfl ?_
      refine g_ishl C dX1_turnStandIn_31 ?_
      refine g_ixor C dX1_turnStandIn_32 ?_
      refine g_iastN C (a) dX1_turnStandIn_33 rfl rfl (show a < 12 by omega) (by decide) rfl ?_
      refine g_aload_n C dX1_turnStandIn_34 rfl rfl ?_
      refine g_getM C 8 dX1_turnStandIn_35 mwX1_turnStandIn_inM (by decide) mwX1_turnStandIn_f23 rfl rfl ?_
      refine g_iload_n C dX1_turnStandIn_38 rfl rfl ?_
      refine g_ialdN C (a) dX1_turnStandIn_39 rfl rfl (show a < 12 by omega) (by decide) ?_
      refine g_topi (show _ = (τ 28 a ^^^ ((1 : Int32) <<< (nI b &&& 31))) by rw [uT_eq, upd_eq]) ?_
      refine g_iload_n C dX1_turnStandIn_40 rfl rfl ?_
      refine g_callSEi (na := 2) C dX1_turnStandIn_41 (m_has hl (eG E) (uS σ 20 0) (uT τ 28 a (τ 28 a ^^^ ((1 : Int32) <<< (nI b &&& 31)))) o _ _) gX1_turnStandIn_X1_has rfl rfl (by decide +kernel) rfl (Nat.le_of_ble_eq_true rfl) (by rw [R]; exact ⟨by decide, by decide⟩) (by rw [R]; exact ⟨by decide, by decide⟩) ?_
      exact g_zret C F dX1_turnStandIn_44 (hb_01 _ _) (by decide) (by decide) ⟨rfl, rfl, rfl, rfl⟩
    · exact absurd ((nI_eq (show a < 2 ^ 31 by omega) (show b < 2 ^ 31 by omega)).mp c_13) hne
  · exact absurd c_6 (by decide)
set_option maxHeartbeats 4000000 in
set_option maxRecDepth 100000 in
theorem m_turnStandInX {l : Launch} (hl : l.stackTraces = false) (Γ : gG) (σ : gS) (τ : gT) (o : gO) (nw nl lm : Nat) (w v : Int32) (I : IM σ τ nw nl lm) (hw : (w < 0 ∨ ¬ w < σ 21) ∨ (v < 0 ∨ ¬ v < σ 21)) : Ct l yX1_turnStandIn wsX1_turnStandIn 4 128 0 0 [.ref (Γ.2.1 101), .int w, .int v] Γ σ τ o (pE (some (.int 0)) (uS σ 20 1) τ o) (noX) := by
  refine ct_of hl (by decide +kernel) rfl (Nat.le_of_ble_eq_true rfl) ?_
  intro E C F T hΓ hL R
  subst hΓ
  subst hL
  show G E 0 0 0 [(0, .ref ((eG E).2.1 101)), (1, .int w), (2, .int v)] [] σ τ o
  have hnw := Iv_nw I
  have hnl := Iv_nl I
  have h3 : σ 21 = nI nw := Iv_h3 I
  have h9 : σ 30 = nI nl := Iv_h9 I
  have h4 : ¬ σ 22 = 0 := Iv_ne I
  have I0 : IM (uS σ 20 0) τ nw nl lm := I
  have h30 : uS σ 20 0 21 = nI nw := h3
  have h90 : uS σ 20 0 30 = nI nl := h9
  have h40 : ¬ uS σ 20 0 22 = 0 := h4
  refine g_aload_n C dX1_turnStandIn_0 rfl rfl ?_
  refine g_iload_n C dX1_turnStandIn_1 rfl rfl ?_
  refine g_iload_n C dX1_turnStandIn_2 rfl rfl ?_
  refine g_callVEi (Cl := RX1) (T := TX1) (N := 16) (ci := 1) (q0 := 12) (na := 2) C dX1_turnStandIn_3 (m_arePairX hl (eG E) σ τ o nw nl lm w v I hw) gX1_turnStandIn_X1_arePair rfl rfl (by decide +kernel) rfl rfl rfl (Nat.le_of_ble_eq_true rfl) (by rw [R]; exact ⟨by decide, by decide⟩) (by rw [R]; exact ⟨by decide, by decide⟩) ?_
  refine g_if_ne (tgt := 11) C dX1_turnStandIn_6 (by decide) (fun c_6 => ?_) (fun c_6 => ?_)
  · exact absurd rfl c_6
  · refine g_iconst (v := 0) C dX1_turnStandIn_9 (by decide) ?_
    exact g_zret C F dX1_turnStandIn_10 (Or.inl rfl) (by decide) (by decide) ⟨rfl, rfl, rfl, rfl⟩
set_option maxRecDepth 100000 in
theorem mwX1_turnJoin_inM : ∀ w ∈ wsX10, w ∈ wsX1_turnJoin := by decide +kernel
set_option maxRecDepth 100000 in
theorem mwX1_turnJoin_f26 : Cond.fieldLink RX1 26 "TelegraphPricesModel" "join" "[I" ∈ wsX1_turnJoin := by decide +kernel
set_option maxHeartbeats 4000000 in
set_option maxRecDepth 100000 in
theorem m_turnJoin {l : Launch} (hl : l.stackTraces = false) (Γ : gG) (σ : gS) (τ : gT) (o : gO) (nw nl lm : Nat) (a b : Nat) (I : IM σ τ nw nl lm) (ha : a < nw) (hb9 : b < nw) : Ct l yX1_turnJoin wsX1_turnJoin 4 128 0 0 [.ref (Γ.2.1 101), .int (nI a), .int (nI b)] Γ σ τ o (pE (some (.int (hb (τ 29 a ^^^ ((1 : Int32) <<< (nI b &&& 31))) (nI b)))) (uS σ 20 0) (uT τ 29 a (τ 29 a ^^^ ((1 : Int32) <<< (nI b &&& 31)))) o) (noX) := by
  refine ct_of hl (by decide +kernel) rfl (Nat.le_of_ble_eq_true rfl) ?_
  intro E C F T hΓ hL R
  subst hΓ
  subst hL
  show G E 0 0 0 [(0, .ref ((eG E).2.1 101)), (1, .int (nI a)), (2, .int (nI b))] [] σ τ o
  have hnw := Iv_nw I
  have hnl := Iv_nl I
  have h3 : σ 21 = nI nw := Iv_h3 I
  have h9 : σ 30 = nI nl := Iv_h9 I
  have h4 : ¬ σ 22 = 0 := Iv_ne I
  have I0 : IM (uS σ 20 0) τ nw nl lm := I
  have h30 : uS σ 20 0 21 = nI nw := h3
  have h90 : uS σ 20 0 30 = nI nl := h9
  have h40 : ¬ uS σ 20 0 22 = 0 := h4
  refine g_aload_n C dX1_turnJoin_0 rfl rfl ?_
  refine g_iload_n C dX1_turnJoin_1 rfl rfl ?_
  refine g_iload_n C dX1_turnJoin_2 rfl rfl ?_
  refine g_callVEi (Cl := RX1) (T := TX1) (N := 16) (ci := 1) (q0 := 12) (na := 2) C dX1_turnJoin_3 (m_arePair hl (eG E) σ τ o nw nl lm a b I ha hb9) gX1_turnJoin_X1_arePair rfl rfl (by decide +kernel) rfl rfl rfl (Nat.le_of_ble_eq_true rfl) (by rw [R]; exact ⟨by decide, by decide⟩) (by rw [R]; exact ⟨by decide, by decide⟩) ?_
  refine g_if_ne (tgt := 11) C dX1_turnJoin_6 (by decide) (fun c_6 => ?_) (fun c_6 => ?_)
  · refine g_aload_n C dX1_turnJoin_11 rfl rfl ?_
    refine g_getM C 9 dX1_turnJoin_12 mwX1_turnJoin_inM (by decide) mwX1_turnJoin_f26 rfl rfl ?_
    refine g_iload_n C dX1_turnJoin_15 rfl rfl ?_
    refine g_dup2 C dX1_turnJoin_16 rfl rfl ?_
    refine g_ialdN C (a) dX1_turnJoin_17 rfl rfl (show a < 12 by omega) (by decide) ?_
    refine g_iconst (v := 1) C dX1_turnJoin_18 (by decide) ?_
    refine g_iload_n C dX1_turnJoin_19 rfl rfl ?_
    refine g_ishl C dX1_turnJoin_20 ?_
    refine g_ixor C dX1_turnJoin_21 ?_
    refine g_iastN C (a) dX1_turnJoin_22 rfl rfl (show a < 12 by omega) (by decide) rfl ?_
    refine g_aload_n C dX1_turnJoin_23 rfl rfl ?_
    refine g_getM C 9 dX1_turnJoin_24 mwX1_turnJoin_inM (by decide) mwX1_turnJoin_f26 rfl rfl ?_
    refine g_iload_n C dX1_turnJoin_27 rfl rfl ?_
    refine g_ialdN C (a) dX1_turnJoin_28 rfl rfl (show a < 12 by omega) (by decide) ?_
    refine g_topi (show _ = (τ 29 a ^^^ ((1 : Int32) <<< (nI b &&& 31))) by rw [uT_eq, upd_eq]) ?_
    refine g_iload_n C dX1_turnJoin_29 rfl rfl ?_
    refine g_callSEi (na := 2) C dX1_turnJoin_30 (m_has hl (eG E) (uS σ 20 0) (uT τ 29 a (τ 29 a ^^^ ((1 : Int32) <<< (nI b &&& 31)))) o _ _) gX1_turnJoin_X1_has rfl rfl (by decide +kernel) rfl (Nat.le_of_ble_eq_true rfl) (by rw [R]; exact ⟨by decide, by decide⟩) (by rw [R]; exact ⟨by decide, by decide⟩) ?_
    exact g_zret C F dX1_turnJoin_33 (hb_01 _ _) (by decide) (by decide) ⟨rfl, rfl, rfl, rfl⟩
  · exact absurd c_6 (by decide)
set_option maxHeartbeats 4000000 in
set_option maxRecDepth 100000 in
theorem m_turnJoinX {l : Launch} (hl : l.stackTraces = false) (Γ : gG) (σ : gS) (τ : gT) (o : gO) (nw nl lm : Nat) (w v : Int32) (I : IM σ τ nw nl lm) (hw : (w < 0 ∨ ¬ w < σ 21) ∨ (v < 0 ∨ ¬ v < σ 21)) : Ct l yX1_turnJoin wsX1_turnJoin 4 128 0 0 [.ref (Γ.2.1 101), .int w, .int v] Γ σ τ o (pE (some (.int 0)) (uS σ 20 1) τ o) (noX) := by
  refine ct_of hl (by decide +kernel) rfl (Nat.le_of_ble_eq_true rfl) ?_
  intro E C F T hΓ hL R
  subst hΓ
  subst hL
  show G E 0 0 0 [(0, .ref ((eG E).2.1 101)), (1, .int w), (2, .int v)] [] σ τ o
  have hnw := Iv_nw I
  have hnl := Iv_nl I
  have h3 : σ 21 = nI nw := Iv_h3 I
  have h9 : σ 30 = nI nl := Iv_h9 I
  have h4 : ¬ σ 22 = 0 := Iv_ne I
  have I0 : IM (uS σ 20 0) τ nw nl lm := I
  have h30 : uS σ 20 0 21 = nI nw := h3
  have h90 : uS σ 20 0 30 = nI nl := h9
  have h40 : ¬ uS σ 20 0 22 = 0 := h4
  refine g_aload_n C dX1_turnJoin_0 rfl rfl ?_
  refine g_iload_n C dX1_turnJoin_1 rfl rfl ?_
  refine g_iload_n C dX1_turnJoin_2 rfl rfl ?_
  refine g_callVEi (Cl := RX1) (T := TX1) (N := 16) (ci := 1) (q0 := 12) (na := 2) C dX1_turnJoin_3 (m_arePairX hl (eG E) σ τ o nw nl lm w v I hw) gX1_turnJoin_X1_arePair rfl rfl (by decide +kernel) rfl rfl rfl (Nat.le_of_ble_eq_true rfl) (by rw [R]; exact ⟨by decide, by decide⟩) (by rw [R]; exact ⟨by decide, by decide⟩) ?_
  refine g_if_ne (tgt := 11) C dX1_turnJoin_6 (by decide) (fun c_6 => ?_) (fun c_6 => ?_)
  · exact absurd rfl c_6
  · refine g_iconst (v := 0) C dX1_turnJoin_9 (by decide) ?_
    exact g_zret C F dX1_turnJoin_10 (Or.inl rfl) (by decide) (by decide) ⟨rfl, rfl, rfl, rfl⟩
set_option maxHeartbeats 4000000 in
set_option maxRecDepth 100000 in
theorem m_turnStandInZ {l : Launch} (hl : l.stackTraces = false) (Γ : gG) (σ : gS) (τ : gT) (o : gO) (nw nl lm : Nat) (a : Nat) (I : IM σ τ nw nl lm) (ha : a < nw) : Ct l yX1_turnStandIn wsX1_turnStandIn 4 128 0 0 [.ref (Γ.2.1 101), .int (nI a), .int (nI a)] Γ σ τ o (pE (some (.int 0)) (uS (uS σ 20 0) 20 2) τ o) (noX) := by
  refine ct_of hl (by decide +kernel) rfl (Nat.le_of_ble_eq_true rfl) ?_
  intro E C F T hΓ hL R
  subst hΓ
  subst hL
  show G E 0 0 0 [(0, .ref ((eG E).2.1 101)), (1, .int (nI a)), (2, .int (nI a))] [] σ τ o
  have hnw := Iv_nw I
  have hnl := Iv_nl I
  have h3 : σ 21 = nI nw := Iv_h3 I
  have h9 : σ 30 = nI nl := Iv_h9 I
  have h4 : ¬ σ 22 = 0 := Iv_ne I
  have I0 : IM (uS σ 20 0) τ nw nl lm := I
  have h30 : uS σ 20 0 21 = nI nw := h3
  have h90 : uS σ 20 0 30 = nI nl := h9
  have h40 : ¬ uS σ 20 0 22 = 0 := h4
  refine g_aload_n C dX1_turnStandIn_0 rfl rfl ?_
  refine g_iload_n C dX1_turnStandIn_1 rfl rfl ?_
  refine g_iload_n C dX1_turnStandIn_2 rfl rfl ?_
  refine g_callVEi (Cl := RX1) (T := TX1) (N := 16) (ci := 1) (q0 := 12) (na := 2) C dX1_turnStandIn_3 (m_arePair hl (eG E) σ τ o nw nl lm a a I ha ha) gX1_turnStandIn_X1_arePair rfl rfl (by decide +kernel) rfl rfl rfl (Nat.le_of_ble_eq_true rfl) (by rw [R]; exact ⟨by decide, by decide⟩) (by rw [R]; exact ⟨by decide, by decide⟩) ?_
  refine g_if_ne (tgt := 11) C dX1_turnStandIn_6 (by decide) (fun c_6 => ?_) (fun c_6 => ?_)
  · refine g_iload_n C dX1_turnStandIn_11 rfl rfl ?_
    refine g_iload_n C dX1_turnStandIn_12 rfl rfl ?_
    refine g_icmp_ne (tgt := 22) C dX1_turnStandIn_13 (by decide) (fun c_13 => ?_) (fun c_13 => ?_)
    · exact absurd rfl c_13
    · refine g_aload_n C dX1_turnStandIn_16 rfl rfl ?_
      refine g_iconst (v := 2) C dX1_turnStandIn_17 (by decide) ?_
      refine g_callVEi (Cl := RX1) (T := TX1) (N := 16) (ci := 1) (q0 := 12) (na := 1) C dX1_turnStandIn_18 (m_failed hl (eG E) (uS σ 20 0) τ o 2) gX1_turnStandIn_X1_failed rfl rfl (by decide +kernel) rfl rfl rfl (Nat.le_of_ble_eq_true rfl) (by rw [R]; exact ⟨by decide, by decide⟩) (by rw [R]; exact ⟨by decide, by decide⟩) ?_
      exact g_zret C F dX1_turnStandIn_21 (Or.inl rfl) (by decide) (by decide) ⟨rfl, rfl, rfl, rfl⟩
  · exact absurd c_6 (by decide)
set_option maxRecDepth 100000 in
theorem mwX1_setLimit_inM : ∀ w ∈ wsX10, w ∈ wsX1_setLimit := by decide +kernel
set_option maxRecDepth 100000 in
theorem mwX1_setLimit_f45 : Cond.fieldLink RX1 45 "TelegraphPricesModel" "thrown" "I" ∈ wsX1_setLimit := by decide +kernel
set_option maxRecDepth 100000 in
theorem mwX1_setLimit_f7 : Cond.fieldLink RX1 7 "TelegraphPricesModel" "limit" "I" ∈ wsX1_setLimit := by decide +kernel
set_option maxHeartbeats 4000000 in
set_option maxRecDepth 100000 in
theorem m_setLimit {l : Launch} (hl : l.stackTraces = false) (Γ : gG) (σ : gS) (τ : gT) (o : gO) (x : Int32) (h1 : ¬ x < 3) (h2 : x ≤ 15) : Ct l yX1_setLimit wsX1_setLimit 2 64 0 0 [.ref (Γ.2.1 101), .int x] Γ σ τ o (pE (some (.int (σ 22))) (uS (uS σ 20 0) 22 x) τ o) (noX) := by
  refine ct_of hl (by decide +kernel) rfl (Nat.le_of_ble_eq_true rfl) ?_
  intro E C F T hΓ hL R
  subst hΓ
  subst hL
  show G E 0 0 0 [(0, .ref ((eG E).2.1 101)), (1, .int x)] [] σ τ o
  refine g_aload_n C dX1_setLimit_0 rfl rfl ?_
  refine g_iconst (v := 0) C dX1_setLimit_1 (by decide) ?_
  refine g_putM C 0 dX1_setLimit_2 mwX1_setLimit_inM (by decide) mwX1_setLimit_f45 rfl rfl (by decide +kernel) rfl ?_
  refine g_iload_n C dX1_setLimit_5 rfl rfl ?_
  refine g_iconst (v := 3) C dX1_setLimit_6 (by decide) ?_
  refine g_bipush (v := 15) C dX1_setLimit_7 (by decide) ?_
  refine g_callSEi (na := 3) C dX1_setLimit_9 (m_isIn hl (eG E) (uS σ 20 0) τ o _ _ _) gX1_setLimit_X1_isIn rfl rfl (by decide +kernel) rfl (Nat.le_of_ble_eq_true rfl) (by rw [R]; exact ⟨by decide, by decide⟩) (by rw [R]; exact ⟨by decide, by decide⟩) ?_
  refine g_if_ne (tgt := 21) C dX1_setLimit_12 (by decide) (fun c_12 => ?_) (fun c_12 => ?_)
  · refine g_aload_n C dX1_setLimit_21 rfl rfl ?_
    refine g_getM C 2 dX1_setLimit_22 mwX1_setLimit_inM (by decide) mwX1_setLimit_f7 rfl rfl ?_
    refine g_istore_n C [(2, _), (0, _), (1, _)] dX1_setLimit_25 rfl (by decide) rfl ?_
    refine g_aload_n C dX1_setLimit_26 rfl rfl ?_
    refine g_iload_n C dX1_setLimit_27 rfl rfl ?_
    refine g_putM C 2 dX1_setLimit_28 mwX1_setLimit_inM (by decide) mwX1_setLimit_f7 rfl rfl (by decide +kernel) rfl ?_
    refine g_iload_n C dX1_setLimit_31 rfl rfl ?_
    exact g_iret C F dX1_setLimit_32 (by decide) (by decide) ⟨rfl, rfl, rfl, rfl⟩
  · exact absurd c_12 (by unfold ii; rw [if_neg h1, if_neg (i_ng h2)]; decide)
set_option maxHeartbeats 4000000 in
set_option maxRecDepth 100000 in
theorem m_setLimitX {l : Launch} (hl : l.stackTraces = false) (Γ : gG) (σ : gS) (τ : gT) (o : gO) (x : Int32) (hx : x < 3 ∨ ¬ x ≤ 15) : Ct l yX1_setLimit wsX1_setLimit 2 64 0 0 [.ref (Γ.2.1 101), .int x] Γ σ τ o (pE (some (.int 0)) (uS (uS σ 20 0) 20 1) τ o) (noX) := by
  refine ct_of hl (by decide +kernel) rfl (Nat.le_of_ble_eq_true rfl) ?_
  intro E C F T hΓ hL R
  subst hΓ
  subst hL
  show G E 0 0 0 [(0, .ref ((eG E).2.1 101)), (1, .int x)] [] σ τ o
  refine g_aload_n C dX1_setLimit_0 rfl rfl ?_
  refine g_iconst (v := 0) C dX1_setLimit_1 (by decide) ?_
  refine g_putM C 0 dX1_setLimit_2 mwX1_setLimit_inM (by decide) mwX1_setLimit_f45 rfl rfl (by decide +kernel) rfl ?_
  refine g_iload_n C dX1_setLimit_5 rfl rfl ?_
  refine g_iconst (v := 3) C dX1_setLimit_6 (by decide) ?_
  refine g_bipush (v := 15) C dX1_setLimit_7 (by decide) ?_
  refine g_callSEi (na := 3) C dX1_setLimit_9 (m_isIn hl (eG E) (uS σ 20 0) τ o _ _ _) gX1_setLimit_X1_isIn rfl rfl (by decide +kernel) rfl (Nat.le_of_ble_eq_true rfl) (by rw [R]; exact ⟨by decide, by decide⟩) (by rw [R]; exact ⟨by decide, by decide⟩) ?_
  refine g_if_ne (tgt := 21) C dX1_setLimit_12 (by decide) (fun c_12 => ?_) (fun c_12 => ?_)
  · refine absurd ?_ c_12
    unfold ii
    rcases hx with hx | hx
    · rw [if_pos hx]
    · by_cases q : x < 3
      · rw [if_pos q]
      · rw [if_neg q, if_pos (i_nle hx)]
  · refine g_aload_n C dX1_setLimit_15 rfl rfl ?_
    refine g_iconst (v := 1) C dX1_setLimit_16 (by decide) ?_
    refine g_callVEi (Cl := RX1) (T := TX1) (N := 16) (ci := 1) (q0 := 12) (na := 1) C dX1_setLimit_17 (m_fail hl (eG E) (uS σ 20 0) τ o 1) gX1_setLimit_X1_fail rfl rfl (by decide +kernel) rfl rfl rfl (Nat.le_of_ble_eq_true rfl) (by rw [R]; exact ⟨by decide, by decide⟩) (by rw [R]; exact ⟨by decide, by decide⟩) ?_
    exact g_iret C F dX1_setLimit_20 (by decide) (by decide) ⟨rfl, rfl, rfl, rfl⟩
set_option maxRecDepth 100000 in
theorem mwX1_setLeastCount_inM : ∀ w ∈ wsX10, w ∈ wsX1_setLeastCount := by decide +kernel
set_option maxRecDepth 100000 in
theorem mwX1_setLeastCount_f45 : Cond.fieldLink RX1 45 "TelegraphPricesModel" "thrown" "I" ∈ wsX1_setLeastCount := by decide +kernel
set_option maxRecDepth 100000 in
theorem mwX1_setLeastCount_f13 : Cond.fieldLink RX1 13 "TelegraphPricesModel" "least" "I" ∈ wsX1_setLeastCount := by decide +kernel
set_option maxHeartbeats 4000000 in
set_option maxRecDepth 100000 in
theorem m_setLeastCount {l : Launch} (hl : l.stackTraces = false) (Γ : gG) (σ : gS) (τ : gT) (o : gO) (x : Int32) (h1 : ¬ x < 0) (h2 : x ≤ 20) : Ct l yX1_setLeastCount wsX1_setLeastCount 2 64 0 0 [.ref (Γ.2.1 101), .int x] Γ σ τ o (pE (some (.int (σ 23))) (uS (uS σ 20 0) 23 x) τ o) (noX) := by
  refine ct_of hl (by decide +kernel) rfl (Nat.le_of_ble_eq_true rfl) ?_
  intro E C F T hΓ hL R
  subst hΓ
  subst hL
  show G E 0 0 0 [(0, .ref ((eG E).2.1 101)), (1, .int x)] [] σ τ o
  refine g_aload_n C dX1_setLeastCount_0 rfl rfl ?_
  refine g_iconst (v := 0) C dX1_setLeastCount_1 (by decide) ?_
  refine g_putM C 0 dX1_setLeastCount_2 mwX1_setLeastCount_inM (by decide) mwX1_setLeastCount_f45 rfl rfl (by decide +kernel) rfl ?_
  refine g_iload_n C dX1_setLeastCount_5 rfl rfl ?_
  refine g_iconst (v := 0) C dX1_setLeastCount_6 (by decide) ?_
  refine g_bipush (v := 20) C dX1_setLeastCount_7 (by decide) ?_
  refine g_callSEi (na := 3) C dX1_setLeastCount_9 (m_isIn hl (eG E) (uS σ 20 0) τ o _ _ _) gX1_setLeastCount_X1_isIn rfl rfl (by decide +kernel) rfl (Nat.le_of_ble_eq_true rfl) (by rw [R]; exact ⟨by decide, by decide⟩) (by rw [R]; exact ⟨by decide, by decide⟩) ?_
  refine g_if_ne (tgt := 21) C dX1_setLeastCount_12 (by decide) (fun c_12 => ?_) (fun c_12 => ?_)
  · refine g_aload_n C dX1_setLeastCount_21 rfl rfl ?_
    refine g_getM C 3 dX1_setLeastCount_22 mwX1_setLeastCount_inM (by decide) mwX1_setLeastCount_f13 rfl rfl ?_
    refine g_istore_n C [(2, _), (0, _), (1, _)] dX1_setLeastCount_25 rfl (by decide) rfl ?_
    refine g_aload_n C dX1_setLeastCount_26 rfl rfl ?_
    refine g_iload_n C dX1_setLeastCount_27 rfl rfl ?_
    refine g_putM C 3 dX1_setLeastCount_28 mwX1_setLeastCount_inM (by decide) mwX1_setLeastCount_f13 rfl rfl (by decide +kernel) rfl ?_
    refine g_iload_n C dX1_setLeastCount_31 rfl rfl ?_
    exact g_iret C F dX1_setLeastCount_32 (by decide) (by decide) ⟨rfl, rfl, rfl, rfl⟩
  · exact absurd c_12 (by unfold ii; rw [if_neg h1, if_neg (i_ng h2)]; decide)
set_option maxHeartbeats 4000000 in
set_option maxRecDepth 100000 in
theorem m_setLeastCountX {l : Launch} (hl : l.stackTraces = false) (Γ : gG) (σ : gS) (τ : gT) (o : gO) (x : Int32) (hx : x < 0 ∨ ¬ x ≤ 20) : Ct l yX1_setLeastCount wsX1_setLeastCount 2 64 0 0 [.ref (Γ.2.1 101), .int x] Γ σ τ o (pE (some (.int 0)) (uS (uS σ 20 0) 20 1) τ o) (noX) := by
  refine ct_of hl (by decide +kernel) rfl (Nat.le_of_ble_eq_true rfl) ?_
  intro E C F T hΓ hL R
  subst hΓ
  subst hL
  show G E 0 0 0 [(0, .ref ((eG E).2.1 101)), (1, .int x)] [] σ τ o
  refine g_aload_n C dX1_setLeastCount_0 rfl rfl ?_
  refine g_iconst (v := 0) C dX1_setLeastCount_1 (by decide) ?_
  refine g_putM C 0 dX1_setLeastCount_2 mwX1_setLeastCount_inM (by decide) mwX1_setLeastCount_f45 rfl rfl (by decide +kernel) rfl ?_
  refine g_iload_n C dX1_setLeastCount_5 rfl rfl ?_
  refine g_iconst (v := 0) C dX1_setLeastCount_6 (by decide) ?_
  refine g_bipush (v := 20) C dX1_setLeastCount_7 (by decide) ?_
  refine g_callSEi (na := 3) C dX1_setLeastCount_9 (m_isIn hl (eG E) (uS σ 20 0) τ o _ _ _) gX1_setLeastCount_X1_isIn rfl rfl (by decide +kernel) rfl (Nat.le_of_ble_eq_true rfl) (by rw [R]; exact ⟨by decide, by decide⟩) (by rw [R]; exact ⟨by decide, by decide⟩) ?_
  refine g_if_ne (tgt := 21) C dX1_setLeastCount_12 (by decide) (fun c_12 => ?_) (fun c_12 => ?_)
  · refine absurd ?_ c_12
    unfold ii
    rcases hx with hx | hx
    · rw [if_pos hx]
    · by_cases q : x < 0
      · rw [if_pos q]
      · rw [if_neg q, if_pos (i_nle hx)]
  · refine g_aload_n C dX1_setLeastCount_15 rfl rfl ?_
    refine g_iconst (v := 1) C dX1_setLeastCount_16 (by decide) ?_
    refine g_callVEi (Cl := RX1) (T := TX1) (N := 16) (ci := 1) (q0 := 12) (na := 1) C dX1_setLeastCount_17 (m_fail hl (eG E) (uS σ 20 0) τ o 1) gX1_setLeastCount_X1_fail rfl rfl (by decide +kernel) rfl rfl rfl (Nat.le_of_ble_eq_true rfl) (by rw [R]; exact ⟨by decide, by decide⟩) (by rw [R]; exact ⟨by decide, by decide⟩) ?_
    exact g_iret C F dX1_setLeastCount_20 (by decide) (by decide) ⟨rfl, rfl, rfl, rfl⟩
set_option maxRecDepth 100000 in
theorem mwX1_setCoins_inM : ∀ w ∈ wsX10, w ∈ wsX1_setCoins := by decide +kernel
set_option maxRecDepth 100000 in
theorem mwX1_setCoins_f45 : Cond.fieldLink RX1 45 "TelegraphPricesModel" "thrown" "I" ∈ wsX1_setCoins := by decide +kernel
set_option maxRecDepth 100000 in
theorem mwX1_setCoins_f16 : Cond.fieldLink RX1 16 "TelegraphPricesModel" "coins" "I" ∈ wsX1_setCoins := by decide +kernel
set_option maxHeartbeats 4000000 in
set_option maxRecDepth 100000 in
theorem m_setCoins {l : Launch} (hl : l.stackTraces = false) (Γ : gG) (σ : gS) (τ : gT) (o : gO) (x : Int32) (h1 : ¬ x < 1) (h2 : x ≤ 50) : Ct l yX1_setCoins wsX1_setCoins 2 64 0 0 [.ref (Γ.2.1 101), .int x] Γ σ τ o (pE (some (.int (σ 24))) (uS (uS σ 20 0) 24 x) τ o) (noX) := by
  refine ct_of hl (by decide +kernel) rfl (Nat.le_of_ble_eq_true rfl) ?_
  intro E C F T hΓ hL R
  subst hΓ
  subst hL
  show G E 0 0 0 [(0, .ref ((eG E).2.1 101)), (1, .int x)] [] σ τ o
  refine g_aload_n C dX1_setCoins_0 rfl rfl ?_
  refine g_iconst (v := 0) C dX1_setCoins_1 (by decide) ?_
  refine g_putM C 0 dX1_setCoins_2 mwX1_setCoins_inM (by decide) mwX1_setCoins_f45 rfl rfl (by decide +kernel) rfl ?_
  refine g_iload_n C dX1_setCoins_5 rfl rfl ?_
  refine g_iconst (v := 1) C dX1_setCoins_6 (by decide) ?_
  refine g_bipush (v := 50) C dX1_setCoins_7 (by decide) ?_
  refine g_callSEi (na := 3) C dX1_setCoins_9 (m_isIn hl (eG E) (uS σ 20 0) τ o _ _ _) gX1_setCoins_X1_isIn rfl rfl (by decide +kernel) rfl (Nat.le_of_ble_eq_true rfl) (by rw [R]; exact ⟨by decide, by decide⟩) (by rw [R]; exact ⟨by decide, by decide⟩) ?_
  refine g_if_ne (tgt := 21) C dX1_setCoins_12 (by decide) (fun c_12 => ?_) (fun c_12 => ?_)
  · refine g_aload_n C dX1_setCoins_21 rfl rfl ?_
    refine g_getM C 4 dX1_setCoins_22 mwX1_setCoins_inM (by decide) mwX1_setCoins_f16 rfl rfl ?_
    refine g_istore_n C [(2, _), (0, _), (1, _)] dX1_setCoins_25 rfl (by decide) rfl ?_
    refine g_aload_n C dX1_setCoins_26 rfl rfl ?_
    refine g_iload_n C dX1_setCoins_27 rfl rfl ?_
    refine g_putM C 4 dX1_setCoins_28 mwX1_setCoins_inM (by decide) mwX1_setCoins_f16 rfl rfl (by decide +kernel) rfl ?_
    refine g_iload_n C dX1_setCoins_31 rfl rfl ?_
    exact g_iret C F dX1_setCoins_32 (by decide) (by decide) ⟨rfl, rfl, rfl, rfl⟩
  · exact absurd c_12 (by unfold ii; rw [if_neg h1, if_neg (i_ng h2)]; decide)
set_option maxHeartbeats 4000000 in
set_option maxRecDepth 100000 in
theorem m_setCoinsX {l : Launch} (hl : l.stackTraces = false) (Γ : gG) (σ : gS) (τ : gT) (o : gO) (x : Int32) (hx : x < 1 ∨ ¬ x ≤ 50) : Ct l yX1_setCoins wsX1_setCoins 2 64 0 0 [.ref (Γ.2.1 101), .int x] Γ σ τ o (pE (some (.int 0)) (uS (uS σ 20 0) 20 1) τ o) (noX) := by
  refine ct_of hl (by decide +kernel) rfl (Nat.le_of_ble_eq_true rfl) ?_
  intro E C F T hΓ hL R
  subst hΓ
  subst hL
  show G E 0 0 0 [(0, .ref ((eG E).2.1 101)), (1, .int x)] [] σ τ o
  refine g_aload_n C dX1_setCoins_0 rfl rfl ?_
  refine g_iconst (v := 0) C dX1_setCoins_1 (by decide) ?_
  refine g_putM C 0 dX1_setCoins_2 mwX1_setCoins_inM (by decide) mwX1_setCoins_f45 rfl rfl (by decide +kernel) rfl ?_
  refine g_iload_n C dX1_setCoins_5 rfl rfl ?_
  refine g_iconst (v := 1) C dX1_setCoins_6 (by decide) ?_
  refine g_bipush (v := 50) C dX1_setCoins_7 (by decide) ?_
  refine g_callSEi (na := 3) C dX1_setCoins_9 (m_isIn hl (eG E) (uS σ 20 0) τ o _ _ _) gX1_setCoins_X1_isIn rfl rfl (by decide +kernel) rfl (Nat.le_of_ble_eq_true rfl) (by rw [R]; exact ⟨by decide, by decide⟩) (by rw [R]; exact ⟨by decide, by decide⟩) ?_
  refine g_if_ne (tgt := 21) C dX1_setCoins_12 (by decide) (fun c_12 => ?_) (fun c_12 => ?_)
  · refine absurd ?_ c_12
    unfold ii
    rcases hx with hx | hx
    · rw [if_pos hx]
    · by_cases q : x < 1
      · rw [if_pos q]
      · rw [if_neg q, if_pos (i_nle hx)]
  · refine g_aload_n C dX1_setCoins_15 rfl rfl ?_
    refine g_iconst (v := 1) C dX1_setCoins_16 (by decide) ?_
    refine g_callVEi (Cl := RX1) (T := TX1) (N := 16) (ci := 1) (q0 := 12) (na := 1) C dX1_setCoins_17 (m_fail hl (eG E) (uS σ 20 0) τ o 1) gX1_setCoins_X1_fail rfl rfl (by decide +kernel) rfl rfl rfl (Nat.le_of_ble_eq_true rfl) (by rw [R]; exact ⟨by decide, by decide⟩) (by rw [R]; exact ⟨by decide, by decide⟩) ?_
    exact g_iret C F dX1_setCoins_20 (by decide) (by decide) ⟨rfl, rfl, rfl, rfl⟩
set_option maxRecDepth 100000 in
theorem mwX1_addWord_inM : ∀ w ∈ wsX10, w ∈ wsX1_addWord := by decide +kernel
set_option maxRecDepth 100000 in
theorem mwX1_addWord_f45 : Cond.fieldLink RX1 45 "TelegraphPricesModel" "thrown" "I" ∈ wsX1_addWord := by decide +kernel
set_option maxRecDepth 100000 in
theorem mwX1_addWord_f48 : Cond.fieldLink RX1 48 "TelegraphPricesModel" "words" "I" ∈ wsX1_addWord := by decide +kernel
set_option maxRecDepth 100000 in
theorem mwX1_addWord_f19 : Cond.fieldLink RX1 19 "TelegraphPricesModel" "letters" "[I" ∈ wsX1_addWord := by decide +kernel
set_option maxRecDepth 100000 in
theorem mwX1_addWord_f23 : Cond.fieldLink RX1 23 "TelegraphPricesModel" "stand" "[I" ∈ wsX1_addWord := by decide +kernel
set_option maxHeartbeats 4000000 in
set_option maxRecDepth 100000 in
theorem m_addWord {l : Launch} (hl : l.stackTraces = false) (Γ : gG) (σ : gS) (τ : gT) (o : gO) (nw nl lm : Nat) (x : Int32) (I : IM σ τ nw nl lm) (h1 : ¬ x < 1) (h2 : x ≤ 30) (hw : nw < 12) : Ct l yX1_addWord wsX1_addWord 2 64 0 0 [.ref (Γ.2.1 101), .int x] Γ σ τ o (pE (some (.int (nI nw))) (uS (uS σ 20 0) 21 (nI (nw + 1))) (uT (uT τ 27 nw x) 28 nw ((1 : Int32) <<< (nI nw &&& 31))) o) (noX) := by
  refine ct_of hl (by decide +kernel) rfl (Nat.le_of_ble_eq_true rfl) ?_
  intro E C F T hΓ hL R
  subst hΓ
  subst hL
  show G E 0 0 0 [(0, .ref ((eG E).2.1 101)), (1, .int x)] [] σ τ o
  have hnw := Iv_nw I
  have hnl := Iv_nl I
  have h3 : σ 21 = nI nw := Iv_h3 I
  have h9 : σ 30 = nI nl := Iv_h9 I
  have h4 : ¬ σ 22 = 0 := Iv_ne I
  have I0 : IM (uS σ 20 0) τ nw nl lm := I
  have h30 : uS σ 20 0 21 = nI nw := h3
  have h90 : uS σ 20 0 30 = nI nl := h9
  have h40 : ¬ uS σ 20 0 22 = 0 := h4
  refine g_aload_n C dX1_addWord_0 rfl rfl ?_
  refine g_iconst (v := 0) C dX1_addWord_1 (by decide) ?_
  refine g_putM C 0 dX1_addWord_2 mwX1_addWord_inM (by decide) mwX1_addWord_f45 rfl rfl (by decide +kernel) rfl ?_
  refine g_iload_n C dX1_addWord_5 rfl rfl ?_
  refine g_iconst (v := 1) C dX1_addWord_6 (by decide) ?_
  refine g_bipush (v := 30) C dX1_addWord_7 (by decide) ?_
  refine g_callSEi (na := 3) C dX1_addWord_9 (m_isIn hl (eG E) (uS σ 20 0) τ o _ _ _) gX1_addWord_X1_isIn rfl rfl (by decide +kernel) rfl (Nat.le_of_ble_eq_true rfl) (by rw [R]; exact ⟨by decide, by decide⟩) (by rw [R]; exact ⟨by decide, by decide⟩) ?_
  refine g_if_ne (tgt := 21) C dX1_addWord_12 (by decide) (fun c_12 => ?_) (fun c_12 => ?_)
  · refine g_aload_n C dX1_addWord_21 rfl rfl ?_
    refine g_getM C 1 dX1_addWord_22 mwX1_addWord_inM (by decide) mwX1_addWord_f48 rfl rfl ?_
    refine g_bipush (v := 12) C dX1_addWord_25 (by decide) ?_
    refine g_icmp_ne (tgt := 36) C dX1_addWord_27 (by decide) (fun c_27 => ?_) (fun c_27 => ?_)
    · refine g_aload_n C dX1_addWord_36 rfl rfl ?_
      refine g_getM C 7 dX1_addWord_37 mwX1_addWord_inM (by decide) mwX1_addWord_f19 rfl rfl ?_
      refine g_aload_n C dX1_addWord_40 rfl rfl ?_
      refine g_getM C 1 dX1_addWord_41 mwX1_addWord_inM (by decide) mwX1_addWord_f48 rfl rfl ?_
      refine g_topi (show _ = nI nw from h3) ?_
      refine g_iload_n C dX1_addWord_44 rfl rfl ?_
      refine g_iastN C (nw) dX1_addWord_45 rfl rfl hw (by decide) rfl ?_
      refine g_aload_n C dX1_addWord_46 rfl rfl ?_
      refine g_getM C 8 dX1_addWord_47 mwX1_addWord_inM (by decide) mwX1_addWord_f23 rfl rfl ?_
      refine g_aload_n C dX1_addWord_50 rfl rfl ?_
      refine g_getM C 1 dX1_addWord_51 mwX1_addWord_inM (by decide) mwX1_addWord_f48 rfl rfl ?_
      refine g_topi (show _ = nI nw from h3) ?_
      refine g_iconst (v := 1) C dX1_addWord_54 (by decide) ?_
      refine g_aload_n C dX1_addWord_55 rfl rfl ?_
      refine g_getM C 1 dX1_addWord_56 mwX1_addWord_inM (by decide) mwX1_addWord_f48 rfl rfl ?_
      refine g_topi (show _ = nI nw from h3) ?_
      refine g_ishl C dX1_addWord_59 ?_
      refine g_iastN C (nw) dX1_addWord_60 rfl rfl hw (by decide) rfl ?_
      refine g_aload_n C dX1_addWord_61 rfl rfl ?_
      refine g_dup C dX1_addWord_62 rfl ?_
      refine g_getM C 1 dX1_addWord_63 mwX1_addWord_inM (by decide) mwX1_addWord_f48 rfl rfl ?_
      refine g_iconst (v := 1) C dX1_addWord_66 (by decide) ?_
      refine g_iadd C dX1_addWord_67 ?_
      refine g_topi (show _ = nI (nw + 1) by rw [show uS σ 20 0 21 = nI nw from h3]; exact nI_1 nw) ?_
      refine g_putM C 1 dX1_addWord_68 mwX1_addWord_inM (by decide) mwX1_addWord_f48 rfl rfl (by decide +kernel) rfl ?_
      refine g_aload_n C dX1_addWord_71 rfl rfl ?_
      refine g_getM C 1 dX1_addWord_72 mwX1_addWord_inM (by decide) mwX1_addWord_f48 rfl rfl ?_
      refine g_iconst (v := 1) C dX1_addWord_75 (by decide) ?_
      refine g_isub C dX1_addWord_76 ?_
      refine g_topi (show _ = nI nw from nI_pred nw) ?_
      exact g_iret C F dX1_addWord_77 (by decide) (by decide) ⟨rfl, rfl, rfl, rfl⟩
    · exact absurd ((nI_eq (show nw < 2 ^ 31 by omega) (show 12 < 2 ^ 31 by decide)).mp (h3.symm.trans c_27)) (by omega)
  · exact absurd c_12 (by unfold ii; rw [if_neg h1, if_neg (i_ng h2)]; decide)
set_option maxHeartbeats 4000000 in
set_option maxRecDepth 100000 in
theorem m_addWordX {l : Launch} (hl : l.stackTraces = false) (Γ : gG) (σ : gS) (τ : gT) (o : gO) (x : Int32) (hx : x < 1 ∨ ¬ x ≤ 30) : Ct l yX1_addWord wsX1_addWord 2 64 0 0 [.ref (Γ.2.1 101), .int x] Γ σ τ o (pE (some (.int 0)) (uS (uS σ 20 0) 20 1) τ o) (noX) := by
  refine ct_of hl (by decide +kernel) rfl (Nat.le_of_ble_eq_true rfl) ?_
  intro E C F T hΓ hL R
  subst hΓ
  subst hL
  show G E 0 0 0 [(0, .ref ((eG E).2.1 101)), (1, .int x)] [] σ τ o
  refine g_aload_n C dX1_addWord_0 rfl rfl ?_
  refine g_iconst (v := 0) C dX1_addWord_1 (by decide) ?_
  refine g_putM C 0 dX1_addWord_2 mwX1_addWord_inM (by decide) mwX1_addWord_f45 rfl rfl (by decide +kernel) rfl ?_
  refine g_iload_n C dX1_addWord_5 rfl rfl ?_
  refine g_iconst (v := 1) C dX1_addWord_6 (by decide) ?_
  refine g_bipush (v := 30) C dX1_addWord_7 (by decide) ?_
  refine g_callSEi (na := 3) C dX1_addWord_9 (m_isIn hl (eG E) (uS σ 20 0) τ o _ _ _) gX1_addWord_X1_isIn rfl rfl (by decide +kernel) rfl (Nat.le_of_ble_eq_true rfl) (by rw [R]; exact ⟨by decide, by decide⟩) (by rw [R]; exact ⟨by decide, by decide⟩) ?_
  refine g_if_ne (tgt := 21) C dX1_addWord_12 (by decide) (fun c_12 => ?_) (fun c_12 => ?_)
  · refine absurd ?_ c_12
    unfold ii
    rcases hx with hx | hx
    · rw [if_pos hx]
    · by_cases q : x < 1
      · rw [if_pos q]
      · rw [if_neg q, if_pos (i_nle hx)]
  · refine g_aload_n C dX1_addWord_15 rfl rfl ?_
    refine g_iconst (v := 1) C dX1_addWord_16 (by decide) ?_
    refine g_callVEi (Cl := RX1) (T := TX1) (N := 16) (ci := 1) (q0 := 12) (na := 1) C dX1_addWord_17 (m_fail hl (eG E) (uS σ 20 0) τ o 1) gX1_addWord_X1_fail rfl rfl (by decide +kernel) rfl rfl rfl (Nat.le_of_ble_eq_true rfl) (by rw [R]; exact ⟨by decide, by decide⟩) (by rw [R]; exact ⟨by decide, by decide⟩) ?_
    exact g_iret C F dX1_addWord_20 (by decide) (by decide) ⟨rfl, rfl, rfl, rfl⟩
set_option maxHeartbeats 4000000 in
set_option maxRecDepth 100000 in
theorem m_addWordY {l : Launch} (hl : l.stackTraces = false) (Γ : gG) (σ : gS) (τ : gT) (o : gO) (x : Int32) (h1 : ¬ x < 1) (h2 : x ≤ 30) (h12 : σ 21 = 12) : Ct l yX1_addWord wsX1_addWord 2 64 0 0 [.ref (Γ.2.1 101), .int x] Γ σ τ o (pE (some (.int 0)) (uS (uS σ 20 0) 20 2) τ o) (noX) := by
  refine ct_of hl (by decide +kernel) rfl (Nat.le_of_ble_eq_true rfl) ?_
  intro E C F T hΓ hL R
  subst hΓ
  subst hL
  show G E 0 0 0 [(0, .ref ((eG E).2.1 101)), (1, .int x)] [] σ τ o
  refine g_aload_n C dX1_addWord_0 rfl rfl ?_
  refine g_iconst (v := 0) C dX1_addWord_1 (by decide) ?_
  refine g_putM C 0 dX1_addWord_2 mwX1_addWord_inM (by decide) mwX1_addWord_f45 rfl rfl (by decide +kernel) rfl ?_
  refine g_iload_n C dX1_addWord_5 rfl rfl ?_
  refine g_iconst (v := 1) C dX1_addWord_6 (by decide) ?_
  refine g_bipush (v := 30) C dX1_addWord_7 (by decide) ?_
  refine g_callSEi (na := 3) C dX1_addWord_9 (m_isIn hl (eG E) (uS σ 20 0) τ o _ _ _) gX1_addWord_X1_isIn rfl rfl (by decide +kernel) rfl (Nat.le_of_ble_eq_true rfl) (by rw [R]; exact ⟨by decide, by decide⟩) (by rw [R]; exact ⟨by decide, by decide⟩) ?_
  refine g_if_ne (tgt := 21) C dX1_addWord_12 (by decide) (fun c_12 => ?_) (fun c_12 => ?_)
  · refine g_aload_n C dX1_addWord_21 rfl rfl ?_
    refine g_getM C 1 dX1_addWord_22 mwX1_addWord_inM (by decide) mwX1_addWord_f48 rfl rfl ?_
    refine g_bipush (v := 12) C dX1_addWord_25 (by decide) ?_
    refine g_icmp_ne (tgt := 36) C dX1_addWord_27 (by decide) (fun c_27 => ?_) (fun c_27 => ?_)
    · exact absurd (show uS σ 20 0 21 = 12 from h12) c_27
    · refine g_aload_n C dX1_addWord_30 rfl rfl ?_
      refine g_iconst (v := 2) C dX1_addWord_31 (by decide) ?_
      refine g_callVEi (Cl := RX1) (T := TX1) (N := 16) (ci := 1) (q0 := 12) (na := 1) C dX1_addWord_32 (m_fail hl (eG E) (uS σ 20 0) τ o 2) gX1_addWord_X1_fail rfl rfl (by decide +kernel) rfl rfl rfl (Nat.le_of_ble_eq_true rfl) (by rw [R]; exact ⟨by decide, by decide⟩) (by rw [R]; exact ⟨by decide, by decide⟩) ?_
      exact g_iret C F dX1_addWord_35 (by decide) (by decide) ⟨rfl, rfl, rfl, rfl⟩
  · exact absurd c_12 (by unfold ii; rw [if_neg h1, if_neg (i_ng h2)]; decide)
set_option maxRecDepth 100000 in
theorem mwX1_write_inM : ∀ w ∈ wsX10, w ∈ wsX1_write := by decide +kernel
set_option maxRecDepth 100000 in
theorem mwX1_write_f45 : Cond.fieldLink RX1 45 "TelegraphPricesModel" "thrown" "I" ∈ wsX1_write := by decide +kernel
set_option maxRecDepth 100000 in
theorem mwX1_write_f55 : Cond.fieldLink RX1 55 "TelegraphPricesModel" "length" "I" ∈ wsX1_write := by decide +kernel
set_option maxRecDepth 100000 in
theorem mwX1_write_f29 : Cond.fieldLink RX1 29 "TelegraphPricesModel" "word" "[I" ∈ wsX1_write := by decide +kernel
set_option maxRecDepth 100000 in
theorem mwX1_write_f32 : Cond.fieldLink RX1 32 "TelegraphPricesModel" "joined" "[Z" ∈ wsX1_write := by decide +kernel
set_option maxHeartbeats 4000000 in
set_option maxRecDepth 100000 in
theorem m_write {l : Launch} (hl : l.stackTraces = false) (Γ : gG) (σ : gS) (τ : gT) (o : gO) (nw nl lm : Nat) (a : Nat) (I : IM σ τ nw nl lm) (ha : a < nw) (h16 : nl < 16) : Ct l yX1_write wsX1_write 3 96 0 0 [.ref (Γ.2.1 101), .int (nI a)] Γ σ τ o (pE (some (.int (nI (nl + 1)))) (uS (uS σ 20 0) 30 (nI (nl + 1))) (uT (uT τ 31 nl (nI a)) 32 nl 0) o) (noX) := by
  refine ct_of hl (by decide +kernel) rfl (Nat.le_of_ble_eq_true rfl) ?_
  intro E C F T hΓ hL R
  subst hΓ
  subst hL
  show G E 0 0 0 [(0, .ref ((eG E).2.1 101)), (1, .int (nI a))] [] σ τ o
  have hnw := Iv_nw I
  have hnl := Iv_nl I
  have h3 : σ 21 = nI nw := Iv_h3 I
  have h9 : σ 30 = nI nl := Iv_h9 I
  have h4 : ¬ σ 22 = 0 := Iv_ne I
  have I0 : IM (uS σ 20 0) τ nw nl lm := I
  have h30 : uS σ 20 0 21 = nI nw := h3
  have h90 : uS σ 20 0 30 = nI nl := h9
  have h40 : ¬ uS σ 20 0 22 = 0 := h4
  refine g_aload_n C dX1_write_0 rfl rfl ?_
  refine g_iconst (v := 0) C dX1_write_1 (by decide) ?_
  refine g_putM C 0 dX1_write_2 mwX1_write_inM (by decide) mwX1_write_f45 rfl rfl (by decide +kernel) rfl ?_
  refine g_aload_n C dX1_write_5 rfl rfl ?_
  refine g_iload_n C dX1_write_6 rfl rfl ?_
  refine g_callVEi (Cl := RX1) (T := TX1) (N := 16) (ci := 1) (q0 := 12) (na := 1) C dX1_write_7 (m_isWord hl (eG E) (uS σ 20 0) τ o _) gX1_write_X1_isWord rfl rfl (by decide +kernel) rfl rfl rfl (Nat.le_of_ble_eq_true rfl) (by rw [R]; exact ⟨by decide, by decide⟩) (by rw [R]; exact ⟨by decide, by decide⟩) ?_
  refine g_if_ne (tgt := 19) C dX1_write_10 (by decide) (fun c_10 => ?_) (fun c_10 => ?_)
  · refine g_aload_n C dX1_write_19 rfl rfl ?_
    refine g_getM C 10 dX1_write_20 mwX1_write_inM (by decide) mwX1_write_f55 rfl rfl ?_
    refine g_bipush (v := 16) C dX1_write_23 (by decide) ?_
    refine g_icmp_ne (tgt := 34) C dX1_write_25 (by decide) (fun c_25 => ?_) (fun c_25 => ?_)
    · refine g_aload_n C dX1_write_34 rfl rfl ?_
      refine g_getM C 11 dX1_write_35 mwX1_write_inM (by decide) mwX1_write_f29 rfl rfl ?_
      refine g_aload_n C dX1_write_38 rfl rfl ?_
      refine g_getM C 10 dX1_write_39 mwX1_write_inM (by decide) mwX1_write_f55 rfl rfl ?_
      refine g_topi (show _ = nI nl from h9) ?_
      refine g_iload_n C dX1_write_42 rfl rfl ?_
      refine g_iastN C (nl) dX1_write_43 rfl rfl h16 (by decide) rfl ?_
      refine g_aload_n C dX1_write_44 rfl rfl ?_
      refine g_getM C 12 dX1_write_45 mwX1_write_inM (by decide) mwX1_write_f32 rfl rfl ?_
      refine g_aload_n C dX1_write_48 rfl rfl ?_
      refine g_getM C 10 dX1_write_49 mwX1_write_inM (by decide) mwX1_write_f55 rfl rfl ?_
      refine g_topi (show _ = nI nl from h9) ?_
      refine g_iconst (v := 0) C dX1_write_52 (by decide) ?_
      refine g_zastN C (nl) dX1_write_53 rfl rfl h16 (by decide) (Or.inl rfl) rfl ?_
      refine g_aload_n C dX1_write_54 rfl rfl ?_
      refine g_dup C dX1_write_55 rfl ?_
      refine g_getM C 10 dX1_write_56 mwX1_write_inM (by decide) mwX1_write_f55 rfl rfl ?_
      refine g_iconst (v := 1) C dX1_write_59 (by decide) ?_
      refine g_iadd C dX1_write_60 ?_
      refine g_topi (show _ = nI (nl + 1) by rw [show uS σ 20 0 30 = nI nl from h9]; exact nI_1 nl) ?_
      refine g_putM C 10 dX1_write_61 mwX1_write_inM (by decide) mwX1_write_f55 rfl rfl (by decide +kernel) rfl ?_
      refine g_aload_n C dX1_write_64 rfl rfl ?_
      refine g_getM C 10 dX1_write_65 mwX1_write_inM (by decide) mwX1_write_f55 rfl rfl ?_
      exact g_iret C F dX1_write_68 (by decide) (by decide) ⟨rfl, rfl, rfl, rfl⟩
    · exact absurd ((nI_eq (show nl < 2 ^ 31 by omega) (show 16 < 2 ^ 31 by decide)).mp (h9.symm.trans c_25)) (by omega)
  · exact absurd c_10 (by rw [h30, ii_y ha (by omega)]; decide)
set_option maxHeartbeats 4000000 in
set_option maxRecDepth 100000 in
theorem m_writeX {l : Launch} (hl : l.stackTraces = false) (Γ : gG) (σ : gS) (τ : gT) (o : gO) (nw nl lm : Nat) (w : Int32) (I : IM σ τ nw nl lm) (hw : w < 0 ∨ ¬ w < σ 21) : Ct l yX1_write wsX1_write 3 96 0 0 [.ref (Γ.2.1 101), .int w] Γ σ τ o (pE (some (.int 0)) (uS (uS σ 20 0) 20 1) τ o) (noX) := by
  refine ct_of hl (by decide +kernel) rfl (Nat.le_of_ble_eq_true rfl) ?_
  intro E C F T hΓ hL R
  subst hΓ
  subst hL
  show G E 0 0 0 [(0, .ref ((eG E).2.1 101)), (1, .int w)] [] σ τ o
  have hnw := Iv_nw I
  have hnl := Iv_nl I
  have h3 : σ 21 = nI nw := Iv_h3 I
  have h9 : σ 30 = nI nl := Iv_h9 I
  have h4 : ¬ σ 22 = 0 := Iv_ne I
  have I0 : IM (uS σ 20 0) τ nw nl lm := I
  have h30 : uS σ 20 0 21 = nI nw := h3
  have h90 : uS σ 20 0 30 = nI nl := h9
  have h40 : ¬ uS σ 20 0 22 = 0 := h4
  refine g_aload_n C dX1_write_0 rfl rfl ?_
  refine g_iconst (v := 0) C dX1_write_1 (by decide) ?_
  refine g_putM C 0 dX1_write_2 mwX1_write_inM (by decide) mwX1_write_f45 rfl rfl (by decide +kernel) rfl ?_
  refine g_aload_n C dX1_write_5 rfl rfl ?_
  refine g_iload_n C dX1_write_6 rfl rfl ?_
  refine g_callVEi (Cl := RX1) (T := TX1) (N := 16) (ci := 1) (q0 := 12) (na := 1) C dX1_write_7 (m_isWord hl (eG E) (uS σ 20 0) τ o _) gX1_write_X1_isWord rfl rfl (by decide +kernel) rfl rfl rfl (Nat.le_of_ble_eq_true rfl) (by rw [R]; exact ⟨by decide, by decide⟩) (by rw [R]; exact ⟨by decide, by decide⟩) ?_
  refine g_if_ne (tgt := 19) C dX1_write_10 (by decide) (fun c_10 => ?_) (fun c_10 => ?_)
  · exact absurd (by rw [h30]; exact ii_n (by omega) (by rw [← h3]; exact hw)) c_10
  · refine g_aload_n C dX1_write_13 rfl rfl ?_
    refine g_iconst (v := 1) C dX1_write_14 (by decide) ?_
    refine g_callVEi (Cl := RX1) (T := TX1) (N := 16) (ci := 1) (q0 := 12) (na := 1) C dX1_write_15 (m_fail hl (eG E) (uS σ 20 0) τ o 1) gX1_write_X1_fail rfl rfl (by decide +kernel) rfl rfl rfl (Nat.le_of_ble_eq_true rfl) (by rw [R]; exact ⟨by decide, by decide⟩) (by rw [R]; exact ⟨by decide, by decide⟩) ?_
    exact g_iret C F dX1_write_18 (by decide) (by decide) ⟨rfl, rfl, rfl, rfl⟩
set_option maxHeartbeats 4000000 in
set_option maxRecDepth 100000 in
theorem m_writeY {l : Launch} (hl : l.stackTraces = false) (Γ : gG) (σ : gS) (τ : gT) (o : gO) (nw nl lm : Nat) (a : Nat) (I : IM σ τ nw nl lm) (ha : a < nw) (h16 : σ 30 = 16) : Ct l yX1_write wsX1_write 3 96 0 0 [.ref (Γ.2.1 101), .int (nI a)] Γ σ τ o (pE (some (.int 0)) (uS (uS σ 20 0) 20 2) τ o) (noX) := by
  refine ct_of hl (by decide +kernel) rfl (Nat.le_of_ble_eq_true rfl) ?_
  intro E C F T hΓ hL R
  subst hΓ
  subst hL
  show G E 0 0 0 [(0, .ref ((eG E).2.1 101)), (1, .int (nI a))] [] σ τ o
  have hnw := Iv_nw I
  have hnl := Iv_nl I
  have h3 : σ 21 = nI nw := Iv_h3 I
  have h9 : σ 30 = nI nl := Iv_h9 I
  have h4 : ¬ σ 22 = 0 := Iv_ne I
  have I0 : IM (uS σ 20 0) τ nw nl lm := I
  have h30 : uS σ 20 0 21 = nI nw := h3
  have h90 : uS σ 20 0 30 = nI nl := h9
  have h40 : ¬ uS σ 20 0 22 = 0 := h4
  refine g_aload_n C dX1_write_0 rfl rfl ?_
  refine g_iconst (v := 0) C dX1_write_1 (by decide) ?_
  refine g_putM C 0 dX1_write_2 mwX1_write_inM (by decide) mwX1_write_f45 rfl rfl (by decide +kernel) rfl ?_
  refine g_aload_n C dX1_write_5 rfl rfl ?_
  refine g_iload_n C dX1_write_6 rfl rfl ?_
  refine g_callVEi (Cl := RX1) (T := TX1) (N := 16) (ci := 1) (q0 := 12) (na := 1) C dX1_write_7 (m_isWord hl (eG E) (uS σ 20 0) τ o _) gX1_write_X1_isWord rfl rfl (by decide +kernel) rfl rfl rfl (Nat.le_of_ble_eq_true rfl) (by rw [R]; exact ⟨by decide, by decide⟩) (by rw [R]; exact ⟨by decide, by decide⟩) ?_
  refine g_if_ne (tgt := 19) C dX1_write_10 (by decide) (fun c_10 => ?_) (fun c_10 => ?_)
  · refine g_aload_n C dX1_write_19 rfl rfl ?_
    refine g_getM C 10 dX1_write_20 mwX1_write_inM (by decide) mwX1_write_f55 rfl rfl ?_
    refine g_bipush (v := 16) C dX1_write_23 (by decide) ?_
    refine g_icmp_ne (tgt := 34) C dX1_write_25 (by decide) (fun c_25 => ?_) (fun c_25 => ?_)
    · exact absurd (show uS σ 20 0 30 = 16 from h16) c_25
    · refine g_aload_n C dX1_write_28 rfl rfl ?_
      refine g_iconst (v := 2) C dX1_write_29 (by decide) ?_
      refine g_callVEi (Cl := RX1) (T := TX1) (N := 16) (ci := 1) (q0 := 12) (na := 1) C dX1_write_30 (m_fail hl (eG E) (uS σ 20 0) τ o 2) gX1_write_X1_fail rfl rfl (by decide +kernel) rfl rfl rfl (Nat.le_of_ble_eq_true rfl) (by rw [R]; exact ⟨by decide, by decide⟩) (by rw [R]; exact ⟨by decide, by decide⟩) ?_
      exact g_iret C F dX1_write_33 (by decide) (by decide) ⟨rfl, rfl, rfl, rfl⟩
  · exact absurd c_10 (by rw [h30, ii_y ha (by omega)]; decide)
def CSm (σ : gS) (τ : gT) (nl : Nat) (z : Int32) : Int32 := CTm σ τ nl * σ 24 * (z + 2) / 2
def CCm (σ : gS) (τ : gT) (nw nl : Nat) : Int32 := al nl (σ 23) (FM σ τ nw nl nl)
set_option maxRecDepth 100000 in
theorem mwX1_costTo_inM : ∀ w ∈ wsX10, w ∈ wsX1_costTo := by decide +kernel
set_option maxRecDepth 100000 in
theorem mwX1_costTo_f16 : Cond.fieldLink RX1 16 "TelegraphPricesModel" "coins" "I" ∈ wsX1_costTo := by decide +kernel
set_option maxHeartbeats 4000000 in
set_option maxRecDepth 100000 in
theorem m_costTo {l : Launch} (hl : l.stackTraces = false) (Γ : gG) (σ : gS) (τ : gT) (o : gO) (nw nl lm : Nat) (z : Int32) (I : IM σ τ nw nl lm) : Ct l yX1_costTo wsX1_costTo 3 96 0 0 [.ref (Γ.2.1 101), .int z] Γ σ τ o (pE (some (.int (CSm σ τ nl z))) σ τ o) (noX) := by
  refine ct_of hl (by decide +kernel) rfl (Nat.le_of_ble_eq_true rfl) ?_
  intro E C F T hΓ hL R
  subst hΓ
  subst hL
  show G E 0 0 0 [(0, .ref ((eG E).2.1 101)), (1, .int z)] [] σ τ o
  have hnw := Iv_nw I
  have hnl := Iv_nl I
  have h3 : σ 21 = nI nw := Iv_h3 I
  have h9 : σ 30 = nI nl := Iv_h9 I
  have h4 : ¬ σ 22 = 0 := Iv_ne I
  have I0 : IM (uS σ 20 0) τ nw nl lm := I
  have h30 : uS σ 20 0 21 = nI nw := h3
  have h90 : uS σ 20 0 30 = nI nl := h9
  have h40 : ¬ uS σ 20 0 22 = 0 := h4
  refine g_aload_n C dX1_costTo_0 rfl rfl ?_
  refine g_callVEi (Cl := RX1) (T := TX1) (N := 16) (ci := 1) (q0 := 12) (na := 0) C dX1_costTo_1 (m_countNow hl (eG E) σ τ o nw nl lm I) gX1_costTo_X1_countNow rfl rfl (by decide +kernel) rfl rfl rfl (Nat.le_of_ble_eq_true rfl) (by rw [R]; exact ⟨by decide, by decide⟩) (by rw [R]; exact ⟨by decide, by decide⟩) ?_
  refine g_aload_n C dX1_costTo_4 rfl rfl ?_
  refine g_getM C 4 dX1_costTo_5 mwX1_costTo_inM (by decide) mwX1_costTo_f16 rfl rfl ?_
  refine g_imul C dX1_costTo_8 ?_
  refine g_iload_n C dX1_costTo_9 rfl rfl ?_
  refine g_iconst (v := 2) C dX1_costTo_10 (by decide) ?_
  refine g_iadd C dX1_costTo_11 ?_
  refine g_imul C dX1_costTo_12 ?_
  refine g_iconst (v := 2) C dX1_costTo_13 (by decide) ?_
  refine g_idiv C dX1_costTo_14 (by decide) ?_
  exact g_iret C F dX1_costTo_15 (by decide) (by decide) ⟨rfl, rfl, rfl, rfl⟩
set_option maxRecDepth 100000 in
theorem mwX1_priceTo_inM : ∀ w ∈ wsX10, w ∈ wsX1_priceTo := by decide +kernel
set_option maxRecDepth 100000 in
theorem mwX1_priceTo_f45 : Cond.fieldLink RX1 45 "TelegraphPricesModel" "thrown" "I" ∈ wsX1_priceTo := by decide +kernel
set_option maxHeartbeats 4000000 in
set_option maxRecDepth 100000 in
theorem m_priceTo {l : Launch} (hl : l.stackTraces = false) (Γ : gG) (σ : gS) (τ : gT) (o : gO) (nw nl lm : Nat) (z : Int32) (I : IM σ τ nw nl lm) (hz : ¬ z < 0 ∧ z < 4) : Ct l yX1_priceTo wsX1_priceTo 4 128 0 0 [.ref (Γ.2.1 101), .int z] Γ σ τ o (pE (some (.int (CSm σ τ nl z))) (uS σ 20 0) τ o) (noX) := by
  refine ct_of hl (by decide +kernel) rfl (Nat.le_of_ble_eq_true rfl) ?_
  intro E C F T hΓ hL R
  subst hΓ
  subst hL
  show G E 0 0 0 [(0, .ref ((eG E).2.1 101)), (1, .int z)] [] σ τ o
  have hnw := Iv_nw I
  have hnl := Iv_nl I
  have h3 : σ 21 = nI nw := Iv_h3 I
  have h9 : σ 30 = nI nl := Iv_h9 I
  have h4 : ¬ σ 22 = 0 := Iv_ne I
  have I0 : IM (uS σ 20 0) τ nw nl lm := I
  have h30 : uS σ 20 0 21 = nI nw := h3
  have h90 : uS σ 20 0 30 = nI nl := h9
  have h40 : ¬ uS σ 20 0 22 = 0 := h4
  refine g_aload_n C dX1_priceTo_0 rfl rfl ?_
  refine g_iconst (v := 0) C dX1_priceTo_1 (by decide) ?_
  refine g_putM C 0 dX1_priceTo_2 mwX1_priceTo_inM (by decide) mwX1_priceTo_f45 rfl rfl (by decide +kernel) rfl ?_
  refine g_iload_n C dX1_priceTo_5 rfl rfl ?_
  refine g_iconst (v := 0) C dX1_priceTo_6 (by decide) ?_
  refine g_iconst (v := 3) C dX1_priceTo_7 (by decide) ?_
  refine g_callSEi (na := 3) C dX1_priceTo_8 (m_isIn hl (eG E) (uS σ 20 0) τ o _ _ _) gX1_priceTo_X1_isIn rfl rfl (by decide +kernel) rfl (Nat.le_of_ble_eq_true rfl) (by rw [R]; exact ⟨by decide, by decide⟩) (by rw [R]; exact ⟨by decide, by decide⟩) ?_
  refine g_if_eq (tgt := 22) C dX1_priceTo_11 (by decide) (fun c_11 => ?_) (fun c_11 => ?_)
  · exact absurd c_11 (zn_y hz)
  · refine g_aload_n C dX1_priceTo_14 rfl rfl ?_
    refine g_iload_n C dX1_priceTo_15 rfl rfl ?_
    refine g_callVEi (Cl := RX1) (T := TX1) (N := 16) (ci := 1) (q0 := 12) (na := 1) C dX1_priceTo_16 (m_costTo hl (eG E) (uS σ 20 0) τ o nw nl lm z I0) gX1_priceTo_X1_costTo rfl rfl (by decide +kernel) rfl rfl rfl (Nat.le_of_ble_eq_true rfl) (by rw [R]; exact ⟨by decide, by decide⟩) (by rw [R]; exact ⟨by decide, by decide⟩) ?_
    refine g_goto (tgt := 27) C dX1_priceTo_19 (by decide) ?_
    exact g_iret C F dX1_priceTo_27 (by decide) (by decide) ⟨rfl, rfl, rfl, rfl⟩
set_option maxHeartbeats 4000000 in
set_option maxRecDepth 100000 in
theorem m_priceToX {l : Launch} (hl : l.stackTraces = false) (Γ : gG) (σ : gS) (τ : gT) (o : gO) (z : Int32) (hz : z < 0 ∨ ¬ z < 4) : Ct l yX1_priceTo wsX1_priceTo 4 128 0 0 [.ref (Γ.2.1 101), .int z] Γ σ τ o (pE (some (.int 0)) (uS (uS σ 20 0) 20 1) τ o) (noX) := by
  refine ct_of hl (by decide +kernel) rfl (Nat.le_of_ble_eq_true rfl) ?_
  intro E C F T hΓ hL R
  subst hΓ
  subst hL
  show G E 0 0 0 [(0, .ref ((eG E).2.1 101)), (1, .int z)] [] σ τ o
  refine g_aload_n C dX1_priceTo_0 rfl rfl ?_
  refine g_iconst (v := 0) C dX1_priceTo_1 (by decide) ?_
  refine g_putM C 0 dX1_priceTo_2 mwX1_priceTo_inM (by decide) mwX1_priceTo_f45 rfl rfl (by decide +kernel) rfl ?_
  refine g_iload_n C dX1_priceTo_5 rfl rfl ?_
  refine g_iconst (v := 0) C dX1_priceTo_6 (by decide) ?_
  refine g_iconst (v := 3) C dX1_priceTo_7 (by decide) ?_
  refine g_callSEi (na := 3) C dX1_priceTo_8 (m_isIn hl (eG E) (uS σ 20 0) τ o _ _ _) gX1_priceTo_X1_isIn rfl rfl (by decide +kernel) rfl (Nat.le_of_ble_eq_true rfl) (by rw [R]; exact ⟨by decide, by decide⟩) (by rw [R]; exact ⟨by decide, by decide⟩) ?_
  refine g_if_eq (tgt := 22) C dX1_priceTo_11 (by decide) (fun c_11 => ?_) (fun c_11 => ?_)
  · refine g_aload_n C dX1_priceTo_22 rfl rfl ?_
    refine g_iconst (v := 1) C dX1_priceTo_23 (by decide) ?_
    refine g_callVEi (Cl := RX1) (T := TX1) (N := 16) (ci := 1) (q0 := 12) (na := 1) C dX1_priceTo_24 (m_fail hl (eG E) (uS σ 20 0) τ o 1) gX1_priceTo_X1_fail rfl rfl (by decide +kernel) rfl rfl rfl (Nat.le_of_ble_eq_true rfl) (by rw [R]; exact ⟨by decide, by decide⟩) (by rw [R]; exact ⟨by decide, by decide⟩) ?_
    exact g_iret C F dX1_priceTo_27 (by decide) (by decide) ⟨rfl, rfl, rfl, rfl⟩
  · exact absurd (zn_n hz) c_11
set_option maxRecDepth 100000 in
theorem mwX1_send_inM : ∀ w ∈ wsX10, w ∈ wsX1_send := by decide +kernel
set_option maxRecDepth 100000 in
theorem mwX1_send_f45 : Cond.fieldLink RX1 45 "TelegraphPricesModel" "thrown" "I" ∈ wsX1_send := by decide +kernel
set_option maxRecDepth 100000 in
theorem mwX1_send_f55 : Cond.fieldLink RX1 55 "TelegraphPricesModel" "length" "I" ∈ wsX1_send := by decide +kernel
set_option maxRecDepth 100000 in
theorem mwX1_send_f127 : Cond.fieldLink RX1 127 "TelegraphPricesModel" "sent" "I" ∈ wsX1_send := by decide +kernel
set_option maxRecDepth 100000 in
theorem mwX1_send_f130 : Cond.fieldLink RX1 130 "TelegraphPricesModel" "earned" "I" ∈ wsX1_send := by decide +kernel
set_option maxHeartbeats 4000000 in
set_option maxRecDepth 100000 in
theorem m_send {l : Launch} (hl : l.stackTraces = false) (Γ : gG) (σ : gS) (τ : gT) (o : gO) (nw nl lm : Nat) (z : Int32) (I : IM σ τ nw nl lm) (hz : ¬ z < 0 ∧ z < 4) (h0 : nl ≠ 0) : Ct l yX1_send wsX1_send 4 128 0 0 [.ref (Γ.2.1 101), .int z] Γ σ τ o (pE (some (.int (CSm σ τ nl z))) (uS (uS (uS (uS σ 20 0) 25 (σ 25 + 1)) 26 (σ 26 + CSm σ τ nl z)) 30 0) τ o) (noX) := by
  refine ct_of hl (by decide +kernel) rfl (Nat.le_of_ble_eq_true rfl) ?_
  intro E C F T hΓ hL R
  subst hΓ
  subst hL
  show G E 0 0 0 [(0, .ref ((eG E).2.1 101)), (1, .int z)] [] σ τ o
  have hnw := Iv_nw I
  have hnl := Iv_nl I
  have h3 : σ 21 = nI nw := Iv_h3 I
  have h9 : σ 30 = nI nl := Iv_h9 I
  have h4 : ¬ σ 22 = 0 := Iv_ne I
  have I0 : IM (uS σ 20 0) τ nw nl lm := I
  have h30 : uS σ 20 0 21 = nI nw := h3
  have h90 : uS σ 20 0 30 = nI nl := h9
  have h40 : ¬ uS σ 20 0 22 = 0 := h4
  refine g_aload_n C dX1_send_0 rfl rfl ?_
  refine g_iconst (v := 0) C dX1_send_1 (by decide) ?_
  refine g_putM C 0 dX1_send_2 mwX1_send_inM (by decide) mwX1_send_f45 rfl rfl (by decide +kernel) rfl ?_
  refine g_iload_n C dX1_send_5 rfl rfl ?_
  refine g_iconst (v := 0) C dX1_send_6 (by decide) ?_
  refine g_iconst (v := 3) C dX1_send_7 (by decide) ?_
  refine g_callSEi (na := 3) C dX1_send_8 (m_isIn hl (eG E) (uS σ 20 0) τ o _ _ _) gX1_send_X1_isIn rfl rfl (by decide +kernel) rfl (Nat.le_of_ble_eq_true rfl) (by rw [R]; exact ⟨by decide, by decide⟩) (by rw [R]; exact ⟨by decide, by decide⟩) ?_
  refine g_if_ne (tgt := 20) C dX1_send_11 (by decide) (fun c_11 => ?_) (fun c_11 => ?_)
  · refine g_aload_n C dX1_send_20 rfl rfl ?_
    refine g_getM C 10 dX1_send_21 mwX1_send_inM (by decide) mwX1_send_f55 rfl rfl ?_
    refine g_if_ne (tgt := 33) C dX1_send_24 (by decide) (fun c_24 => ?_) (fun c_24 => ?_)
    · refine g_aload_n C dX1_send_33 rfl rfl ?_
      refine g_iload_n C dX1_send_34 rfl rfl ?_
      refine g_callVEi (Cl := RX1) (T := TX1) (N := 16) (ci := 1) (q0 := 12) (na := 1) C dX1_send_35 (m_costTo hl (eG E) (uS σ 20 0) τ o nw nl lm z I0) gX1_send_X1_costTo rfl rfl (by decide +kernel) rfl rfl rfl (Nat.le_of_ble_eq_true rfl) (by rw [R]; exact ⟨by decide, by decide⟩) (by rw [R]; exact ⟨by decide, by decide⟩) ?_
      refine g_istore_n C [(2, _), (0, _), (1, _)] dX1_send_38 rfl (by decide) rfl ?_
      refine g_aload_n C dX1_send_39 rfl rfl ?_
      refine g_dup C dX1_send_40 rfl ?_
      refine g_getM C 5 dX1_send_41 mwX1_send_inM (by decide) mwX1_send_f127 rfl rfl ?_
      refine g_iconst (v := 1) C dX1_send_44 (by decide) ?_
      refine g_iadd C dX1_send_45 ?_
      refine g_putM C 5 dX1_send_46 mwX1_send_inM (by decide) mwX1_send_f127 rfl rfl (by decide +kernel) rfl ?_
      refine g_aload_n C dX1_send_49 rfl rfl ?_
      refine g_dup C dX1_send_50 rfl ?_
      refine g_getM C 6 dX1_send_51 mwX1_send_inM (by decide) mwX1_send_f130 rfl rfl ?_
      refine g_iload_n C dX1_send_54 rfl rfl ?_
      refine g_iadd C dX1_send_55 ?_
      refine g_putM C 6 dX1_send_56 mwX1_send_inM (by decide) mwX1_send_f130 rfl rfl (by decide +kernel) rfl ?_
      refine g_aload_n C dX1_send_59 rfl rfl ?_
      refine g_iconst (v := 0) C dX1_send_60 (by decide) ?_
      refine g_putM C 10 dX1_send_61 mwX1_send_inM (by decide) mwX1_send_f55 rfl rfl (by decide +kernel) rfl ?_
      refine g_iload_n C dX1_send_64 rfl rfl ?_
      exact g_iret C F dX1_send_65 (by decide) (by decide) ⟨rfl, rfl, rfl, rfl⟩
    · exact absurd (by rw [← h9]; exact c_24) (nI_ne0 (Nat.pos_of_ne_zero h0) (by omega))
  · exact absurd c_11 (zn_y hz)
set_option maxHeartbeats 4000000 in
set_option maxRecDepth 100000 in
theorem m_sendX {l : Launch} (hl : l.stackTraces = false) (Γ : gG) (σ : gS) (τ : gT) (o : gO) (z : Int32) (hz : z < 0 ∨ ¬ z < 4) : Ct l yX1_send wsX1_send 4 128 0 0 [.ref (Γ.2.1 101), .int z] Γ σ τ o (pE (some (.int 0)) (uS (uS σ 20 0) 20 1) τ o) (noX) := by
  refine ct_of hl (by decide +kernel) rfl (Nat.le_of_ble_eq_true rfl) ?_
  intro E C F T hΓ hL R
  subst hΓ
  subst hL
  show G E 0 0 0 [(0, .ref ((eG E).2.1 101)), (1, .int z)] [] σ τ o
  refine g_aload_n C dX1_send_0 rfl rfl ?_
  refine g_iconst (v := 0) C dX1_send_1 (by decide) ?_
  refine g_putM C 0 dX1_send_2 mwX1_send_inM (by decide) mwX1_send_f45 rfl rfl (by decide +kernel) rfl ?_
  refine g_iload_n C dX1_send_5 rfl rfl ?_
  refine g_iconst (v := 0) C dX1_send_6 (by decide) ?_
  refine g_iconst (v := 3) C dX1_send_7 (by decide) ?_
  refine g_callSEi (na := 3) C dX1_send_8 (m_isIn hl (eG E) (uS σ 20 0) τ o _ _ _) gX1_send_X1_isIn rfl rfl (by decide +kernel) rfl (Nat.le_of_ble_eq_true rfl) (by rw [R]; exact ⟨by decide, by decide⟩) (by rw [R]; exact ⟨by decide, by decide⟩) ?_
  refine g_if_ne (tgt := 20) C dX1_send_11 (by decide) (fun c_11 => ?_) (fun c_11 => ?_)
  · exact absurd (zn_n hz) c_11
  · refine g_aload_n C dX1_send_14 rfl rfl ?_
    refine g_iconst (v := 1) C dX1_send_15 (by decide) ?_
    refine g_callVEi (Cl := RX1) (T := TX1) (N := 16) (ci := 1) (q0 := 12) (na := 1) C dX1_send_16 (m_fail hl (eG E) (uS σ 20 0) τ o 1) gX1_send_X1_fail rfl rfl (by decide +kernel) rfl rfl rfl (Nat.le_of_ble_eq_true rfl) (by rw [R]; exact ⟨by decide, by decide⟩) (by rw [R]; exact ⟨by decide, by decide⟩) ?_
    exact g_iret C F dX1_send_19 (by decide) (by decide) ⟨rfl, rfl, rfl, rfl⟩
set_option maxHeartbeats 4000000 in
set_option maxRecDepth 100000 in
theorem m_sendY {l : Launch} (hl : l.stackTraces = false) (Γ : gG) (σ : gS) (τ : gT) (o : gO) (nw nl lm : Nat) (z : Int32) (I : IM σ τ nw nl lm) (hz : ¬ z < 0 ∧ z < 4) (h0 : nl = 0) : Ct l yX1_send wsX1_send 4 128 0 0 [.ref (Γ.2.1 101), .int z] Γ σ τ o (pE (some (.int 0)) (uS (uS σ 20 0) 20 2) τ o) (noX) := by
  refine ct_of hl (by decide +kernel) rfl (Nat.le_of_ble_eq_true rfl) ?_
  intro E C F T hΓ hL R
  subst hΓ
  subst hL
  show G E 0 0 0 [(0, .ref ((eG E).2.1 101)), (1, .int z)] [] σ τ o
  have hnw := Iv_nw I
  have hnl := Iv_nl I
  have h3 : σ 21 = nI nw := Iv_h3 I
  have h9 : σ 30 = nI nl := Iv_h9 I
  have h4 : ¬ σ 22 = 0 := Iv_ne I
  have I0 : IM (uS σ 20 0) τ nw nl lm := I
  have h30 : uS σ 20 0 21 = nI nw := h3
  have h90 : uS σ 20 0 30 = nI nl := h9
  have h40 : ¬ uS σ 20 0 22 = 0 := h4
  refine g_aload_n C dX1_send_0 rfl rfl ?_
  refine g_iconst (v := 0) C dX1_send_1 (by decide) ?_
  refine g_putM C 0 dX1_send_2 mwX1_send_inM (by decide) mwX1_send_f45 rfl rfl (by decide +kernel) rfl ?_
  refine g_iload_n C dX1_send_5 rfl rfl ?_
  refine g_iconst (v := 0) C dX1_send_6 (by decide) ?_
  refine g_iconst (v := 3) C dX1_send_7 (by decide) ?_
  refine g_callSEi (na := 3) C dX1_send_8 (m_isIn hl (eG E) (uS σ 20 0) τ o _ _ _) gX1_send_X1_isIn rfl rfl (by decide +kernel) rfl (Nat.le_of_ble_eq_true rfl) (by rw [R]; exact ⟨by decide, by decide⟩) (by rw [R]; exact ⟨by decide, by decide⟩) ?_
  refine g_if_ne (tgt := 20) C dX1_send_11 (by decide) (fun c_11 => ?_) (fun c_11 => ?_)
  · refine g_aload_n C dX1_send_20 rfl rfl ?_
    refine g_getM C 10 dX1_send_21 mwX1_send_inM (by decide) mwX1_send_f55 rfl rfl ?_
    refine g_if_ne (tgt := 33) C dX1_send_24 (by decide) (fun c_24 => ?_) (fun c_24 => ?_)
    · exact absurd (by rw [show uS σ 20 0 30 = nI nl from h9, h0]; rfl) c_24
    · refine g_aload_n C dX1_send_27 rfl rfl ?_
      refine g_iconst (v := 2) C dX1_send_28 (by decide) ?_
      refine g_callVEi (Cl := RX1) (T := TX1) (N := 16) (ci := 1) (q0 := 12) (na := 1) C dX1_send_29 (m_fail hl (eG E) (uS σ 20 0) τ o 2) gX1_send_X1_fail rfl rfl (by decide +kernel) rfl rfl rfl (Nat.le_of_ble_eq_true rfl) (by rw [R]; exact ⟨by decide, by decide⟩) (by rw [R]; exact ⟨by decide, by decide⟩) ?_
      exact g_iret C F dX1_send_32 (by decide) (by decide) ⟨rfl, rfl, rfl, rfl⟩
  · exact absurd c_11 (zn_y hz)
set_option maxHeartbeats 4000000 in
set_option maxRecDepth 100000 in
theorem m_count {l : Launch} (hl : l.stackTraces = false) (Γ : gG) (σ : gS) (τ : gT) (o : gO) (nw nl lm : Nat) (I : IM σ τ nw nl lm) : Ct l yX1_count wsX1_count 3 96 0 0 [.ref (Γ.2.1 101)] Γ σ τ o (pE (some (.int (CTm σ τ nl))) (uS σ 20 0) τ o) (noX) := by
  refine ct_of hl (by decide +kernel) rfl (Nat.le_of_ble_eq_true rfl) ?_
  intro E C F T hΓ hL R
  subst hΓ
  subst hL
  show G E 0 0 0 [(0, .ref ((eG E).2.1 101))] [] σ τ o
  have hnw := Iv_nw I
  have hnl := Iv_nl I
  have h3 : σ 21 = nI nw := Iv_h3 I
  have h9 : σ 30 = nI nl := Iv_h9 I
  have h4 : ¬ σ 22 = 0 := Iv_ne I
  have I0 : IM (uS σ 20 0) τ nw nl lm := I
  have h30 : uS σ 20 0 21 = nI nw := h3
  have h90 : uS σ 20 0 30 = nI nl := h9
  have h40 : ¬ uS σ 20 0 22 = 0 := h4
  refine g_aload_n C dX1_count_0 rfl rfl ?_
  refine g_aload_n C dX1_count_1 rfl rfl ?_
  refine g_callVEi (Cl := RX1) (T := TX1) (N := 16) (ci := 1) (q0 := 12) (na := 0) C dX1_count_2 (m_countNow hl (eG E) σ τ o nw nl lm I) gX1_count_X1_countNow rfl rfl (by decide +kernel) rfl rfl rfl (Nat.le_of_ble_eq_true rfl) (by rw [R]; exact ⟨by decide, by decide⟩) (by rw [R]; exact ⟨by decide, by decide⟩) ?_
  refine g_callVEi (Cl := RX1) (T := TX1) (N := 16) (ci := 1) (q0 := 12) (na := 1) C dX1_count_5 (m_told hl (eG E) σ τ o _) gX1_count_X1_told rfl rfl (by decide +kernel) rfl rfl rfl (Nat.le_of_ble_eq_true rfl) (by rw [R]; exact ⟨by decide, by decide⟩) (by rw [R]; exact ⟨by decide, by decide⟩) ?_
  exact g_iret C F dX1_count_8 (by decide) (by decide) ⟨rfl, rfl, rfl, rfl⟩
set_option maxRecDepth 100000 in
theorem mwX1_price_inM : ∀ w ∈ wsX10, w ∈ wsX1_price := by decide +kernel
set_option maxRecDepth 100000 in
theorem mwX1_price_f16 : Cond.fieldLink RX1 16 "TelegraphPricesModel" "coins" "I" ∈ wsX1_price := by decide +kernel
set_option maxHeartbeats 4000000 in
set_option maxRecDepth 100000 in
theorem m_price {l : Launch} (hl : l.stackTraces = false) (Γ : gG) (σ : gS) (τ : gT) (o : gO) (nw nl lm : Nat) (I : IM σ τ nw nl lm) : Ct l yX1_price wsX1_price 3 96 0 0 [.ref (Γ.2.1 101)] Γ σ τ o (pE (some (.int (CTm σ τ nl * σ 24))) (uS σ 20 0) τ o) (noX) := by
  refine ct_of hl (by decide +kernel) rfl (Nat.le_of_ble_eq_true rfl) ?_
  intro E C F T hΓ hL R
  subst hΓ
  subst hL
  show G E 0 0 0 [(0, .ref ((eG E).2.1 101))] [] σ τ o
  have hnw := Iv_nw I
  have hnl := Iv_nl I
  have h3 : σ 21 = nI nw := Iv_h3 I
  have h9 : σ 30 = nI nl := Iv_h9 I
  have h4 : ¬ σ 22 = 0 := Iv_ne I
  have I0 : IM (uS σ 20 0) τ nw nl lm := I
  have h30 : uS σ 20 0 21 = nI nw := h3
  have h90 : uS σ 20 0 30 = nI nl := h9
  have h40 : ¬ uS σ 20 0 22 = 0 := h4
  refine g_aload_n C dX1_price_0 rfl rfl ?_
  refine g_aload_n C dX1_price_1 rfl rfl ?_
  refine g_callVEi (Cl := RX1) (T := TX1) (N := 16) (ci := 1) (q0 := 12) (na := 0) C dX1_price_2 (m_countNow hl (eG E) σ τ o nw nl lm I) gX1_price_X1_countNow rfl rfl (by decide +kernel) rfl rfl rfl (Nat.le_of_ble_eq_true rfl) (by rw [R]; exact ⟨by decide, by decide⟩) (by rw [R]; exact ⟨by decide, by decide⟩) ?_
  refine g_aload_n C dX1_price_5 rfl rfl ?_
  refine g_getM C 4 dX1_price_6 mwX1_price_inM (by decide) mwX1_price_f16 rfl rfl ?_
  refine g_imul C dX1_price_9 ?_
  refine g_callVEi (Cl := RX1) (T := TX1) (N := 16) (ci := 1) (q0 := 12) (na := 1) C dX1_price_10 (m_told hl (eG E) σ τ o _) gX1_price_X1_told rfl rfl (by decide +kernel) rfl rfl rfl (Nat.le_of_ble_eq_true rfl) (by rw [R]; exact ⟨by decide, by decide⟩) (by rw [R]; exact ⟨by decide, by decide⟩) ?_
  exact g_iret C F dX1_price_13 (by decide) (by decide) ⟨rfl, rfl, rfl, rfl⟩
set_option maxHeartbeats 4000000 in
set_option maxRecDepth 100000 in
theorem m_cheapestCount {l : Launch} (hl : l.stackTraces = false) (Γ : gG) (σ : gS) (τ : gT) (o : gO) (nw nl lm : Nat) (I : IM σ τ nw nl lm) : Ct l yX1_cheapestCount wsX1_cheapestCount 4 128 0 0 [.ref (Γ.2.1 101)] Γ σ τ o (pI (fun r σ' τ' o' => r = CCm σ τ nw nl ∧ σ' = uS σ 20 0 ∧ o' = o ∧ (∀ c, c ≠ 33 → τ' c = τ c))) (noX) := by
  refine ct_of hl (by decide +kernel) rfl (Nat.le_of_ble_eq_true rfl) ?_
  intro E C F T hΓ hL R
  subst hΓ
  subst hL
  show G E 0 0 0 [(0, .ref ((eG E).2.1 101))] [] σ τ o
  have hnw := Iv_nw I
  have hnl := Iv_nl I
  have h3 : σ 21 = nI nw := Iv_h3 I
  have h9 : σ 30 = nI nl := Iv_h9 I
  have h4 : ¬ σ 22 = 0 := Iv_ne I
  have I0 : IM (uS σ 20 0) τ nw nl lm := I
  have h30 : uS σ 20 0 21 = nI nw := h3
  have h90 : uS σ 20 0 30 = nI nl := h9
  have h40 : ¬ uS σ 20 0 22 = 0 := h4
  refine g_aload_n C dX1_cheapestCount_0 rfl rfl ?_
  refine g_aload_n C dX1_cheapestCount_1 rfl rfl ?_
  refine g_aload_n C dX1_cheapestCount_2 rfl rfl ?_
  refine g_callVi (Cl := RX1) (T := TX1) (N := 16) (ci := 1) (q0 := 12) (na := 0) C dX1_cheapestCount_3 (m_reckon hl (eG E) σ τ o nw nl lm I) gX1_cheapestCount_X1_reckon rfl rfl (by decide +kernel) rfl rfl rfl (Nat.le_of_ble_eq_true rfl) (by rw [R]; exact ⟨by decide, by decide⟩) (by rw [R]; exact ⟨by decide, by decide⟩) noX_kx (fun r1 σ1 τ1 o1 hN1 => ?_)
  obtain ⟨e0, e1, e2, hN⟩ := hN1
  rw [e0, e1, e2]
  refine g_callVEi (Cl := RX1) (T := TX1) (N := 16) (ci := 1) (q0 := 12) (na := 1) C dX1_cheapestCount_6 (m_lifted hl (eG E) σ τ1 o nl _ h9 hnl) gX1_cheapestCount_X1_lifted rfl rfl (by decide +kernel) rfl rfl rfl (Nat.le_of_ble_eq_true rfl) (by rw [R]; exact ⟨by decide, by decide⟩) (by rw [R]; exact ⟨by decide, by decide⟩) ?_
  refine g_callVEi (Cl := RX1) (T := TX1) (N := 16) (ci := 1) (q0 := 12) (na := 1) C dX1_cheapestCount_9 (m_told hl (eG E) σ τ1 o _) gX1_cheapestCount_X1_told rfl rfl (by decide +kernel) rfl rfl rfl (Nat.le_of_ble_eq_true rfl) (by rw [R]; exact ⟨by decide, by decide⟩) (by rw [R]; exact ⟨by decide, by decide⟩) ?_
  exact g_iret C F dX1_cheapestCount_12 (by decide) (by decide) ⟨_, rfl, rfl, rfl, rfl, hN.1⟩
set_option maxRecDepth 100000 in
theorem mwX1_saves_inM : ∀ w ∈ wsX10, w ∈ wsX1_saves := by decide +kernel
set_option maxRecDepth 100000 in
theorem mwX1_saves_f16 : Cond.fieldLink RX1 16 "TelegraphPricesModel" "coins" "I" ∈ wsX1_saves := by decide +kernel
set_option maxHeartbeats 4000000 in
set_option maxRecDepth 100000 in
theorem m_saves {l : Launch} (hl : l.stackTraces = false) (Γ : gG) (σ : gS) (τ : gT) (o : gO) (nw nl lm : Nat) (I : IM σ τ nw nl lm) : Ct l yX1_saves wsX1_saves 4 128 0 0 [.ref (Γ.2.1 101)] Γ σ τ o (pI (fun r σ' τ' o' => r = (CTm σ τ nl - CCm σ τ nw nl) * σ 24 ∧ σ' = uS σ 20 0 ∧ o' = o ∧ (∀ c, c ≠ 33 → τ' c = τ c))) (noX) := by
  refine ct_of hl (by decide +kernel) rfl (Nat.le_of_ble_eq_true rfl) ?_
  intro E C F T hΓ hL R
  subst hΓ
  subst hL
  show G E 0 0 0 [(0, .ref ((eG E).2.1 101))] [] σ τ o
  have hnw := Iv_nw I
  have hnl := Iv_nl I
  have h3 : σ 21 = nI nw := Iv_h3 I
  have h9 : σ 30 = nI nl := Iv_h9 I
  have h4 : ¬ σ 22 = 0 := Iv_ne I
  have I0 : IM (uS σ 20 0) τ nw nl lm := I
  have h30 : uS σ 20 0 21 = nI nw := h3
  have h90 : uS σ 20 0 30 = nI nl := h9
  have h40 : ¬ uS σ 20 0 22 = 0 := h4
  refine g_aload_n C dX1_saves_0 rfl rfl ?_
  refine g_aload_n C dX1_saves_1 rfl rfl ?_
  refine g_callVEi (Cl := RX1) (T := TX1) (N := 16) (ci := 1) (q0 := 12) (na := 0) C dX1_saves_2 (m_countNow hl (eG E) σ τ o nw nl lm I) gX1_saves_X1_countNow rfl rfl (by decide +kernel) rfl rfl rfl (Nat.le_of_ble_eq_true rfl) (by rw [R]; exact ⟨by decide, by decide⟩) (by rw [R]; exact ⟨by decide, by decide⟩) ?_
  refine g_aload_n C dX1_saves_5 rfl rfl ?_
  refine g_aload_n C dX1_saves_6 rfl rfl ?_
  refine g_callVi (Cl := RX1) (T := TX1) (N := 16) (ci := 1) (q0 := 12) (na := 0) C dX1_saves_7 (m_reckon hl (eG E) σ τ o nw nl lm I) gX1_saves_X1_reckon rfl rfl (by decide +kernel) rfl rfl rfl (Nat.le_of_ble_eq_true rfl) (by rw [R]; exact ⟨by decide, by decide⟩) (by rw [R]; exact ⟨by decide, by decide⟩) noX_kx (fun r1 σ1 τ1 o1 hN1 => ?_)
  obtain ⟨e0, e1, e2, hN⟩ := hN1
  rw [e0, e1, e2]
  refine g_callVEi (Cl := RX1) (T := TX1) (N := 16) (ci := 1) (q0 := 12) (na := 1) C dX1_saves_10 (m_lifted hl (eG E) σ τ1 o nl _ h9 hnl) gX1_saves_X1_lifted rfl rfl (by decide +kernel) rfl rfl rfl (Nat.le_of_ble_eq_true rfl) (by rw [R]; exact ⟨by decide, by decide⟩) (by rw [R]; exact ⟨by decide, by decide⟩) ?_
  refine g_isub C dX1_saves_13 ?_
  refine g_aload_n C dX1_saves_14 rfl rfl ?_
  refine g_getM C 4 dX1_saves_15 mwX1_saves_inM (by decide) mwX1_saves_f16 rfl rfl ?_
  refine g_imul C dX1_saves_18 ?_
  refine g_callVEi (Cl := RX1) (T := TX1) (N := 16) (ci := 1) (q0 := 12) (na := 1) C dX1_saves_19 (m_told hl (eG E) σ τ1 o _) gX1_saves_X1_told rfl rfl (by decide +kernel) rfl rfl rfl (Nat.le_of_ble_eq_true rfl) (by rw [R]; exact ⟨by decide, by decide⟩) (by rw [R]; exact ⟨by decide, by decide⟩) ?_
  exact g_iret C F dX1_saves_22 (by decide) (by decide) ⟨_, rfl, rfl, rfl, rfl, hN.1⟩
set_option maxRecDepth 100000 in
theorem mwX1_cheapestWordAt_inM : ∀ w ∈ wsX10, w ∈ wsX1_cheapestWordAt := by decide +kernel
set_option maxRecDepth 100000 in
theorem mwX1_cheapestWordAt_f45 : Cond.fieldLink RX1 45 "TelegraphPricesModel" "thrown" "I" ∈ wsX1_cheapestWordAt := by decide +kernel
set_option maxRecDepth 100000 in
theorem mwX1_cheapestWordAt_f39 : Cond.fieldLink RX1 39 "TelegraphPricesModel" "cheap" "[I" ∈ wsX1_cheapestWordAt := by decide +kernel
set_option maxHeartbeats 4000000 in
set_option maxRecDepth 100000 in
theorem m_cheapestWordAt {l : Launch} (hl : l.stackTraces = false) (Γ : gG) (σ : gS) (τ : gT) (o : gO) (nw nl lm : Nat) (p : Nat) (I : IM σ τ nw nl lm) (hp : p < nl) : Ct l yX1_cheapestWordAt wsX1_cheapestWordAt 5 160 0 0 [.ref (Γ.2.1 101), .int (nI p)] Γ σ τ o (pI (fun r σ' τ' o' => r = CWm σ τ nw nl p ∧ σ' = uS σ 20 0 ∧ o' = o ∧ MS τ τ' ∧ ∀ i, τ' 35 i = 0 ∨ τ' 35 i = 1)) (noX) := by
  refine ct_of hl (by decide +kernel) rfl (Nat.le_of_ble_eq_true rfl) ?_
  intro E C F T hΓ hL R
  subst hΓ
  subst hL
  show G E 0 0 0 [(0, .ref ((eG E).2.1 101)), (1, .int (nI p))] [] σ τ o
  have hnw := Iv_nw I
  have hnl := Iv_nl I
  have h3 : σ 21 = nI nw := Iv_h3 I
  have h9 : σ 30 = nI nl := Iv_h9 I
  have h4 : ¬ σ 22 = 0 := Iv_ne I
  have I0 : IM (uS σ 20 0) τ nw nl lm := I
  have h30 : uS σ 20 0 21 = nI nw := h3
  have h90 : uS σ 20 0 30 = nI nl := h9
  have h40 : ¬ uS σ 20 0 22 = 0 := h4
  refine g_aload_n C dX1_cheapestWordAt_0 rfl rfl ?_
  refine g_iconst (v := 0) C dX1_cheapestWordAt_1 (by decide) ?_
  refine g_putM C 0 dX1_cheapestWordAt_2 mwX1_cheapestWordAt_inM (by decide) mwX1_cheapestWordAt_f45 rfl rfl (by decide +kernel) rfl ?_
  refine g_aload_n C dX1_cheapestWordAt_5 rfl rfl ?_
  refine g_iload_n C dX1_cheapestWordAt_6 rfl rfl ?_
  refine g_callVEi (Cl := RX1) (T := TX1) (N := 16) (ci := 1) (q0 := 12) (na := 1) C dX1_cheapestWordAt_7 (m_isPlace hl (eG E) (uS σ 20 0) τ o _) gX1_cheapestWordAt_X1_isPlace rfl rfl (by decide +kernel) rfl rfl rfl (Nat.le_of_ble_eq_true rfl) (by rw [R]; exact ⟨by decide, by decide⟩) (by rw [R]; exact ⟨by decide, by decide⟩) ?_
  refine g_if_ne (tgt := 19) C dX1_cheapestWordAt_10 (by decide) (fun c_10 => ?_) (fun c_10 => ?_)
  · refine g_aload_n C dX1_cheapestWordAt_19 rfl rfl ?_
    refine g_callVv (Cl := RX1) (T := TX1) (N := 16) (ci := 1) (q0 := 12) (na := 0) C dX1_cheapestWordAt_20 (m_choose hl (eG E) (uS σ 20 0) τ o nw nl lm I0) gX1_cheapestWordAt_X1_choose rfl rfl (by decide +kernel) rfl rfl rfl (Nat.le_of_ble_eq_true rfl) (by rw [R]; exact ⟨by decide, by decide⟩) (by rw [R]; exact ⟨by decide, by decide⟩) noX_kx (fun σ1 τ1 o1 hN1 => ?_)
    obtain ⟨e1, e2, hN⟩ := hN1
    rw [e1, e2]
    refine g_aload_n C dX1_cheapestWordAt_23 rfl rfl ?_
    refine g_getM C 14 dX1_cheapestWordAt_24 mwX1_cheapestWordAt_inM (by decide) mwX1_cheapestWordAt_f39 rfl rfl ?_
    refine g_iload_n C dX1_cheapestWordAt_27 rfl rfl ?_
    refine g_ialdN C (p) dX1_cheapestWordAt_28 rfl rfl (show p < 16 by omega) (by decide) ?_
    exact g_iret C F dX1_cheapestWordAt_29 (by decide) (by decide) ⟨_, rfl, (hN.2.2.2 p hp).1, rfl, rfl, hN.1, hN.2.2.1⟩
  · exact absurd c_10 (by rw [h90, ii_y hp (by omega)]; decide)
set_option maxHeartbeats 4000000 in
set_option maxRecDepth 100000 in
theorem m_cheapestWordAtX {l : Launch} (hl : l.stackTraces = false) (Γ : gG) (σ : gS) (τ : gT) (o : gO) (nw nl lm : Nat) (w : Int32) (I : IM σ τ nw nl lm) (hw : w < 0 ∨ ¬ w < σ 30) : Ct l yX1_cheapestWordAt wsX1_cheapestWordAt 5 160 0 0 [.ref (Γ.2.1 101), .int w] Γ σ τ o (pE (some (.int 0)) (uS (uS σ 20 0) 20 1) τ o) (noX) := by
  refine ct_of hl (by decide +kernel) rfl (Nat.le_of_ble_eq_true rfl) ?_
  intro E C F T hΓ hL R
  subst hΓ
  subst hL
  show G E 0 0 0 [(0, .ref ((eG E).2.1 101)), (1, .int w)] [] σ τ o
  have hnw := Iv_nw I
  have hnl := Iv_nl I
  have h3 : σ 21 = nI nw := Iv_h3 I
  have h9 : σ 30 = nI nl := Iv_h9 I
  have h4 : ¬ σ 22 = 0 := Iv_ne I
  have I0 : IM (uS σ 20 0) τ nw nl lm := I
  have h30 : uS σ 20 0 21 = nI nw := h3
  have h90 : uS σ 20 0 30 = nI nl := h9
  have h40 : ¬ uS σ 20 0 22 = 0 := h4
  refine g_aload_n C dX1_cheapestWordAt_0 rfl rfl ?_
  refine g_iconst (v := 0) C dX1_cheapestWordAt_1 (by decide) ?_
  refine g_putM C 0 dX1_cheapestWordAt_2 mwX1_cheapestWordAt_inM (by decide) mwX1_cheapestWordAt_f45 rfl rfl (by decide +kernel) rfl ?_
  refine g_aload_n C dX1_cheapestWordAt_5 rfl rfl ?_
  refine g_iload_n C dX1_cheapestWordAt_6 rfl rfl ?_
  refine g_callVEi (Cl := RX1) (T := TX1) (N := 16) (ci := 1) (q0 := 12) (na := 1) C dX1_cheapestWordAt_7 (m_isPlace hl (eG E) (uS σ 20 0) τ o _) gX1_cheapestWordAt_X1_isPlace rfl rfl (by decide +kernel) rfl rfl rfl (Nat.le_of_ble_eq_true rfl) (by rw [R]; exact ⟨by decide, by decide⟩) (by rw [R]; exact ⟨by decide, by decide⟩) ?_
  refine g_if_ne (tgt := 19) C dX1_cheapestWordAt_10 (by decide) (fun c_10 => ?_) (fun c_10 => ?_)
  · exact absurd (by rw [h90]; exact ii_n (by omega) (by rw [← h9]; exact hw)) c_10
  · refine g_aload_n C dX1_cheapestWordAt_13 rfl rfl ?_
    refine g_iconst (v := 1) C dX1_cheapestWordAt_14 (by decide) ?_
    refine g_callVEi (Cl := RX1) (T := TX1) (N := 16) (ci := 1) (q0 := 12) (na := 1) C dX1_cheapestWordAt_15 (m_fail hl (eG E) (uS σ 20 0) τ o 1) gX1_cheapestWordAt_X1_fail rfl rfl (by decide +kernel) rfl rfl rfl (Nat.le_of_ble_eq_true rfl) (by rw [R]; exact ⟨by decide, by decide⟩) (by rw [R]; exact ⟨by decide, by decide⟩) ?_
    exact g_iret C F dX1_cheapestWordAt_18 (by decide) (by decide) ⟨rfl, rfl, rfl, rfl⟩
set_option maxRecDepth 100000 in
theorem mwX1_isJoinedInCheapest_inM : ∀ w ∈ wsX10, w ∈ wsX1_isJoinedInCheapest := by decide +kernel
set_option maxRecDepth 100000 in
theorem mwX1_isJoinedInCheapest_f45 : Cond.fieldLink RX1 45 "TelegraphPricesModel" "thrown" "I" ∈ wsX1_isJoinedInCheapest := by decide +kernel
set_option maxRecDepth 100000 in
theorem mwX1_isJoinedInCheapest_f42 : Cond.fieldLink RX1 42 "TelegraphPricesModel" "with" "[Z" ∈ wsX1_isJoinedInCheapest := by decide +kernel
set_option maxHeartbeats 4000000 in
set_option maxRecDepth 100000 in
theorem m_isJoinedInCheapest {l : Launch} (hl : l.stackTraces = false) (Γ : gG) (σ : gS) (τ : gT) (o : gO) (nw nl lm : Nat) (p : Nat) (I : IM σ τ nw nl lm) (hp : p < nl) : Ct l yX1_isJoinedInCheapest wsX1_isJoinedInCheapest 5 160 0 0 [.ref (Γ.2.1 101), .int (nI p)] Γ σ τ o (pI (fun r σ' τ' o' => r = cjd (prm σ τ nw nl) p ∧ σ' = uS σ 20 0 ∧ o' = o ∧ MS τ τ' ∧ ∀ i, τ' 35 i = 0 ∨ τ' 35 i = 1)) (noX) := by
  refine ct_of hl (by decide +kernel) rfl (Nat.le_of_ble_eq_true rfl) ?_
  intro E C F T hΓ hL R
  subst hΓ
  subst hL
  show G E 0 0 0 [(0, .ref ((eG E).2.1 101)), (1, .int (nI p))] [] σ τ o
  have hnw := Iv_nw I
  have hnl := Iv_nl I
  have h3 : σ 21 = nI nw := Iv_h3 I
  have h9 : σ 30 = nI nl := Iv_h9 I
  have h4 : ¬ σ 22 = 0 := Iv_ne I
  have I0 : IM (uS σ 20 0) τ nw nl lm := I
  have h30 : uS σ 20 0 21 = nI nw := h3
  have h90 : uS σ 20 0 30 = nI nl := h9
  have h40 : ¬ uS σ 20 0 22 = 0 := h4
  refine g_aload_n C dX1_isJoinedInCheapest_0 rfl rfl ?_
  refine g_iconst (v := 0) C dX1_isJoinedInCheapest_1 (by decide) ?_
  refine g_putM C 0 dX1_isJoinedInCheapest_2 mwX1_isJoinedInCheapest_inM (by decide) mwX1_isJoinedInCheapest_f45 rfl rfl (by decide +kernel) rfl ?_
  refine g_aload_n C dX1_isJoinedInCheapest_5 rfl rfl ?_
  refine g_iload_n C dX1_isJoinedInCheapest_6 rfl rfl ?_
  refine g_callVEi (Cl := RX1) (T := TX1) (N := 16) (ci := 1) (q0 := 12) (na := 1) C dX1_isJoinedInCheapest_7 (m_isPlace hl (eG E) (uS σ 20 0) τ o _) gX1_isJoinedInCheapest_X1_isPlace rfl rfl (by decide +kernel) rfl rfl rfl (Nat.le_of_ble_eq_true rfl) (by rw [R]; exact ⟨by decide, by decide⟩) (by rw [R]; exact ⟨by decide, by decide⟩) ?_
  refine g_if_ne (tgt := 19) C dX1_isJoinedInCheapest_10 (by decide) (fun c_10 => ?_) (fun c_10 => ?_)
  · refine g_aload_n C dX1_isJoinedInCheapest_19 rfl rfl ?_
    refine g_callVv (Cl := RX1) (T := TX1) (N := 16) (ci := 1) (q0 := 12) (na := 0) C dX1_isJoinedInCheapest_20 (m_choose hl (eG E) (uS σ 20 0) τ o nw nl lm I0) gX1_isJoinedInCheapest_X1_choose rfl rfl (by decide +kernel) rfl rfl rfl (Nat.le_of_ble_eq_true rfl) (by rw [R]; exact ⟨by decide, by decide⟩) (by rw [R]; exact ⟨by decide, by decide⟩) noX_kx (fun σ1 τ1 o1 hN1 => ?_)
    obtain ⟨e1, e2, hN⟩ := hN1
    rw [e1, e2]
    refine g_aload_n C dX1_isJoinedInCheapest_23 rfl rfl ?_
    refine g_getM C 15 dX1_isJoinedInCheapest_24 mwX1_isJoinedInCheapest_inM (by decide) mwX1_isJoinedInCheapest_f42 rfl rfl ?_
    refine g_iload_n C dX1_isJoinedInCheapest_27 rfl rfl ?_
    refine g_zaldN C (p) dX1_isJoinedInCheapest_28 rfl rfl (show p < 16 by omega) (by decide) ?_
    exact g_zret C F dX1_isJoinedInCheapest_29 (hN.2.2.1 p) (by decide) (by decide) ⟨_, rfl, (hN.2.2.2 p hp).2, rfl, rfl, hN.1, hN.2.2.1⟩
  · exact absurd c_10 (by rw [h90, ii_y hp (by omega)]; decide)
set_option maxHeartbeats 4000000 in
set_option maxRecDepth 100000 in
theorem m_isJoinedInCheapestX {l : Launch} (hl : l.stackTraces = false) (Γ : gG) (σ : gS) (τ : gT) (o : gO) (nw nl lm : Nat) (w : Int32) (I : IM σ τ nw nl lm) (hw : w < 0 ∨ ¬ w < σ 30) : Ct l yX1_isJoinedInCheapest wsX1_isJoinedInCheapest 5 160 0 0 [.ref (Γ.2.1 101), .int w] Γ σ τ o (pE (some (.int 0)) (uS (uS σ 20 0) 20 1) τ o) (noX) := by
  refine ct_of hl (by decide +kernel) rfl (Nat.le_of_ble_eq_true rfl) ?_
  intro E C F T hΓ hL R
  subst hΓ
  subst hL
  show G E 0 0 0 [(0, .ref ((eG E).2.1 101)), (1, .int w)] [] σ τ o
  have hnw := Iv_nw I
  have hnl := Iv_nl I
  have h3 : σ 21 = nI nw := Iv_h3 I
  have h9 : σ 30 = nI nl := Iv_h9 I
  have h4 : ¬ σ 22 = 0 := Iv_ne I
  have I0 : IM (uS σ 20 0) τ nw nl lm := I
  have h30 : uS σ 20 0 21 = nI nw := h3
  have h90 : uS σ 20 0 30 = nI nl := h9
  have h40 : ¬ uS σ 20 0 22 = 0 := h4
  refine g_aload_n C dX1_isJoinedInCheapest_0 rfl rfl ?_
  refine g_iconst (v := 0) C dX1_isJoinedInCheapest_1 (by decide) ?_
  refine g_putM C 0 dX1_isJoinedInCheapest_2 mwX1_isJoinedInCheapest_inM (by decide) mwX1_isJoinedInCheapest_f45 rfl rfl (by decide +kernel) rfl ?_
  refine g_aload_n C dX1_isJoinedInCheapest_5 rfl rfl ?_
  refine g_iload_n C dX1_isJoinedInCheapest_6 rfl rfl ?_
  refine g_callVEi (Cl := RX1) (T := TX1) (N := 16) (ci := 1) (q0 := 12) (na := 1) C dX1_isJoinedInCheapest_7 (m_isPlace hl (eG E) (uS σ 20 0) τ o _) gX1_isJoinedInCheapest_X1_isPlace rfl rfl (by decide +kernel) rfl rfl rfl (Nat.le_of_ble_eq_true rfl) (by rw [R]; exact ⟨by decide, by decide⟩) (by rw [R]; exact ⟨by decide, by decide⟩) ?_
  refine g_if_ne (tgt := 19) C dX1_isJoinedInCheapest_10 (by decide) (fun c_10 => ?_) (fun c_10 => ?_)
  · exact absurd (by rw [h90]; exact ii_n (by omega) (by rw [← h9]; exact hw)) c_10
  · refine g_aload_n C dX1_isJoinedInCheapest_13 rfl rfl ?_
    refine g_iconst (v := 1) C dX1_isJoinedInCheapest_14 (by decide) ?_
    refine g_callVEi (Cl := RX1) (T := TX1) (N := 16) (ci := 1) (q0 := 12) (na := 1) C dX1_isJoinedInCheapest_15 (m_failed hl (eG E) (uS σ 20 0) τ o 1) gX1_isJoinedInCheapest_X1_failed rfl rfl (by decide +kernel) rfl rfl rfl (Nat.le_of_ble_eq_true rfl) (by rw [R]; exact ⟨by decide, by decide⟩) (by rw [R]; exact ⟨by decide, by decide⟩) ?_
    exact g_zret C F dX1_isJoinedInCheapest_18 (Or.inl rfl) (by decide) (by decide) ⟨rfl, rfl, rfl, rfl⟩
set_option maxRecDepth 100000 in
theorem mwX1_meanCost_inM : ∀ w ∈ wsX10, w ∈ wsX1_meanCost := by decide +kernel
set_option maxRecDepth 100000 in
theorem mwX1_meanCost_f45 : Cond.fieldLink RX1 45 "TelegraphPricesModel" "thrown" "I" ∈ wsX1_meanCost := by decide +kernel
set_option maxRecDepth 100000 in
theorem mwX1_meanCost_f127 : Cond.fieldLink RX1 127 "TelegraphPricesModel" "sent" "I" ∈ wsX1_meanCost := by decide +kernel
set_option maxHeartbeats 4000000 in
set_option maxRecDepth 100000 in
theorem m_meanCost0 {l : Launch} (hl : l.stackTraces = false) (Γ : gG) (σ : gS) (τ : gT) (o : gO)  (h : σ 25 = 0) : Ct l yX1_meanCost wsX1_meanCost 1 32 0 0 [.ref (Γ.2.1 101)] Γ σ τ o (pE (some (.double FP.dconst0)) (uS σ 20 0) τ o) (noX) := by
  refine ct_of hl (by decide +kernel) rfl (Nat.le_of_ble_eq_true rfl) ?_
  intro E C F T hΓ hL R
  subst hΓ
  subst hL
  show G E 0 0 0 [(0, .ref ((eG E).2.1 101))] [] σ τ o
  refine g_aload_n C dX1_meanCost_0 rfl rfl ?_
  refine g_iconst (v := 0) C dX1_meanCost_1 (by decide) ?_
  refine g_putM C 0 dX1_meanCost_2 mwX1_meanCost_inM (by decide) mwX1_meanCost_f45 rfl rfl (by decide +kernel) rfl ?_
  refine g_aload_n C dX1_meanCost_5 rfl rfl ?_
  refine g_getM C 5 dX1_meanCost_6 mwX1_meanCost_inM (by decide) mwX1_meanCost_f127 rfl rfl ?_
  refine g_if_ne (tgt := 16) C dX1_meanCost_9 (by decide) (fun c_9 => ?_) (fun c_9 => ?_)
  · exact absurd h c_9
  · refine g_dconst0 C dX1_meanCost_12 ?_
    refine g_goto (tgt := 27) C dX1_meanCost_13 (by decide) ?_
    exact g_dret C F dX1_meanCost_27 (by decide) (by decide) ⟨rfl, rfl, rfl, rfl⟩
set_option maxRecDepth 100000 in
theorem mwX1_meanCost_f130 : Cond.fieldLink RX1 130 "TelegraphPricesModel" "earned" "I" ∈ wsX1_meanCost := by decide +kernel
set_option maxHeartbeats 4000000 in
set_option maxRecDepth 100000 in
theorem m_meanCost {l : Launch} (hl : l.stackTraces = false) (Γ : gG) (σ : gS) (τ : gT) (o : gO)  (h : ¬ σ 25 = 0) (hn : vf_n64 (FP.ddiv (FP.i2d (σ 26)) (FP.i2d (σ 25)))) : Ct l yX1_meanCost wsX1_meanCost 1 32 0 0 [.ref (Γ.2.1 101)] Γ σ τ o (pE (some (.double (FP.ddiv (FP.i2d (σ 26)) (FP.i2d (σ 25))))) (uS σ 20 0) τ o) (noX) := by
  refine ct_of hl (by decide +kernel) rfl (Nat.le_of_ble_eq_true rfl) ?_
  intro E C F T hΓ hL R
  subst hΓ
  subst hL
  show G E 0 0 0 [(0, .ref ((eG E).2.1 101))] [] σ τ o
  refine g_aload_n C dX1_meanCost_0 rfl rfl ?_
  refine g_iconst (v := 0) C dX1_meanCost_1 (by decide) ?_
  refine g_putM C 0 dX1_meanCost_2 mwX1_meanCost_inM (by decide) mwX1_meanCost_f45 rfl rfl (by decide +kernel) rfl ?_
  refine g_aload_n C dX1_meanCost_5 rfl rfl ?_
  refine g_getM C 5 dX1_meanCost_6 mwX1_meanCost_inM (by decide) mwX1_meanCost_f127 rfl rfl ?_
  refine g_if_ne (tgt := 16) C dX1_meanCost_9 (by decide) (fun c_9 => ?_) (fun c_9 => ?_)
  · refine g_aload_n C dX1_meanCost_16 rfl rfl ?_
    refine g_getM C 6 dX1_meanCost_17 mwX1_meanCost_inM (by decide) mwX1_meanCost_f130 rfl rfl ?_
    refine g_i2d C dX1_meanCost_20 ?_
    refine g_aload_n C dX1_meanCost_21 rfl rfl ?_
    refine g_getM C 5 dX1_meanCost_22 mwX1_meanCost_inM (by decide) mwX1_meanCost_f127 rfl rfl ?_
    refine g_i2d C dX1_meanCost_25 ?_
    refine g_ddiv C dX1_meanCost_26 hn ?_
    exact g_dret C F dX1_meanCost_27 (by decide) (by decide) ⟨rfl, rfl, rfl, rfl⟩
  · exact absurd c_9 h
