/-! the reference's leaves and search -/
def ii (v lo hi : Int32) : Int32 := if v < lo then 0 else if hi < v then 0 else 1
theorem ii_y {a n : Nat} (h : a < n) (hn : n < 2 ^ 30) : ii (nI a) 0 (nI n - 1) = 1 := by
  unfold ii
  rw [if_neg (nI_pos (by omega)), nI_m1 (show n ≠ 0 by omega), if_neg (fun z => by
    have := (nI_ltI (by omega) (by omega)).mp z
    omega)]
theorem ii_n {w : Int32} {n : Nat} (hn : n < 2 ^ 30) (h : w < 0 ∨ ¬ w < nI n) : ii w 0 (nI n - 1) = 0 := by
  unfold ii
  by_cases q : w < 0
  · rw [if_pos q]
  · rw [if_neg q]
    have h2 := h.resolve_left q
    have e : (nI n - 1).toInt = (n : Int) - 1 := by
      have := pk_sub_toInt (a := n) (b := 1) (by omega) (by omega)
      exact this
    rw [if_pos]
    rw [Int32.lt_iff_toInt_lt] at h2 ⊢
    rw [nI_toInt (by omega)] at h2
    rw [e]
    omega
theorem ii_01 (v lo hi : Int32) : ii v lo hi = 0 ∨ ii v lo hi = 1 := by
  unfold ii
  split
  · exact Or.inl rfl
  · split
    · exact Or.inl rfl
    · exact Or.inr rfl
theorem max_c (x y : Int32) : (if x < y then y else x) = (if y < x then x else y) := by
  by_cases h : x < y
  · rw [if_pos h, if_neg (i_ng (i_le h))]
  · rw [if_neg h]
    by_cases h2 : y < x
    · rw [if_pos h2]
    · rw [if_neg h2]
      exact i_anti (i_nlt h2) (i_nlt h)
set_option maxHeartbeats 4000000 in
set_option maxRecDepth 100000 in
theorem m_isIn {l : Launch} (hl : l.stackTraces = false) (Γ : gG) (σ : gS) (τ : gT) (o : gO) (v lo hi : Int32) : Ct l yX1_isIn wsX1_isIn 1 32 0 0 [.int v, .int lo, .int hi] Γ σ τ o (pE (some (.int (ii v lo hi))) σ τ o) (noX) := by
  refine ct_of hl (by decide +kernel) rfl (Nat.le_of_ble_eq_true rfl) ?_
  intro E C F T hΓ hL R
  subst hΓ
  subst hL
  show G E 0 0 0 [(0, .int v), (1, .int lo), (2, .int hi)] [] σ τ o
  refine g_iload_n C dX1_isIn_0 rfl rfl ?_
  refine g_iload_n C dX1_isIn_1 rfl rfl ?_
  refine g_icmp_lt (tgt := 14) C dX1_isIn_2 (by decide) (fun c_2 => ?_) (fun c_2 => ?_)
  · have e : ii v lo hi = 0 := by unfold ii; rw [if_pos c_2]
    refine g_iconst (v := 0) C dX1_isIn_14 (by decide) ?_
    exact g_zret C F dX1_isIn_15 (by first | exact Or.inl rfl | exact Or.inr rfl) (by decide) (by decide) ⟨by rw [e], rfl, rfl, rfl⟩
  · refine g_iload_n C dX1_isIn_5 rfl rfl ?_
    refine g_iload_n C dX1_isIn_6 rfl rfl ?_
    refine g_icmp_gt (tgt := 14) C dX1_isIn_7 (by decide) (fun c_7 => ?_) (fun c_7 => ?_)
    · have e : ii v lo hi = 0 := by unfold ii; rw [if_neg c_2, if_pos c_7]
      refine g_iconst (v := 0) C dX1_isIn_14 (by decide) ?_
      exact g_zret C F dX1_isIn_15 (by first | exact Or.inl rfl | exact Or.inr rfl) (by decide) (by decide) ⟨by rw [e], rfl, rfl, rfl⟩
    · have e : ii v lo hi = 1 := by unfold ii; rw [if_neg c_2, if_neg c_7]
      refine g_iconst (v := 1) C dX1_isIn_10 (by decide) ?_
      refine g_goto (tgt := 15) C dX1_isIn_11 (by decide) ?_
      exact g_zret C F dX1_isIn_15 (by first | exact Or.inl rfl | exact Or.inr rfl) (by decide) (by decide) ⟨by rw [e], rfl, rfl, rfl⟩
set_option maxHeartbeats 4000000 in
set_option maxRecDepth 100000 in
theorem m_has {l : Launch} (hl : l.stackTraces = false) (Γ : gG) (σ : gS) (τ : gT) (o : gO) (x y : Int32) : Ct l yX1_has wsX1_has 1 32 0 0 [.int x, .int y] Γ σ τ o (pE (some (.int (hb x y))) σ τ o) (noX) := by
  refine ct_of hl (by decide +kernel) rfl (Nat.le_of_ble_eq_true rfl) ?_
  intro E C F T hΓ hL R
  subst hΓ
  subst hL
  show G E 0 0 0 [(0, .int x), (1, .int y)] [] σ τ o
  refine g_iload_n C dX1_has_0 rfl rfl ?_
  refine g_iload_n C dX1_has_1 rfl rfl ?_
  refine g_ishr C dX1_has_2 ?_
  refine g_iconst (v := 1) C dX1_has_3 (by decide) ?_
  refine g_iand C dX1_has_4 ?_
  refine g_iconst (v := 1) C dX1_has_5 (by decide) ?_
  refine g_icmp_ne (tgt := 13) C dX1_has_6 (by decide) (fun c_6 => ?_) (fun c_6 => ?_)
  · have e : hb x y = 0 := by simp [hb, c_6]
    refine g_iconst (v := 0) C dX1_has_13 (by decide) ?_
    exact g_zret C F dX1_has_14 (by first | exact Or.inl rfl | exact Or.inr rfl) (by decide) (by decide) ⟨by rw [e], rfl, rfl, rfl⟩
  · have e : hb x y = 1 := by simp [hb, c_6]
    refine g_iconst (v := 1) C dX1_has_9 (by decide) ?_
    refine g_goto (tgt := 14) C dX1_has_10 (by decide) ?_
    exact g_zret C F dX1_has_14 (by first | exact Or.inl rfl | exact Or.inr rfl) (by decide) (by decide) ⟨by rw [e], rfl, rfl, rfl⟩
set_option maxRecDepth 100000 in
theorem mwX1_isWord_inM : ∀ w ∈ wsX10, w ∈ wsX1_isWord := by decide +kernel
set_option maxRecDepth 100000 in
theorem mwX1_isWord_f48 : Cond.fieldLink RX1 48 "TelegraphPricesModel" "words" "I" ∈ wsX1_isWord := by decide +kernel
set_option maxHeartbeats 4000000 in
set_option maxRecDepth 100000 in
theorem m_isWord {l : Launch} (hl : l.stackTraces = false) (Γ : gG) (σ : gS) (τ : gT) (o : gO) (w : Int32) : Ct l yX1_isWord wsX1_isWord 2 64 0 0 [.ref (Γ.2.1 101), .int w] Γ σ τ o (pE (some (.int (ii w 0 (σ 21 - 1)))) σ τ o) (noX) := by
  refine ct_of hl (by decide +kernel) rfl (Nat.le_of_ble_eq_true rfl) ?_
  intro E C F T hΓ hL R
  subst hΓ
  subst hL
  show G E 0 0 0 [(0, .ref ((eG E).2.1 101)), (1, .int w)] [] σ τ o
  refine g_iload_n C dX1_isWord_0 rfl rfl ?_
  refine g_iconst (v := 0) C dX1_isWord_1 (by decide) ?_
  refine g_aload_n C dX1_isWord_2 rfl rfl ?_
  refine g_getM C 1 dX1_isWord_3 mwX1_isWord_inM (by decide) mwX1_isWord_f48 rfl rfl ?_
  refine g_iconst (v := 1) C dX1_isWord_6 (by decide) ?_
  refine g_isub C dX1_isWord_7 ?_
  refine g_callSEi (na := 3) C dX1_isWord_8 (m_isIn hl (eG E) σ τ o _ _ _) gX1_isWord_X1_isIn rfl rfl (by decide +kernel) rfl (Nat.le_of_ble_eq_true rfl) (by rw [R]; exact ⟨by decide, by decide⟩) (by rw [R]; exact ⟨by decide, by decide⟩) ?_
  exact g_zret C F dX1_isWord_11 (ii_01 _ _ _) (by decide) (by decide) ⟨rfl, rfl, rfl, rfl⟩
set_option maxRecDepth 100000 in
theorem mwX1_isPlace_inM : ∀ w ∈ wsX10, w ∈ wsX1_isPlace := by decide +kernel
set_option maxRecDepth 100000 in
theorem mwX1_isPlace_f55 : Cond.fieldLink RX1 55 "TelegraphPricesModel" "length" "I" ∈ wsX1_isPlace := by decide +kernel
set_option maxHeartbeats 4000000 in
set_option maxRecDepth 100000 in
theorem m_isPlace {l : Launch} (hl : l.stackTraces = false) (Γ : gG) (σ : gS) (τ : gT) (o : gO) (w : Int32) : Ct l yX1_isPlace wsX1_isPlace 2 64 0 0 [.ref (Γ.2.1 101), .int w] Γ σ τ o (pE (some (.int (ii w 0 (σ 30 - 1)))) σ τ o) (noX) := by
  refine ct_of hl (by decide +kernel) rfl (Nat.le_of_ble_eq_true rfl) ?_
  intro E C F T hΓ hL R
  subst hΓ
  subst hL
  show G E 0 0 0 [(0, .ref ((eG E).2.1 101)), (1, .int w)] [] σ τ o
  refine g_iload_n C dX1_isPlace_0 rfl rfl ?_
  refine g_iconst (v := 0) C dX1_isPlace_1 (by decide) ?_
  refine g_aload_n C dX1_isPlace_2 rfl rfl ?_
  refine g_getM C 10 dX1_isPlace_3 mwX1_isPlace_inM (by decide) mwX1_isPlace_f55 rfl rfl ?_
  refine g_iconst (v := 1) C dX1_isPlace_6 (by decide) ?_
  refine g_isub C dX1_isPlace_7 ?_
  refine g_callSEi (na := 3) C dX1_isPlace_8 (m_isIn hl (eG E) σ τ o _ _ _) gX1_isPlace_X1_isIn rfl rfl (by decide +kernel) rfl (Nat.le_of_ble_eq_true rfl) (by rw [R]; exact ⟨by decide, by decide⟩) (by rw [R]; exact ⟨by decide, by decide⟩) ?_
  exact g_zret C F dX1_isPlace_11 (ii_01 _ _ _) (by decide) (by decide) ⟨rfl, rfl, rfl, rfl⟩
set_option maxRecDepth 100000 in
theorem mwX1_thrown_inM : ∀ w ∈ wsX10, w ∈ wsX1_thrown := by decide +kernel
set_option maxRecDepth 100000 in
theorem mwX1_thrown_f45 : Cond.fieldLink RX1 45 "TelegraphPricesModel" "thrown" "I" ∈ wsX1_thrown := by decide +kernel
set_option maxHeartbeats 4000000 in
set_option maxRecDepth 100000 in
theorem m_thrown {l : Launch} (hl : l.stackTraces = false) (Γ : gG) (σ : gS) (τ : gT) (o : gO)  : Ct l yX1_thrown wsX1_thrown 1 32 0 0 [.ref (Γ.2.1 101)] Γ σ τ o (pE (some (.int (σ 20))) σ τ o) (noX) := by
  refine ct_of hl (by decide +kernel) rfl (Nat.le_of_ble_eq_true rfl) ?_
  intro E C F T hΓ hL R
  subst hΓ
  subst hL
  show G E 0 0 0 [(0, .ref ((eG E).2.1 101))] [] σ τ o
  refine g_aload_n C dX1_thrown_0 rfl rfl ?_
  refine g_getM C 0 dX1_thrown_1 mwX1_thrown_inM (by decide) mwX1_thrown_f45 rfl rfl ?_
  exact g_iret C F dX1_thrown_4 (by decide) (by decide) ⟨rfl, rfl, rfl, rfl⟩
set_option maxRecDepth 100000 in
theorem mwX1_fail_inM : ∀ w ∈ wsX10, w ∈ wsX1_fail := by decide +kernel
set_option maxRecDepth 100000 in
theorem mwX1_fail_f45 : Cond.fieldLink RX1 45 "TelegraphPricesModel" "thrown" "I" ∈ wsX1_fail := by decide +kernel
set_option maxHeartbeats 4000000 in
set_option maxRecDepth 100000 in
theorem m_fail {l : Launch} (hl : l.stackTraces = false) (Γ : gG) (σ : gS) (τ : gT) (o : gO) (x : Int32) : Ct l yX1_fail wsX1_fail 1 32 0 0 [.ref (Γ.2.1 101), .int x] Γ σ τ o (pE (some (.int 0)) (uS σ 20 x) τ o) (noX) := by
  refine ct_of hl (by decide +kernel) rfl (Nat.le_of_ble_eq_true rfl) ?_
  intro E C F T hΓ hL R
  subst hΓ
  subst hL
  show G E 0 0 0 [(0, .ref ((eG E).2.1 101)), (1, .int x)] [] σ τ o
  refine g_aload_n C dX1_fail_0 rfl rfl ?_
  refine g_iload_n C dX1_fail_1 rfl rfl ?_
  refine g_putM C 0 dX1_fail_2 mwX1_fail_inM (by decide) mwX1_fail_f45 rfl rfl (by decide +kernel) rfl ?_
  refine g_iconst (v := 0) C dX1_fail_5 (by decide) ?_
  exact g_iret C F dX1_fail_6 (by decide) (by decide) ⟨rfl, rfl, rfl, rfl⟩
set_option maxRecDepth 100000 in
theorem mwX1_failed_inM : ∀ w ∈ wsX10, w ∈ wsX1_failed := by decide +kernel
set_option maxRecDepth 100000 in
theorem mwX1_failed_f45 : Cond.fieldLink RX1 45 "TelegraphPricesModel" "thrown" "I" ∈ wsX1_failed := by decide +kernel
set_option maxHeartbeats 4000000 in
set_option maxRecDepth 100000 in
theorem m_failed {l : Launch} (hl : l.stackTraces = false) (Γ : gG) (σ : gS) (τ : gT) (o : gO) (x : Int32) : Ct l yX1_failed wsX1_failed 1 32 0 0 [.ref (Γ.2.1 101), .int x] Γ σ τ o (pE (some (.int 0)) (uS σ 20 x) τ o) (noX) := by
  refine ct_of hl (by decide +kernel) rfl (Nat.le_of_ble_eq_true rfl) ?_
  intro E C F T hΓ hL R
  subst hΓ
  subst hL
  show G E 0 0 0 [(0, .ref ((eG E).2.1 101)), (1, .int x)] [] σ τ o
  refine g_aload_n C dX1_failed_0 rfl rfl ?_
  refine g_iload_n C dX1_failed_1 rfl rfl ?_
  refine g_putM C 0 dX1_failed_2 mwX1_failed_inM (by decide) mwX1_failed_f45 rfl rfl (by decide +kernel) rfl ?_
  refine g_iconst (v := 0) C dX1_failed_5 (by decide) ?_
  exact g_zret C F dX1_failed_6 (Or.inl rfl) (by decide) (by decide) ⟨rfl, rfl, rfl, rfl⟩
set_option maxRecDepth 100000 in
theorem mwX1_told_inM : ∀ w ∈ wsX10, w ∈ wsX1_told := by decide +kernel
set_option maxRecDepth 100000 in
theorem mwX1_told_f45 : Cond.fieldLink RX1 45 "TelegraphPricesModel" "thrown" "I" ∈ wsX1_told := by decide +kernel
set_option maxHeartbeats 4000000 in
set_option maxRecDepth 100000 in
theorem m_told {l : Launch} (hl : l.stackTraces = false) (Γ : gG) (σ : gS) (τ : gT) (o : gO) (x : Int32) : Ct l yX1_told wsX1_told 1 32 0 0 [.ref (Γ.2.1 101), .int x] Γ σ τ o (pE (some (.int x)) (uS σ 20 0) τ o) (noX) := by
  refine ct_of hl (by decide +kernel) rfl (Nat.le_of_ble_eq_true rfl) ?_
  intro E C F T hΓ hL R
  subst hΓ
  subst hL
  show G E 0 0 0 [(0, .ref ((eG E).2.1 101)), (1, .int x)] [] σ τ o
  refine g_aload_n C dX1_told_0 rfl rfl ?_
  refine g_iconst (v := 0) C dX1_told_1 (by decide) ?_
  refine g_putM C 0 dX1_told_2 mwX1_told_inM (by decide) mwX1_told_f45 rfl rfl (by decide +kernel) rfl ?_
  refine g_iload_n C dX1_told_5 rfl rfl ?_
  exact g_iret C F dX1_told_6 (by decide) (by decide) ⟨rfl, rfl, rfl, rfl⟩
set_option maxRecDepth 100000 in
theorem mwX1_counts_inM : ∀ w ∈ wsX10, w ∈ wsX1_counts := by decide +kernel
set_option maxRecDepth 100000 in
theorem mwX1_counts_f7 : Cond.fieldLink RX1 7 "TelegraphPricesModel" "limit" "I" ∈ wsX1_counts := by decide +kernel
set_option maxHeartbeats 4000000 in
set_option maxRecDepth 100000 in
theorem m_counts {l : Launch} (hl : l.stackTraces = false) (Γ : gG) (σ : gS) (τ : gT) (o : gO) (x : Int32) (h4 : ¬ σ 22 = 0) : Ct l yX1_counts wsX1_counts 1 32 0 0 [.ref (Γ.2.1 101), .int x] Γ σ τ o (pE (some (.int (cn (σ 22) x))) σ τ o) (noX) := by
  refine ct_of hl (by decide +kernel) rfl (Nat.le_of_ble_eq_true rfl) ?_
  intro E C F T hΓ hL R
  subst hΓ
  subst hL
  show G E 0 0 0 [(0, .ref ((eG E).2.1 101)), (1, .int x)] [] σ τ o
  refine g_iload_n C dX1_counts_0 rfl rfl ?_
  refine g_aload_n C dX1_counts_1 rfl rfl ?_
  refine g_getM C 2 dX1_counts_2 mwX1_counts_inM (by decide) mwX1_counts_f7 rfl rfl ?_
  refine g_iadd C dX1_counts_5 ?_
  refine g_iconst (v := 1) C dX1_counts_6 (by decide) ?_
  refine g_isub C dX1_counts_7 ?_
  refine g_aload_n C dX1_counts_8 rfl rfl ?_
  refine g_getM C 2 dX1_counts_9 mwX1_counts_inM (by decide) mwX1_counts_f7 rfl rfl ?_
  refine g_idiv C dX1_counts_12 h4 ?_
  exact g_iret C F dX1_counts_13 (by decide) (by decide) ⟨rfl, rfl, rfl, rfl⟩
set_option maxRecDepth 100000 in
theorem mwX1_lifted_inM : ∀ w ∈ wsX10, w ∈ wsX1_lifted := by decide +kernel
set_option maxRecDepth 100000 in
theorem mwX1_lifted_f55 : Cond.fieldLink RX1 55 "TelegraphPricesModel" "length" "I" ∈ wsX1_lifted := by decide +kernel
set_option maxRecDepth 100000 in
theorem mwX1_lifted_f13 : Cond.fieldLink RX1 13 "TelegraphPricesModel" "least" "I" ∈ wsX1_lifted := by decide +kernel
set_option maxRecDepth 100000 in
theorem mwX1_lifted_l62 : Cond.methodLink RX1 62 Lib.Math.max.name ∈ wsX1_lifted := by decide +kernel
set_option maxRecDepth 100000 in
theorem mwX1_lifted_smax : Cond.static Lib.Math.max.name ∈ wsX1_lifted := by decide +kernel
set_option maxRecDepth 100000 in
theorem mwX1_lifted_iMath : Cond.initialized "java/lang/Math" ∈ wsX1_lifted := by decide +kernel
set_option maxRecDepth 100000 in
theorem mwX1_lifted_kmax : Cond.code Lib.Math.max.name Lib.Math.max.code 2 (some .int) ∈ wsX1_lifted := by decide +kernel
set_option maxHeartbeats 4000000 in
set_option maxRecDepth 100000 in
theorem m_lifted {l : Launch} (hl : l.stackTraces = false) (Γ : gG) (σ : gS) (τ : gT) (o : gO) (nl : Nat) (x : Int32) (h9 : σ 30 = nI nl) (hn : nl ≤ 16) : Ct l yX1_lifted wsX1_lifted 1 32 0 0 [.ref (Γ.2.1 101), .int x] Γ σ τ o (pE (some (.int (al nl (σ 23) x))) σ τ o) (noX) := by
  refine ct_of hl (by decide +kernel) rfl (Nat.le_of_ble_eq_true rfl) ?_
  intro E C F T hΓ hL R
  subst hΓ
  subst hL
  show G E 0 0 0 [(0, .ref ((eG E).2.1 101)), (1, .int x)] [] σ τ o
  refine g_aload_n C dX1_lifted_0 rfl rfl ?_
  refine g_getM C 10 dX1_lifted_1 mwX1_lifted_inM (by decide) mwX1_lifted_f55 rfl rfl ?_
  refine g_if_ne (tgt := 11) C dX1_lifted_4 (by decide) (fun c_4 => ?_) (fun c_4 => ?_)
  · have e : al nl (σ 23) x = (if σ 23 < x then x else σ 23) := by
      unfold al
      rw [if_neg (fun z => c_4 (by rw [h9, z]; rfl)), max_c]
    refine g_aload_n C dX1_lifted_11 rfl rfl ?_
    refine g_getM C 3 dX1_lifted_12 mwX1_lifted_inM (by decide) mwX1_lifted_f13 rfl rfl ?_
    refine g_iload_n C dX1_lifted_15 rfl rfl ?_
    refine g_mmax C dX1_lifted_16 mwX1_lifted_l62 mwX1_lifted_smax mwX1_lifted_iMath mwX1_lifted_kmax (by rw [R]; exact ⟨by decide, Nat.le_of_ble_eq_true rfl, by decide, by decide⟩) ?_
    exact g_iret C F dX1_lifted_19 (by decide) (by decide) ⟨by rw [e], rfl, rfl, rfl⟩
  · have e : al nl (σ 23) x = 0 := by
      unfold al
      rw [h9] at c_4
      rw [if_pos (by rcases Nat.eq_zero_or_pos nl with z | z
                     · exact z
                     · exact absurd c_4 (nI_ne0 z (by omega)))]
    refine g_iconst (v := 0) C dX1_lifted_7 (by decide) ?_
    refine g_goto (tgt := 19) C dX1_lifted_8 (by decide) ?_
    exact g_iret C F dX1_lifted_19 (by decide) (by decide) ⟨by rw [e], rfl, rfl, rfl⟩
def CTm (σ : gS) (τ : gT) (nl : Nat) : Int32 := al nl (σ 23) (ct (σ 22) nl (τ 27) (τ 31) (τ 32) nl 0 0)
set_option maxRecDepth 100000 in
theorem mwX1_countNow_inM : ∀ w ∈ wsX10, w ∈ wsX1_countNow := by decide +kernel
set_option maxRecDepth 100000 in
theorem mwX1_countNow_f55 : Cond.fieldLink RX1 55 "TelegraphPricesModel" "length" "I" ∈ wsX1_countNow := by decide +kernel
set_option maxRecDepth 100000 in
theorem mwX1_countNow_f19 : Cond.fieldLink RX1 19 "TelegraphPricesModel" "letters" "[I" ∈ wsX1_countNow := by decide +kernel
set_option maxRecDepth 100000 in
theorem mwX1_countNow_f29 : Cond.fieldLink RX1 29 "TelegraphPricesModel" "word" "[I" ∈ wsX1_countNow := by decide +kernel
set_option maxRecDepth 100000 in
theorem mwX1_countNow_f32 : Cond.fieldLink RX1 32 "TelegraphPricesModel" "joined" "[Z" ∈ wsX1_countNow := by decide +kernel
set_option maxHeartbeats 4000000 in
set_option maxRecDepth 100000 in
theorem m_countNow {l : Launch} (hl : l.stackTraces = false) (Γ : gG) (σ : gS) (τ : gT) (o : gO) (nw nl lm : Nat) (I : IM σ τ nw nl lm) : Ct l yX1_countNow wsX1_countNow 2 64 0 0 [.ref (Γ.2.1 101)] Γ σ τ o (pE (some (.int (CTm σ τ nl))) σ τ o) (noX) := by
  refine ct_of hl (by decide +kernel) rfl (Nat.le_of_ble_eq_true rfl) ?_
  intro E C F T hΓ hL R
  subst hΓ
  subst hL
  show G E 0 0 0 [(0, .ref ((eG E).2.1 101))] [] σ τ o
  have hnw := Iv_nw I
  have hnl := Iv_nl I
  have h3 : σ 21 = nI nw := Iv_h3 I
  have h9 : σ 30 = nI nl := Iv_h9 I
  have h4 : ¬ σ 22 = 0 := Iv_ne I
  have fin : ∀ f : Nat, ∀ s : Int32, ct (σ 22) nl (τ 27) (τ 31) (τ 32) nl 0 0 = ct (σ 22) nl (τ 27) (τ 31) (τ 32) f nl s → G E 0 0 4 [(2, .int (nI nl)), (1, .int s), (0, .ref ((eG E).2.1 101))] [] σ τ o := by
    intro f s e
    rw [ct_e] at e
    refine g_iload_n C dX1_countNow_4 rfl rfl ?_
    refine g_aload_n C dX1_countNow_5 rfl rfl ?_
    refine g_getM C 10 dX1_countNow_6 mwX1_countNow_inM (by decide) mwX1_countNow_f55 rfl rfl ?_
    refine g_icmp_ge (tgt := 64) C dX1_countNow_9 (by decide) (fun c_9 => ?_) (fun c_9 => ?_)
    · refine g_aload_n C dX1_countNow_64 rfl rfl ?_
      refine g_iload_n C dX1_countNow_65 rfl rfl ?_
      refine g_callVEi (Cl := RX1) (T := TX1) (N := 16) (ci := 1) (q0 := 12) (na := 1) C dX1_countNow_66 (m_lifted hl (eG E) σ τ o nl _ h9 hnl) gX1_countNow_X1_lifted rfl rfl (by decide +kernel) rfl rfl rfl (Nat.le_of_ble_eq_true rfl) (by rw [R]; exact ⟨by decide, by decide⟩) (by rw [R]; exact ⟨by decide, by decide⟩) ?_
      exact g_iret C F dX1_countNow_69 (by decide) (by decide) ⟨by rw [← e]; rfl, rfl, rfl, rfl⟩
    · exact absurd (by rw [h9]; exact i_rf _) c_9
  have loop : ∀ f p : Nat, ∀ s : Int32, p ≤ nl → nl - p ≤ f → ct (σ 22) nl (τ 27) (τ 31) (τ 32) nl 0 0 = ct (σ 22) nl (τ 27) (τ 31) (τ 32) f p s → G E 0 0 4 [(2, .int (nI p)), (1, .int s), (0, .ref ((eG E).2.1 101))] [] σ τ o := by
    intro f
    induction f with
    | zero =>
      intro p s hp hf e
      have e1 : p = nl := by omega
      subst e1
      exact fin 0 s e
    | succ f ih =>
      intro p s hp hf e
      rcases Nat.lt_or_ge p nl with hpl | hpl
      rotate_left
      · have e1 : p = nl := by omega
        subst e1
        exact fin (f + 1) s e
      refine g_iload_n C dX1_countNow_4 rfl rfl ?_
      refine g_aload_n C dX1_countNow_5 rfl rfl ?_
      refine g_getM C 10 dX1_countNow_6 mwX1_countNow_inM (by decide) mwX1_countNow_f55 rfl rfl ?_
      refine g_icmp_ge (tgt := 64) C dX1_countNow_9 (by decide) (fun c_9 => ?_) (fun c_9 => ?_)
      · exact absurd (by rw [h9] at c_9; exact c_9) (nI_ge (by omega) (by omega))
      · refine g_aload_n C dX1_countNow_12 rfl rfl ?_
        refine g_getM C 7 dX1_countNow_13 mwX1_countNow_inM (by decide) mwX1_countNow_f19 rfl rfl ?_
        refine g_aload_n C dX1_countNow_16 rfl rfl ?_
        refine g_getM C 11 dX1_countNow_17 mwX1_countNow_inM (by decide) mwX1_countNow_f29 rfl rfl ?_
        refine g_iload_n C dX1_countNow_20 rfl rfl ?_
        refine g_ialdN C (p) dX1_countNow_21 rfl rfl (show p < 16 by omega) (by decide) ?_
        refine g_iald C dX1_countNow_22 rfl (Iv_tin I hpl) ?_
        refine g_istore_n C [(3, _), (2, _), (1, _), (0, _)] dX1_countNow_23 rfl (by decide) rfl ?_
        refine g_aload_n C dX1_countNow_24 rfl rfl ?_
        refine g_getM C 12 dX1_countNow_25 mwX1_countNow_inM (by decide) mwX1_countNow_f32 rfl rfl ?_
        refine g_iload_n C dX1_countNow_28 rfl rfl ?_
        refine g_zaldN C (p) dX1_countNow_29 rfl rfl (show p < 16 by omega) (by decide) ?_
        refine g_if_eq (tgt := 50) C dX1_countNow_30 (by decide) (fun c_30 => ?_) (fun c_30 => ?_)
        · refine g_iload_n C dX1_countNow_50 rfl rfl ?_
          refine g_aload_n C dX1_countNow_51 rfl rfl ?_
          refine g_iload_n C dX1_countNow_52 rfl rfl ?_
          refine g_callVEi (Cl := RX1) (T := TX1) (N := 16) (ci := 1) (q0 := 12) (na := 1) C dX1_countNow_53 (m_counts hl (eG E) σ τ o _ h4) gX1_countNow_X1_counts rfl rfl (by decide +kernel) rfl rfl rfl (Nat.le_of_ble_eq_true rfl) (by rw [R]; exact ⟨by decide, by decide⟩) (by rw [R]; exact ⟨by decide, by decide⟩) ?_
          refine g_iadd C dX1_countNow_56 ?_
          refine g_istore_n C [(1, _), (3, _), (2, _), (0, _)] dX1_countNow_57 rfl (by decide) rfl ?_
          refine g_iinc C 2 [(2, _), (1, _), (3, _), (0, _)] dX1_countNow_58 rfl (nI_i1 p) (by decide) rfl ?_
          refine g_goto (tgt := 4) C dX1_countNow_61 (by decide) ?_
          refine g_lv [0, 1, 3] [(2, _), (1, _), (0, _)] rfl ?_
          exact ih (p + 1) _ (by omega) (by omega) (by rw [← ct_1 hpl c_30]; exact e)
        · have hp1 := Iv_jl I hpl c_30
          refine g_iinc C 1 [(2, _), (3, _), (1, _), (0, _)] dX1_countNow_33 rfl (nI_i1 p) (by decide) rfl ?_
          refine g_iload_n C dX1_countNow_36 rfl rfl ?_
          refine g_aload_n C dX1_countNow_37 rfl rfl ?_
          refine g_getM C 7 dX1_countNow_38 mwX1_countNow_inM (by decide) mwX1_countNow_f19 rfl rfl ?_
          refine g_aload_n C dX1_countNow_41 rfl rfl ?_
          refine g_getM C 11 dX1_countNow_42 mwX1_countNow_inM (by decide) mwX1_countNow_f29 rfl rfl ?_
          refine g_iload_n C dX1_countNow_45 rfl rfl ?_
          refine g_ialdN C (p + 1) dX1_countNow_46 rfl rfl (show p + 1 < 16 by omega) (by decide) ?_
          refine g_iald C dX1_countNow_47 rfl (Iv_tin I hp1) ?_
          refine g_iadd C dX1_countNow_48 ?_
          refine g_istore_n C [(3, _), (2, _), (1, _), (0, _)] dX1_countNow_49 rfl (by decide) rfl ?_
          refine g_iload_n C dX1_countNow_50 rfl rfl ?_
          refine g_aload_n C dX1_countNow_51 rfl rfl ?_
          refine g_iload_n C dX1_countNow_52 rfl rfl ?_
          refine g_callVEi (Cl := RX1) (T := TX1) (N := 16) (ci := 1) (q0 := 12) (na := 1) C dX1_countNow_53 (m_counts hl (eG E) σ τ o _ h4) gX1_countNow_X1_counts rfl rfl (by decide +kernel) rfl rfl rfl (Nat.le_of_ble_eq_true rfl) (by rw [R]; exact ⟨by decide, by decide⟩) (by rw [R]; exact ⟨by decide, by decide⟩) ?_
          refine g_iadd C dX1_countNow_56 ?_
          refine g_istore_n C [(1, _), (3, _), (2, _), (0, _)] dX1_countNow_57 rfl (by decide) rfl ?_
          refine g_iinc C 2 [(2, _), (1, _), (3, _), (0, _)] dX1_countNow_58 rfl (nI_i1 (p + 1)) (by decide) rfl ?_
          refine g_goto (tgt := 4) C dX1_countNow_61 (by decide) ?_
          refine g_lv [0, 1, 3] [(2, _), (1, _), (0, _)] rfl ?_
          exact ih (p + 2) _ (by omega) (by omega) (by rw [← ct_2 hpl c_30]; exact e)
  refine g_iconst (v := 0) C dX1_countNow_0 (by decide) ?_
  refine g_istore_n C [(1, _), (0, _)] dX1_countNow_1 rfl (by decide) rfl ?_
  refine g_iconst (v := 0) C dX1_countNow_2 (by decide) ?_
  refine g_istore_n C [(2, _), (1, _), (0, _)] dX1_countNow_3 rfl (by decide) rfl ?_
  exact loop nl 0 0 (Nat.zero_le _) (Nat.sub_le _ _) rfl
theorem mh_in {nl : Nat} {S Tg : Nat → Int32} {p : Nat} {w : Int32} (h : p < nl) : hb (S (Tg p).toNatClampNeg) w = mh nl S Tg p w := by
  unfold mh
  rw [if_pos h]
set_option maxRecDepth 100000 in
theorem mwX1_leastSingle_inM : ∀ w ∈ wsX10, w ∈ wsX1_leastSingle := by decide +kernel
set_option maxRecDepth 100000 in
theorem mwX1_leastSingle_f48 : Cond.fieldLink RX1 48 "TelegraphPricesModel" "words" "I" ∈ wsX1_leastSingle := by decide +kernel
set_option maxRecDepth 100000 in
theorem mwX1_leastSingle_f23 : Cond.fieldLink RX1 23 "TelegraphPricesModel" "stand" "[I" ∈ wsX1_leastSingle := by decide +kernel
set_option maxRecDepth 100000 in
theorem mwX1_leastSingle_f29 : Cond.fieldLink RX1 29 "TelegraphPricesModel" "word" "[I" ∈ wsX1_leastSingle := by decide +kernel
set_option maxRecDepth 100000 in
theorem mwX1_leastSingle_f19 : Cond.fieldLink RX1 19 "TelegraphPricesModel" "letters" "[I" ∈ wsX1_leastSingle := by decide +kernel
set_option maxRecDepth 100000 in
theorem mwX1_leastSingle_l80 : Cond.methodLink RX1 80 Lib.Math.min.name ∈ wsX1_leastSingle := by decide +kernel
set_option maxRecDepth 100000 in
theorem mwX1_leastSingle_smin : Cond.static Lib.Math.min.name ∈ wsX1_leastSingle := by decide +kernel
set_option maxRecDepth 100000 in
theorem mwX1_leastSingle_iMath : Cond.initialized "java/lang/Math" ∈ wsX1_leastSingle := by decide +kernel
set_option maxRecDepth 100000 in
theorem mwX1_leastSingle_kmin : Cond.code Lib.Math.min.name Lib.Math.min.code 2 (some .int) ∈ wsX1_leastSingle := by decide +kernel
set_option maxRecDepth 100000 in
theorem mwX1_leastSingle_c75 : Cond.constant RX1 75 (1000000) ∈ wsX1_leastSingle := by decide +kernel
set_option maxHeartbeats 4000000 in
set_option maxRecDepth 100000 in
theorem m_leastSingle {l : Launch} (hl : l.stackTraces = false) (Γ : gG) (σ : gS) (τ : gT) (o : gO) (nw nl lm : Nat) (p : Nat) (I : IM σ τ nw nl lm) (hp : p < nl) : Ct l yX1_leastSingle wsX1_leastSingle 2 64 0 0 [.ref (Γ.2.1 101), .int (nI p)] Γ σ τ o (pE (some (.int (gA (σ 22) nl (τ 27) (τ 28) (τ 31) nw p))) σ τ o) (noX) := by
  refine ct_of hl (by decide +kernel) rfl (Nat.le_of_ble_eq_true rfl) ?_
  intro E C F T hΓ hL R
  subst hΓ
  subst hL
  show G E 0 0 0 [(0, .ref ((eG E).2.1 101)), (1, .int (nI p))] [] σ τ o
  have hnw := Iv_nw I
  have hnl := Iv_nl I
  have h3 : σ 21 = nI nw := Iv_h3 I
  have h9 : σ 30 = nI nl := Iv_h9 I
  have h4 : ¬ σ 22 = 0 := Iv_ne I
  have loop : ∀ m j : Nat, j + m = nw → G E 0 0 5 [(3, .int (nI j)), (2, .int (bw (σ 22) nl (τ 27) (τ 28) (τ 31) p j).2), (0, .ref ((eG E).2.1 101)), (1, .int (nI p))] [] σ τ o := by
    intro m
    induction m with
    | zero =>
      intro j hj
      refine g_iload_n C dX1_leastSingle_5 rfl rfl ?_
      refine g_aload_n C dX1_leastSingle_6 rfl rfl ?_
      refine g_getM C 1 dX1_leastSingle_7 mwX1_leastSingle_inM (by decide) mwX1_leastSingle_f48 rfl rfl ?_
      refine g_icmp_ge (tgt := 52) C dX1_leastSingle_10 (by decide) (fun c_10 => ?_) (fun c_10 => ?_)
      · refine g_iload_n C dX1_leastSingle_52 rfl rfl ?_
        exact g_iret C F dX1_leastSingle_53 (by decide) (by decide) ⟨by rw [show j = nw by omega]; rfl, rfl, rfl, rfl⟩
      · exact absurd (by rw [h3]; exact nI_le (by omega) (by omega)) c_10
    | succ m ih =>
      intro j hj
      refine g_iload_n C dX1_leastSingle_5 rfl rfl ?_
      refine g_aload_n C dX1_leastSingle_6 rfl rfl ?_
      refine g_getM C 1 dX1_leastSingle_7 mwX1_leastSingle_inM (by decide) mwX1_leastSingle_f48 rfl rfl ?_
      refine g_icmp_ge (tgt := 52) C dX1_leastSingle_10 (by decide) (fun c_10 => ?_) (fun c_10 => ?_)
      · exact absurd (by rw [h3] at c_10; exact c_10) (nI_ge (by omega) (by omega))
      · refine g_aload_n C dX1_leastSingle_13 rfl rfl ?_
        refine g_getM C 8 dX1_leastSingle_14 mwX1_leastSingle_inM (by decide) mwX1_leastSingle_f23 rfl rfl ?_
        refine g_aload_n C dX1_leastSingle_17 rfl rfl ?_
        refine g_getM C 11 dX1_leastSingle_18 mwX1_leastSingle_inM (by decide) mwX1_leastSingle_f29 rfl rfl ?_
        refine g_iload_n C dX1_leastSingle_21 rfl rfl ?_
        refine g_ialdN C (p) dX1_leastSingle_22 rfl rfl (show p < 16 by omega) (by decide) ?_
        refine g_iald C dX1_leastSingle_23 rfl (Iv_tin I hp) ?_
        refine g_iload_n C dX1_leastSingle_24 rfl rfl ?_
        refine g_callSEi (na := 2) C dX1_leastSingle_25 (m_has hl (eG E) σ τ o _ _) gX1_leastSingle_X1_has rfl rfl (by decide +kernel) rfl (Nat.le_of_ble_eq_true rfl) (by rw [R]; exact ⟨by decide, by decide⟩) (by rw [R]; exact ⟨by decide, by decide⟩) ?_
        rw [mh_in hp]
        refine g_if_eq (tgt := 46) C dX1_leastSingle_28 (by decide) (fun c_28 => ?_) (fun c_28 => ?_)
        · have e : (bw (σ 22) nl (τ 27) (τ 28) (τ 31) p (j + 1)).2 = (bw (σ 22) nl (τ 27) (τ 28) (τ 31) p j).2 := by rw [bw_no (fun q => q.1 c_28)]
          refine g_iinc C 0 [(3, _), (2, _), (0, _), (1, _)] dX1_leastSingle_46 rfl (nI_i1 j) (by decide) rfl ?_
          refine g_goto (tgt := 5) C dX1_leastSingle_49 (by decide) ?_
          have g := ih (j + 1) (by omega)
          rw [e] at g
          exact g
        · have e : (bw (σ 22) nl (τ 27) (τ 28) (τ 31) p (j + 1)).2 = (if cn (σ 22) (τ 27 j) < (bw (σ 22) nl (τ 27) (τ 28) (τ 31) p j).2 then cn (σ 22) (τ 27 j) else (bw (σ 22) nl (τ 27) (τ 28) (τ 31) p j).2) := by
            by_cases q : cn (σ 22) (τ 27 j) < (bw (σ 22) nl (τ 27) (τ 28) (τ 31) p j).2
            · rw [bw_yes ⟨c_28, q⟩, if_pos q]
            · rw [bw_no (fun z => q z.2), if_neg q]
          refine g_iload_n C dX1_leastSingle_31 rfl rfl ?_
          refine g_aload_n C dX1_leastSingle_32 rfl rfl ?_
          refine g_aload_n C dX1_leastSingle_33 rfl rfl ?_
          refine g_getM C 7 dX1_leastSingle_34 mwX1_leastSingle_inM (by decide) mwX1_leastSingle_f19 rfl rfl ?_
          refine g_iload_n C dX1_leastSingle_37 rfl rfl ?_
          refine g_ialdN C (j) dX1_leastSingle_38 rfl rfl (show j < 12 by omega) (by decide) ?_
          refine g_callVEi (Cl := RX1) (T := TX1) (N := 16) (ci := 1) (q0 := 12) (na := 1) C dX1_leastSingle_39 (m_counts hl (eG E) σ τ o _ h4) gX1_leastSingle_X1_counts rfl rfl (by decide +kernel) rfl rfl rfl (Nat.le_of_ble_eq_true rfl) (by rw [R]; exact ⟨by decide, by decide⟩) (by rw [R]; exact ⟨by decide, by decide⟩) ?_
          refine g_mmin C dX1_leastSingle_42 mwX1_leastSingle_l80 mwX1_leastSingle_smin mwX1_leastSingle_iMath mwX1_leastSingle_kmin (by rw [R]; exact ⟨by decide, Nat.le_of_ble_eq_true rfl, by decide, by decide⟩) ?_
          refine g_istore_n C [(2, _), (3, _), (0, _), (1, _)] dX1_leastSingle_45 rfl (by decide) rfl ?_
          refine g_iinc C 1 [(3, _), (2, _), (0, _), (1, _)] dX1_leastSingle_46 rfl (nI_i1 j) (by decide) rfl ?_
          refine g_goto (tgt := 5) C dX1_leastSingle_49 (by decide) ?_
          have g := ih (j + 1) (by omega)
          rw [e] at g
          exact g
  refine g_ldc C dX1_leastSingle_0 mwX1_leastSingle_c75 ?_
  refine g_istore_n C [(2, _), (0, _), (1, _)] dX1_leastSingle_2 rfl (by decide) rfl ?_
  refine g_iconst (v := 0) C dX1_leastSingle_3 (by decide) ?_
  refine g_istore_n C [(3, _), (2, _), (0, _), (1, _)] dX1_leastSingle_4 rfl (by decide) rfl ?_
  exact loop nw 0 (Nat.zero_add _)
set_option maxRecDepth 100000 in
theorem mwX1_leastPair_inM : ∀ w ∈ wsX10, w ∈ wsX1_leastPair := by decide +kernel
set_option maxRecDepth 100000 in
theorem mwX1_leastPair_f48 : Cond.fieldLink RX1 48 "TelegraphPricesModel" "words" "I" ∈ wsX1_leastPair := by decide +kernel
set_option maxRecDepth 100000 in
theorem mwX1_leastPair_f23 : Cond.fieldLink RX1 23 "TelegraphPricesModel" "stand" "[I" ∈ wsX1_leastPair := by decide +kernel
set_option maxRecDepth 100000 in
theorem mwX1_leastPair_f29 : Cond.fieldLink RX1 29 "TelegraphPricesModel" "word" "[I" ∈ wsX1_leastPair := by decide +kernel
set_option maxRecDepth 100000 in
theorem mwX1_leastPair_f26 : Cond.fieldLink RX1 26 "TelegraphPricesModel" "join" "[I" ∈ wsX1_leastPair := by decide +kernel
set_option maxRecDepth 100000 in
theorem mwX1_leastPair_f19 : Cond.fieldLink RX1 19 "TelegraphPricesModel" "letters" "[I" ∈ wsX1_leastPair := by decide +kernel
set_option maxRecDepth 100000 in
theorem mwX1_leastPair_l80 : Cond.methodLink RX1 80 Lib.Math.min.name ∈ wsX1_leastPair := by decide +kernel
set_option maxRecDepth 100000 in
theorem mwX1_leastPair_smin : Cond.static Lib.Math.min.name ∈ wsX1_leastPair := by decide +kernel
set_option maxRecDepth 100000 in
theorem mwX1_leastPair_iMath : Cond.initialized "java/lang/Math" ∈ wsX1_leastPair := by decide +kernel
set_option maxRecDepth 100000 in
theorem mwX1_leastPair_kmin : Cond.code Lib.Math.min.name Lib.Math.min.code 2 (some .int) ∈ wsX1_leastPair := by decide +kernel
set_option maxRecDepth 100000 in
theorem mwX1_leastPair_c75 : Cond.constant RX1 75 (1000000) ∈ wsX1_leastPair := by decide +kernel
set_option maxHeartbeats 4000000 in
set_option maxRecDepth 100000 in
theorem m_leastPair {l : Launch} (hl : l.stackTraces = false) (Γ : gG) (σ : gS) (τ : gT) (o : gO) (nw nl lm : Nat) (p : Nat) (I : IM σ τ nw nl lm) (hp : p + 1 < nl) : Ct l yX1_leastPair wsX1_leastPair 2 64 0 0 [.ref (Γ.2.1 101), .int (nI p)] Γ σ τ o (pE (some (.int (gJ (σ 22) nw nl (τ 27) (τ 28) (τ 29) (τ 31) p))) σ τ o) (noX) := by
  refine ct_of hl (by decide +kernel) rfl (Nat.le_of_ble_eq_true rfl) ?_
  intro E C F T hΓ hL R
  subst hΓ
  subst hL
  show G E 0 0 0 [(0, .ref ((eG E).2.1 101)), (1, .int (nI p))] [] σ τ o
  have hnw := Iv_nw I
  have hnl := Iv_nl I
  have h3 : σ 21 = nI nw := Iv_h3 I
  have h9 : σ 30 = nI nl := Iv_h9 I
  have h4 : ¬ σ 22 = 0 := Iv_ne I
  have loop : ∀ m a : Nat, a + m = nw → G E 0 0 5 [(3, .int (nI a)), (2, .int (bp (σ 22) nw nl (τ 27) (τ 28) (τ 29) (τ 31) p a).2), (0, .ref ((eG E).2.1 101)), (1, .int (nI p))] [] σ τ o := by
    intro m
    induction m with
    | zero =>
      intro a ha
      refine g_iload_n C dX1_leastPair_5 rfl rfl ?_
      refine g_aload_n C dX1_leastPair_6 rfl rfl ?_
      refine g_getM C 1 dX1_leastPair_7 mwX1_leastPair_inM (by decide) mwX1_leastPair_f48 rfl rfl ?_
      refine g_icmp_ge (tgt := 116) C dX1_leastPair_10 (by decide) (fun c_10 => ?_) (fun c_10 => ?_)
      · refine g_iload_n C dX1_leastPair_116 rfl rfl ?_
        exact g_iret C F dX1_leastPair_117 (by decide) (by decide) ⟨by rw [show a = nw by omega]; rfl, rfl, rfl, rfl⟩
      · exact absurd (by rw [h3]; exact nI_le (by omega) (by omega)) c_10
    | succ m ih =>
      intro a ha
      have inner : mh nl (τ 28) (τ 31) p (nI a) ≠ 0 → ∀ k b : Nat, b + k = nw → G E 0 0 37 [(4, .int (nI b)), (3, .int (nI a)), (2, .int (bq (σ 22) nl (τ 27) (τ 28) (τ 29) (τ 31) p a (bp (σ 22) nw nl (τ 27) (τ 28) (τ 29) (τ 31) p a) b).2), (0, .ref ((eG E).2.1 101)), (1, .int (nI p))] [] σ τ o := by
        intro hm k
        induction k with
        | zero =>
          intro b hb9
          refine g_iload C dX1_leastPair_37 rfl ?_
          refine g_aload_n C dX1_leastPair_39 rfl rfl ?_
          refine g_getM C 1 dX1_leastPair_40 mwX1_leastPair_inM (by decide) mwX1_leastPair_f48 rfl rfl ?_
          refine g_icmp_ge (tgt := 110) C dX1_leastPair_43 (by decide) (fun c_43 => ?_) (fun c_43 => ?_)
          · refine g_iinc C 1 [(3, _), (4, _), (2, _), (0, _), (1, _)] dX1_leastPair_110 rfl (nI_i1 a) (by decide) rfl ?_
            refine g_goto (tgt := 5) C dX1_leastPair_113 (by decide) ?_
            refine g_lv [0, 2, 3, 4] [(3, _), (2, _), (0, _), (1, _)] rfl ?_
            have g := ih (a + 1) (by omega)
            rw [bp_yes hm] at g
            rw [show b = nw by omega]
            exact g
          · exact absurd (by rw [h3]; exact nI_le (by omega) (by omega)) c_43
        | succ k ih2 =>
          intro b hb9
          refine g_iload C dX1_leastPair_37 rfl ?_
          refine g_aload_n C dX1_leastPair_39 rfl rfl ?_
          refine g_getM C 1 dX1_leastPair_40 mwX1_leastPair_inM (by decide) mwX1_leastPair_f48 rfl rfl ?_
          refine g_icmp_ge (tgt := 110) C dX1_leastPair_43 (by decide) (fun c_43 => ?_) (fun c_43 => ?_)
          · exact absurd (by rw [h3] at c_43; exact c_43) (nI_ge (by omega) (by omega))
          · refine g_aload_n C dX1_leastPair_46 rfl rfl ?_
            refine g_getM C 8 dX1_leastPair_47 mwX1_leastPair_inM (by decide) mwX1_leastPair_f23 rfl rfl ?_
            refine g_aload_n C dX1_leastPair_50 rfl rfl ?_
            refine g_getM C 11 dX1_leastPair_51 mwX1_leastPair_inM (by decide) mwX1_leastPair_f29 rfl rfl ?_
            refine g_iload_n C dX1_leastPair_54 rfl rfl ?_
            refine g_iconst (v := 1) C dX1_leastPair_55 (by decide) ?_
            refine g_iadd C dX1_leastPair_56 ?_
            refine g_ialdN C (p + 1) dX1_leastPair_57 rfl (nI_1 p) (show p + 1 < 16 by omega) (by decide) ?_
            refine g_iald C dX1_leastPair_58 rfl (Iv_tin I hp) ?_
            refine g_iload C dX1_leastPair_59 rfl ?_
            refine g_callSEi (na := 2) C dX1_leastPair_61 (m_has hl (eG E) σ τ o _ _) gX1_leastPair_X1_has rfl rfl (by decide +kernel) rfl (Nat.le_of_ble_eq_true rfl) (by rw [R]; exact ⟨by decide, by decide⟩) (by rw [R]; exact ⟨by decide, by decide⟩) ?_
            rw [mh_in hp]
            refine g_if_eq (tgt := 104) C dX1_leastPair_64 (by decide) (fun c_64 => ?_) (fun c_64 => ?_)
            · have e : (bq (σ 22) nl (τ 27) (τ 28) (τ 29) (τ 31) p a (bp (σ 22) nw nl (τ 27) (τ 28) (τ 29) (τ 31) p a) (b + 1)).2 = (bq (σ 22) nl (τ 27) (τ 28) (τ 29) (τ 31) p a (bp (σ 22) nw nl (τ 27) (τ 28) (τ 29) (τ 31) p a) b).2 := by rw [bq_no (fun q => q.1.1 c_64)]
              refine g_iinc C 0 [(4, _), (3, _), (2, _), (0, _), (1, _)] dX1_leastPair_104 rfl (nI_i1 b) (by decide) rfl ?_
              refine g_goto (tgt := 37) C dX1_leastPair_107 (by decide) ?_
              have g := ih2 (b + 1) (by omega)
              rw [e] at g
              exact g
            · refine g_aload_n C dX1_leastPair_67 rfl rfl ?_
              refine g_getM C 9 dX1_leastPair_68 mwX1_leastPair_inM (by decide) mwX1_leastPair_f26 rfl rfl ?_
              refine g_iload_n C dX1_leastPair_71 rfl rfl ?_
              refine g_ialdN C (a) dX1_leastPair_72 rfl rfl (show a < 12 by omega) (by decide) ?_
              refine g_iload C dX1_leastPair_73 rfl ?_
              refine g_callSEi (na := 2) C dX1_leastPair_75 (m_has hl (eG E) σ τ o _ _) gX1_leastPair_X1_has rfl rfl (by decide +kernel) rfl (Nat.le_of_ble_eq_true rfl) (by rw [R]; exact ⟨by decide, by decide⟩) (by rw [R]; exact ⟨by decide, by decide⟩) ?_
              refine g_if_eq (tgt := 104) C dX1_leastPair_78 (by decide) (fun c_78 => ?_) (fun c_78 => ?_)
              · have e : (bq (σ 22) nl (τ 27) (τ 28) (τ 29) (τ 31) p a (bp (σ 22) nw nl (τ 27) (τ 28) (τ 29) (τ 31) p a) (b + 1)).2 = (bq (σ 22) nl (τ 27) (τ 28) (τ 29) (τ 31) p a (bp (σ 22) nw nl (τ 27) (τ 28) (τ 29) (τ 31) p a) b).2 := by rw [bq_no (fun q => q.1.2 c_78)]
                refine g_iinc C 0 [(4, _), (3, _), (2, _), (0, _), (1, _)] dX1_leastPair_104 rfl (nI_i1 b) (by decide) rfl ?_
                refine g_goto (tgt := 37) C dX1_leastPair_107 (by decide) ?_
                have g := ih2 (b + 1) (by omega)
                rw [e] at g
                exact g
              · have e : (bq (σ 22) nl (τ 27) (τ 28) (τ 29) (τ 31) p a (bp (σ 22) nw nl (τ 27) (τ 28) (τ 29) (τ 31) p a) (b + 1)).2 = (if cn (σ 22) (τ 27 a + τ 27 b) < (bq (σ 22) nl (τ 27) (τ 28) (τ 29) (τ 31) p a (bp (σ 22) nw nl (τ 27) (τ 28) (τ 29) (τ 31) p a) b).2 then cn (σ 22) (τ 27 a + τ 27 b) else (bq (σ 22) nl (τ 27) (τ 28) (τ 29) (τ 31) p a (bp (σ 22) nw nl (τ 27) (τ 28) (τ 29) (τ 31) p a) b).2) := by
                  by_cases q : cn (σ 22) (τ 27 a + τ 27 b) < (bq (σ 22) nl (τ 27) (τ 28) (τ 29) (τ 31) p a (bp (σ 22) nw nl (τ 27) (τ 28) (τ 29) (τ 31) p a) b).2
                  · rw [bq_yes ⟨⟨c_64, c_78⟩, q⟩, if_pos q]
                  · rw [bq_no (fun z => q z.2), if_neg q]
                refine g_iload_n C dX1_leastPair_81 rfl rfl ?_
                refine g_aload_n C dX1_leastPair_82 rfl rfl ?_
                refine g_aload_n C dX1_leastPair_83 rfl rfl ?_
                refine g_getM C 7 dX1_leastPair_84 mwX1_leastPair_inM (by decide) mwX1_leastPair_f19 rfl rfl ?_
                refine g_iload_n C dX1_leastPair_87 rfl rfl ?_
                refine g_ialdN C (a) dX1_leastPair_88 rfl rfl (show a < 12 by omega) (by decide) ?_
                refine g_aload_n C dX1_leastPair_89 rfl rfl ?_
                refine g_getM C 7 dX1_leastPair_90 mwX1_leastPair_inM (by decide) mwX1_leastPair_f19 rfl rfl ?_
                refine g_iload C dX1_leastPair_93 rfl ?_
                refine g_ialdN C (b) dX1_leastPair_95 rfl rfl (show b < 12 by omega) (by decide) ?_
                refine g_iadd C dX1_leastPair_96 ?_
                refine g_callVEi (Cl := RX1) (T := TX1) (N := 16) (ci := 1) (q0 := 12) (na := 1) C dX1_leastPair_97 (m_counts hl (eG E) σ τ o _ h4) gX1_leastPair_X1_counts rfl rfl (by decide +kernel) rfl rfl rfl (Nat.le_of_ble_eq_true rfl) (by rw [R]; exact ⟨by decide, by decide⟩) (by rw [R]; exact ⟨by decide, by decide⟩) ?_
                refine g_mmin C dX1_leastPair_100 mwX1_leastPair_l80 mwX1_leastPair_smin mwX1_leastPair_iMath mwX1_leastPair_kmin (by rw [R]; exact ⟨by decide, Nat.le_of_ble_eq_true rfl, by decide, by decide⟩) ?_
                refine g_istore_n C [(2, _), (4, _), (3, _), (0, _), (1, _)] dX1_leastPair_103 rfl (by decide) rfl ?_
                refine g_iinc C 1 [(4, _), (2, _), (3, _), (0, _), (1, _)] dX1_leastPair_104 rfl (nI_i1 b) (by decide) rfl ?_
                refine g_goto (tgt := 37) C dX1_leastPair_107 (by decide) ?_
                refine g_lv [0, 2, 1, 3, 4] [(4, _), (3, _), (2, _), (0, _), (1, _)] rfl ?_
                have g := ih2 (b + 1) (by omega)
                rw [e] at g
                exact g
      refine g_iload_n C dX1_leastPair_5 rfl rfl ?_
      refine g_aload_n C dX1_leastPair_6 rfl rfl ?_
      refine g_getM C 1 dX1_leastPair_7 mwX1_leastPair_inM (by decide) mwX1_leastPair_f48 rfl rfl ?_
      refine g_icmp_ge (tgt := 116) C dX1_leastPair_10 (by decide) (fun c_10 => ?_) (fun c_10 => ?_)
      · exact absurd (by rw [h3] at c_10; exact c_10) (nI_ge (by omega) (by omega))
      · refine g_aload_n C dX1_leastPair_13 rfl rfl ?_
        refine g_getM C 8 dX1_leastPair_14 mwX1_leastPair_inM (by decide) mwX1_leastPair_f23 rfl rfl ?_
        refine g_aload_n C dX1_leastPair_17 rfl rfl ?_
        refine g_getM C 11 dX1_leastPair_18 mwX1_leastPair_inM (by decide) mwX1_leastPair_f29 rfl rfl ?_
        refine g_iload_n C dX1_leastPair_21 rfl rfl ?_
        refine g_ialdN C (p) dX1_leastPair_22 rfl rfl (show p < 16 by omega) (by decide) ?_
        refine g_iald C dX1_leastPair_23 rfl (Iv_tin I (show p < nl by omega)) ?_
        refine g_iload_n C dX1_leastPair_24 rfl rfl ?_
        refine g_callSEi (na := 2) C dX1_leastPair_25 (m_has hl (eG E) σ τ o _ _) gX1_leastPair_X1_has rfl rfl (by decide +kernel) rfl (Nat.le_of_ble_eq_true rfl) (by rw [R]; exact ⟨by decide, by decide⟩) (by rw [R]; exact ⟨by decide, by decide⟩) ?_
        rw [mh_in (show p < nl by omega)]
        refine g_if_ne (tgt := 34) C dX1_leastPair_28 (by decide) (fun c_28 => ?_) (fun c_28 => ?_)
        · refine g_iconst (v := 0) C dX1_leastPair_34 (by decide) ?_
          refine g_istore C [(4, _), (3, _), (2, _), (0, _), (1, _)] dX1_leastPair_35 (by decide) rfl ?_
          exact inner c_28 nw 0 (Nat.zero_add _)
        · refine g_goto (tgt := 110) C dX1_leastPair_31 (by decide) ?_
          refine g_iinc C 0 [(3, _), (2, _), (0, _), (1, _)] dX1_leastPair_110 rfl (nI_i1 a) (by decide) rfl ?_
          refine g_goto (tgt := 5) C dX1_leastPair_113 (by decide) ?_
          have g := ih (a + 1) (by omega)
          rw [bp_no c_28] at g
          exact g
  refine g_ldc C dX1_leastPair_0 mwX1_leastPair_c75 ?_
  refine g_istore_n C [(2, _), (0, _), (1, _)] dX1_leastPair_2 rfl (by decide) rfl ?_
  refine g_iconst (v := 0) C dX1_leastPair_3 (by decide) ?_
  refine g_istore_n C [(3, _), (2, _), (0, _), (1, _)] dX1_leastPair_4 rfl (by decide) rfl ?_
  exact loop nw 0 (Nat.zero_add _)
def FM (σ : gS) (τ : gT) (nw nl m : Nat) : Int32 := (gF1 (σ 22) nw nl (τ 27) (τ 28) (τ 29) (τ 31) m).1
def LAm (σ : gS) (τ : gT) (nw nl p : Nat) : Int32 := gA (σ 22) nl (τ 27) (τ 28) (τ 31) nw p
def LJm (σ : gS) (τ : gT) (nw nl p : Nat) : Int32 := gJ (σ 22) nw nl (τ 27) (τ 28) (τ 29) (τ 31) p
/-- all but the reference's search rows -/
def MS (τ τ' : gT) : Prop := ∀ c, (c < 33 ∨ 35 < c) → τ' c = τ c
theorem MS_tr {τ τ' τ'' : gT} (h : MS τ τ') (h2 : MS τ' τ'') : MS τ τ'' := fun c hc => (h2 c hc).trans (h c hc)
theorem MS_u {τ : gT} {c i : Nat} {x : Int32} (h : 33 ≤ c) (h2 : c ≤ 35) : MS τ (uT τ c i x) := fun a ha => uT_ne (by omega)
theorem IM_cong {σ : gS} {τ τ' : gT} {nw nl lm : Nat} (I : IM σ τ nw nl lm) (h : MS τ τ') (h17 : ∀ i, τ' 35 i = 0 ∨ τ' 35 i = 1) : IM σ τ' nw nl lm := by
  unfold IM at *
  rw [h 27 (by decide), h 28 (by decide), h 31 (by decide), h 32 (by decide)]
  obtain ⟨x1, x2, x3, x4, x5, x6, x7, x8, x9, x10, x11, x12, x13⟩ := I
  exact ⟨x1, x2, x3, x4, x5, x6, x7, x8, x9, h17, x11, x12, x13⟩
theorem FM_s {σ : gS} {τ τ' : gT} {nw nl m : Nat} (h : MS τ τ') : FM σ τ' nw nl m = FM σ τ nw nl m := by
  unfold FM
  rw [h 27 (by decide), h 28 (by decide), h 29 (by decide), h 31 (by decide)]
theorem LAm_s {σ : gS} {τ τ' : gT} {nw nl p : Nat} (h : MS τ τ') : LAm σ τ' nw nl p = LAm σ τ nw nl p := by
  unfold LAm
  rw [h 27 (by decide), h 28 (by decide), h 31 (by decide)]
theorem LJm_s {σ : gS} {τ τ' : gT} {nw nl p : Nat} (h : MS τ τ') : LJm σ τ' nw nl p = LJm σ τ nw nl p := by
  unfold LJm
  rw [h 27 (by decide), h 28 (by decide), h 29 (by decide), h 31 (by decide)]
theorem FM_1 {σ : gS} {τ : gT} {nw nl p : Nat} (hp : p + 1 < nl) : FM σ τ nw nl (nl - p) = (if LJm σ τ nw nl p + FM σ τ nw nl (nl - (p + 2)) < LAm σ τ nw nl p + FM σ τ nw nl (nl - (p + 1)) then LJm σ τ nw nl p + FM σ τ nw nl (nl - (p + 2)) else LAm σ τ nw nl p + FM σ τ nw nl (nl - (p + 1))) := by
  unfold FM LAm LJm
  have e : nl - p = (nl - (p + 1)) + 1 := by omega
  have e2 : nl - (p + 1) = (nl - (p + 2)) + 1 := by omega
  have e3 : nl - ((nl - (p + 1)) + 1) = p := by omega
  rw [e]
  show (if _ + _ < _ + _ then _ + _ else _ + _) = _
  rw [e3, show (fw (gA (σ 22) nl (τ 27) (τ 28) (τ 31) nw) (gJ (σ 22) nw nl (τ 27) (τ 28) (τ 29) (τ 31)) nl (nl - (p + 1))).2 = (fw (gA (σ 22) nl (τ 27) (τ 28) (τ 31) nw) (gJ (σ 22) nw nl (τ 27) (τ 28) (τ 29) (τ 31)) nl (nl - (p + 2))).1 by rw [e2]; rfl]
/-- the rows of the reckoning, from r on -/
def RK (σ : gS) (τ : gT) (nw nl r : Nat) (τ' : gT) : Prop := (∀ c, c ≠ 33 → τ' c = τ c) ∧ ∀ q, r ≤ q → q ≤ nl → τ' 33 q = FM σ τ nw nl (nl - q)
theorem RK_ms {σ : gS} {τ τ' : gT} {nw nl r : Nat} (h : RK σ τ nw nl r τ') : MS τ τ' := fun c hc => h.1 c (by omega)
theorem RK_put {σ : gS} {τ τ' : gT} {nw nl r : Nat} {x : Int32} (h : RK σ τ nw nl (r + 1) τ') (hx : x = FM σ τ nw nl (nl - r)) : RK σ τ nw nl r (uT τ' 33 r x) := by
  refine ⟨fun c hc => by rw [uT_ne hc, h.1 c hc], fun q h1 h2 => ?_⟩
  rw [uT_eq]
  by_cases e : q = r
  · subst e
    rw [upd_eq, hx]
  · rw [upd_ne e]
    exact h.2 q (by omega) h2
theorem uT_uT {τ : gT} {c i : Nat} {x y : Int32} : uT (uT τ c i x) c i y = uT τ c i y := by
  funext a
  by_cases e : a = c
  · subst e
    rw [uT_eq, uT_eq, uT_eq]
    funext j
    by_cases h : j = i
    · rw [h, upd_eq, upd_eq]
    · rw [upd_ne h, upd_ne h, upd_ne h]
  · rw [uT_ne e, uT_ne e, uT_ne e]
set_option maxRecDepth 100000 in
theorem mwX1_reckon_inM : ∀ w ∈ wsX10, w ∈ wsX1_reckon := by decide +kernel
set_option maxRecDepth 100000 in
theorem mwX1_reckon_f36 : Cond.fieldLink RX1 36 "TelegraphPricesModel" "from" "[I" ∈ wsX1_reckon := by decide +kernel
set_option maxRecDepth 100000 in
theorem mwX1_reckon_f55 : Cond.fieldLink RX1 55 "TelegraphPricesModel" "length" "I" ∈ wsX1_reckon := by decide +kernel
set_option maxRecDepth 100000 in
theorem mwX1_reckon_l80 : Cond.methodLink RX1 80 Lib.Math.min.name ∈ wsX1_reckon := by decide +kernel
set_option maxRecDepth 100000 in
theorem mwX1_reckon_smin : Cond.static Lib.Math.min.name ∈ wsX1_reckon := by decide +kernel
set_option maxRecDepth 100000 in
theorem mwX1_reckon_iMath : Cond.initialized "java/lang/Math" ∈ wsX1_reckon := by decide +kernel
set_option maxRecDepth 100000 in
theorem mwX1_reckon_kmin : Cond.code Lib.Math.min.name Lib.Math.min.code 2 (some .int) ∈ wsX1_reckon := by decide +kernel
set_option maxHeartbeats 4000000 in
set_option maxRecDepth 100000 in
theorem m_reckon {l : Launch} (hl : l.stackTraces = false) (Γ : gG) (σ : gS) (τ : gT) (o : gO) (nw nl lm : Nat) (I : IM σ τ nw nl lm) : Ct l yX1_reckon wsX1_reckon 3 96 0 0 [.ref (Γ.2.1 101)] Γ σ τ o (pI (fun r σ' τ' o' => r = FM σ τ nw nl nl ∧ σ' = σ ∧ o' = o ∧ RK σ τ nw nl 0 τ')) (noX) := by
  refine ct_of hl (by decide +kernel) rfl (Nat.le_of_ble_eq_true rfl) ?_
  intro E C F T hΓ hL R
  subst hΓ
  subst hL
  show G E 0 0 0 [(0, .ref ((eG E).2.1 101))] [] σ τ o
  have hnw := Iv_nw I
  have hnl := Iv_nl I
  have h3 : σ 21 = nI nw := Iv_h3 I
  have h9 : σ 30 = nI nl := Iv_h9 I
  have h4 : ¬ σ 22 = 0 := Iv_ne I
  have loop : ∀ r : Nat, ∀ τ' : gT, r ≤ nl → RK σ τ nw nl r τ' → G E 0 0 17 [(1, .int (nI r - 1)), (0, .ref ((eG E).2.1 101))] [] σ τ' o := by
    intro r
    induction r with
    | zero =>
      intro τ' hr hN
      refine g_iload_n C dX1_reckon_17 rfl rfl ?_
      refine g_if_lt (tgt := 86) C dX1_reckon_18 (by decide) (fun c_18 => ?_) (fun c_18 => ?_)
      · refine g_aload_n C dX1_reckon_86 rfl rfl ?_
        refine g_getM C 13 dX1_reckon_87 mwX1_reckon_inM (by decide) mwX1_reckon_f36 rfl rfl ?_
        refine g_iconst (v := 0) C dX1_reckon_90 (by decide) ?_
        refine g_ialdN C (0) dX1_reckon_91 rfl rfl (show 0 < 18 by decide) (by decide) ?_
        exact g_iret C F dX1_reckon_92 (by decide) (by decide) ⟨_, rfl, hN.2 0 (Nat.le_refl _) (Nat.zero_le _), rfl, rfl, hN⟩
      · exact absurd (by decide) c_18
    | succ r ih =>
      intro τ' hr hN
      have hM := RK_ms hN
      have I1 : IM σ τ' nw nl lm := IM_cong I hM (fun i => by rw [hN.1 35 (by decide)]; exact Iv_cj I i)
      have hM2 : MS τ (uT τ' 33 r (LAm σ τ nw nl r + FM σ τ nw nl (nl - (r + 1)))) := MS_tr hM (MS_u (by decide) (by decide))
      have I2 : IM σ (uT τ' 33 r (LAm σ τ nw nl r + FM σ τ nw nl (nl - (r + 1)))) nw nl lm := IM_cong I hM2 (fun i => by rw [uT_ne (by decide), hN.1 35 (by decide)]; exact Iv_cj I i)
      refine g_iload_n C dX1_reckon_17 rfl rfl ?_
      refine g_if_lt (tgt := 86) C dX1_reckon_18 (by decide) (fun c_18 => ?_) (fun c_18 => ?_)
      · exact absurd (by rw [nI_pred] at c_18; exact c_18) (nI_pos (by omega))
      · refine g_aload_n C dX1_reckon_21 rfl rfl ?_
        refine g_getM C 13 dX1_reckon_22 mwX1_reckon_inM (by decide) mwX1_reckon_f36 rfl rfl ?_
        refine g_iload_n C dX1_reckon_25 rfl rfl ?_
        refine g_aload_n C dX1_reckon_26 rfl rfl ?_
        refine g_iload_n C dX1_reckon_27 rfl rfl ?_
        refine g_topi (nI_pred r) ?_
        refine g_callVEi (Cl := RX1) (T := TX1) (N := 16) (ci := 1) (q0 := 12) (na := 1) C dX1_reckon_28 (m_leastSingle hl (eG E) σ τ' o nw nl lm r I1 (by omega)) gX1_reckon_X1_leastSingle rfl rfl (by decide +kernel) rfl rfl rfl (Nat.le_of_ble_eq_true rfl) (by rw [R]; exact ⟨by decide, by decide⟩) (by rw [R]; exact ⟨by decide, by decide⟩) ?_
        refine g_topi (show _ = LAm σ τ nw nl r from LAm_s hM) ?_
        refine g_aload_n C dX1_reckon_31 rfl rfl ?_
        refine g_getM C 13 dX1_reckon_32 mwX1_reckon_inM (by decide) mwX1_reckon_f36 rfl rfl ?_
        refine g_iload_n C dX1_reckon_35 rfl rfl ?_
        refine g_iconst (v := 1) C dX1_reckon_36 (by decide) ?_
        refine g_iadd C dX1_reckon_37 ?_
        refine g_ialdN C (r + 1) dX1_reckon_38 rfl (nI_p1 r) (show r + 1 < 18 by omega) (by decide) ?_
        rw [hN.2 (r + 1) (Nat.le_refl _) hr]
        refine g_iadd C dX1_reckon_39 ?_
        refine g_iastN C (r) dX1_reckon_40 rfl (nI_pred r) (show r < 18 by omega) (by decide) rfl ?_
        refine g_iload_n C dX1_reckon_41 rfl rfl ?_
        refine g_aload_n C dX1_reckon_42 rfl rfl ?_
        refine g_getM C 10 dX1_reckon_43 mwX1_reckon_inM (by decide) mwX1_reckon_f55 rfl rfl ?_
        refine g_iconst (v := 1) C dX1_reckon_46 (by decide) ?_
        refine g_isub C dX1_reckon_47 ?_
        refine g_topi (show _ = nI nl - 1 by rw [h9]) ?_
        refine g_icmp_ge (tgt := 80) C dX1_reckon_48 (by decide) (fun c_48 => ?_) (fun c_48 => ?_)
        · have hp1 : r + 1 = nl := by
            rw [nI_pred, nI_m1 (show nl ≠ 0 by omega)] at c_48
            have := (nI_leI (by omega) (by omega)).mp c_48
            omega
          have eF : (LAm σ τ nw nl r + FM σ τ nw nl (nl - (r + 1))) = FM σ τ nw nl (nl - r) := by
            have z := fw_last (J := τ 29) I (show 0 < nl by omega)
            have z1 : nl - 1 = r := by omega
            rw [z1] at z
            exact z.symm
          refine g_iinc C 0 [(1, _), (0, _)] dX1_reckon_80 rfl (nI_pm r) (by decide) rfl ?_
          refine g_goto (tgt := 17) C dX1_reckon_83 (by decide) ?_
          exact ih _ (by omega) (RK_put hN eF)
        · have hp1 : r + 1 < nl := by
            rw [nI_pred, nI_m1 (show nl ≠ 0 by omega)] at c_48
            have := Nat.not_le.mp (fun z => c_48 ((nI_leI (by omega) (by omega)).mpr z))
            omega
          refine g_aload_n C dX1_reckon_51 rfl rfl ?_
          refine g_getM C 13 dX1_reckon_52 mwX1_reckon_inM (by decide) mwX1_reckon_f36 rfl rfl ?_
          refine g_iload_n C dX1_reckon_55 rfl rfl ?_
          refine g_aload_n C dX1_reckon_56 rfl rfl ?_
          refine g_getM C 13 dX1_reckon_57 mwX1_reckon_inM (by decide) mwX1_reckon_f36 rfl rfl ?_
          refine g_iload_n C dX1_reckon_60 rfl rfl ?_
          refine g_ialdN C (r) dX1_reckon_61 rfl (nI_pred r) (show r < 18 by omega) (by decide) ?_
          refine g_topi (show _ = (LAm σ τ nw nl r + FM σ τ nw nl (nl - (r + 1))) by rw [uT_eq, upd_eq]) ?_
          refine g_aload_n C dX1_reckon_62 rfl rfl ?_
          refine g_iload_n C dX1_reckon_63 rfl rfl ?_
          refine g_topi (nI_pred r) ?_
          refine g_callVEi (Cl := RX1) (T := TX1) (N := 16) (ci := 1) (q0 := 12) (na := 1) C dX1_reckon_64 (m_leastPair hl (eG E) σ (uT τ' 33 r (LAm σ τ nw nl r + FM σ τ nw nl (nl - (r + 1)))) o nw nl lm r I2 hp1) gX1_reckon_X1_leastPair rfl rfl (by decide +kernel) rfl rfl rfl (Nat.le_of_ble_eq_true rfl) (by rw [R]; exact ⟨by decide, by decide⟩) (by rw [R]; exact ⟨by decide, by decide⟩) ?_
          refine g_topi (show _ = LJm σ τ nw nl r from LJm_s hM2) ?_
          refine g_aload_n C dX1_reckon_67 rfl rfl ?_
          refine g_getM C 13 dX1_reckon_68 mwX1_reckon_inM (by decide) mwX1_reckon_f36 rfl rfl ?_
          refine g_iload_n C dX1_reckon_71 rfl rfl ?_
          refine g_iconst (v := 2) C dX1_reckon_72 (by decide) ?_
          refine g_iadd C dX1_reckon_73 ?_
          refine g_ialdN C (r + 2) dX1_reckon_74 rfl (nI_p2 r) (show r + 2 < 18 by omega) (by decide) ?_
          refine g_topi (show _ = FM σ τ nw nl (nl - (r + 2)) by rw [uT_eq, upd_ne (by omega)]; exact hN.2 (r + 2) (by omega) (by omega)) ?_
          refine g_iadd C dX1_reckon_75 ?_
          refine g_mmin C dX1_reckon_76 mwX1_reckon_l80 mwX1_reckon_smin mwX1_reckon_iMath mwX1_reckon_kmin (by rw [R]; exact ⟨by decide, Nat.le_of_ble_eq_true rfl, by decide, by decide⟩) ?_
          refine g_iastN C (r) dX1_reckon_79 rfl (nI_pred r) (show r < 18 by omega) (by decide) rfl ?_
          refine g_iinc C 0 [(1, _), (0, _)] dX1_reckon_80 rfl (nI_pm r) (by decide) rfl ?_
          refine g_goto (tgt := 17) C dX1_reckon_83 (by decide) ?_
          have g := ih _ (by omega) (RK_put (r := r) hN (x := if LJm σ τ nw nl r + FM σ τ nw nl (nl - (r + 2)) < (LAm σ τ nw nl r + FM σ τ nw nl (nl - (r + 1))) then LJm σ τ nw nl r + FM σ τ nw nl (nl - (r + 2)) else (LAm σ τ nw nl r + FM σ τ nw nl (nl - (r + 1)))) (FM_1 hp1).symm)
          rw [uT_uT]
          exact g
  refine g_aload_n C dX1_reckon_0 rfl rfl ?_
  refine g_getM C 13 dX1_reckon_1 mwX1_reckon_inM (by decide) mwX1_reckon_f36 rfl rfl ?_
  refine g_aload_n C dX1_reckon_4 rfl rfl ?_
  refine g_getM C 10 dX1_reckon_5 mwX1_reckon_inM (by decide) mwX1_reckon_f55 rfl rfl ?_
  refine g_iconst (v := 0) C dX1_reckon_8 (by decide) ?_
  refine g_iastN C (nl) dX1_reckon_9 rfl h9 (show nl < 18 by omega) (by decide) rfl ?_
  refine g_aload_n C dX1_reckon_10 rfl rfl ?_
  refine g_getM C 10 dX1_reckon_11 mwX1_reckon_inM (by decide) mwX1_reckon_f55 rfl rfl ?_
  refine g_iconst (v := 1) C dX1_reckon_14 (by decide) ?_
  refine g_isub C dX1_reckon_15 ?_
  refine g_topi (show _ = nI nl - 1 by rw [h9]) ?_
  refine g_istore_n C [(1, _), (0, _)] dX1_reckon_16 rfl (by decide) rfl ?_
  refine loop nl _ (Nat.le_refl _) ⟨fun c hc => uT_ne hc, fun q h1 h2 => ?_⟩
  rw [uT_eq, show q = nl by omega, upd_eq, Nat.sub_self]
  rfl
