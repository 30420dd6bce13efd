/-! a Sim in numbers; its leaves -/
/-- so many limits for so many letters -/
def cN (lm x : Nat) : Nat := (x + lm - 1) / lm
theorem lm_cs {lm : Nat} (h : 3 ≤ lm ∧ lm ≤ 15) : lm = 3 ∨ lm = 4 ∨ lm = 5 ∨ lm = 6 ∨ lm = 7 ∨ lm = 8 ∨ lm = 9 ∨ lm = 10 ∨ lm = 11 ∨ lm = 12 ∨ lm = 13 ∨ lm = 14 ∨ lm = 15 := by omega
theorem cN_0 {lm x : Nat} (h : 3 ≤ lm ∧ lm ≤ 15) (h0 : x % lm = 0) : cN lm x = x / lm := by
  unfold cN
  rcases lm_cs h with rfl | rfl | rfl | rfl | rfl | rfl | rfl | rfl | rfl | rfl | rfl | rfl | rfl <;> omega
theorem cN_1 {lm x : Nat} (h : 3 ≤ lm ∧ lm ≤ 15) (h0 : ¬ x % lm = 0) : cN lm x = x / lm + 1 := by
  unfold cN
  rcases lm_cs h with rfl | rfl | rfl | rfl | rfl | rfl | rfl | rfl | rfl | rfl | rfl | rfl | rfl <;> omega
theorem cN_le {lm x : Nat} (h : 3 ≤ lm ∧ lm ≤ 15) : cN lm x ≤ x := by
  unfold cN
  rcases lm_cs h with rfl | rfl | rfl | rfl | rfl | rfl | rfl | rfl | rfl | rfl | rfl | rfl | rfl <;> omega
theorem cN_sub {lm x y : Nat} (h : 3 ≤ lm ∧ lm ≤ 15) : cN lm (x + y) ≤ cN lm x + cN lm y := by
  unfold cN
  rcases lm_cs h with rfl | rfl | rfl | rfl | rfl | rfl | rfl | rfl | rfl | rfl | rfl | rfl | rfl <;> omega
theorem cN_up {lm x : Nat} (h : 3 ≤ lm ∧ lm ≤ 15) : x ≤ cN lm x * lm ∧ (0 < x → (cN lm x - 1) * lm < x ∧ 0 < cN lm x) := by
  unfold cN
  rcases lm_cs h with rfl | rfl | rfl | rfl | rfl | rfl | rfl | rfl | rfl | rfl | rfl | rfl | rfl <;> omega
def ltF (t : gT) (w : Nat) : Nat := (t 6 w).toNatClampNeg
def tgF (t : gT) (i : Nat) : Nat := (t 9 i).toNatClampNeg
def mayF (t : gT) (w b : Nat) : Bool := decide (w = b) || decide (¬ t (20 + w) b = 0)
def jnF (t : gT) (a b : Nat) : Bool := decide (¬ t (40 + a) b = 0)
/-- what stands of a Sim: nw words, m places, the limit lm -/
def SV (nw m lm : Nat) (s : gS) (t : gT) : Prop := s 0 = nI nw ∧ s 1 = nI lm ∧ nw ≤ 12 ∧ m ≤ 16 ∧ (3 ≤ lm ∧ lm ≤ 15) ∧ (∀ i, i < m → t 9 i = nI (tgF t i) ∧ tgF t i < nw) ∧ (∀ w, w < nw → t 6 w = nI (ltF t w) ∧ 1 ≤ ltF t w ∧ ltF t w ≤ 30) ∧ (∀ a b, t (20 + a) b = 0 ∨ t (20 + a) b = 1) ∧ (∀ a b, t (40 + a) b = 0 ∨ t (40 + a) b = 1) ∧ ∀ i, t 10 i = 0 ∨ t 10 i = 1
section
variable {nw m lm : Nat} {s : gS} {t : gT}
theorem SV_0 (I : SV nw m lm s t) : s 0 = nI nw := I.1
theorem SV_1 (I : SV nw m lm s t) : s 1 = nI lm := I.2.1
theorem SV_nw (I : SV nw m lm s t) : nw ≤ 12 := I.2.2.1
theorem SV_m (I : SV nw m lm s t) : m ≤ 16 := I.2.2.2.1
theorem SV_lm (I : SV nw m lm s t) : 3 ≤ lm ∧ lm ≤ 15 := I.2.2.2.2.1
theorem SV_tg (I : SV nw m lm s t) {i : Nat} (h : i < m) : t 9 i = nI (tgF t i) ∧ tgF t i < nw := I.2.2.2.2.2.1 i h
theorem SV_lt (I : SV nw m lm s t) {w : Nat} (h : w < nw) : t 6 w = nI (ltF t w) ∧ 1 ≤ ltF t w ∧ ltF t w ≤ 30 := I.2.2.2.2.2.2.1 w h
theorem SV_st (I : SV nw m lm s t) (a b : Nat) : t (20 + a) b = 0 ∨ t (20 + a) b = 1 := I.2.2.2.2.2.2.2.1 a b
theorem SV_jn (I : SV nw m lm s t) (a b : Nat) : t (40 + a) b = 0 ∨ t (40 + a) b = 1 := I.2.2.2.2.2.2.2.2.1 a b
theorem SV_jd (I : SV nw m lm s t) (i : Nat) : t 10 i = 0 ∨ t 10 i = 1 := I.2.2.2.2.2.2.2.2.2 i
theorem SV_ne (I : SV nw m lm s t) : ¬ s 1 = 0 := by
  rw [SV_1 I]
  have := SV_lm I
  exact nI_ne0 (by omega) (by omega)
end
def zb (b : Bool) : Int32 := if b = true then 1 else 0
theorem zb_01 (b : Bool) : zb b = 0 ∨ zb b = 1 := by cases b <;> simp [zb]
set_option maxRecDepth 100000 in
theorem nwX1_counts_f7 : Cond.fieldLink RX1 7 "TelegraphPricesLaw$Sim" "limit" "I" ∈ wsX1_counts := by decide +kernel
set_option maxRecDepth 100000 in
theorem nwX1_counts_in : ∀ w ∈ wsX10, w ∈ wsX1_counts := by decide +kernel
set_option maxHeartbeats 4000000 in
set_option maxRecDepth 100000 in
theorem s_counts {l : Launch} (hl : l.stackTraces = false) (Γ : gG) (a : Nat → Nat) (m mj : Nat) (s : gS) (t : gT) (z : va_W) (lm y : Nat) (h1 : s 1 = nI lm) (h2 : 3 ≤ lm ∧ lm ≤ 15) (hy : y ≤ 1000) : CtJ l yX1_counts wsX1_counts 1 32 0 0 [.ref (a 100), .int (nI y)] Γ none (sW Γ a m mj s t ++ z) (jE (some (.int (nI (cN lm y)))) (sW Γ a m mj s t ++ z)) := by
  refine ctj_of (by decide +kernel) rfl (Nat.le_of_ble_eq_true rfl) ?_
  intro E C F N9 hΓ hL R
  subst hΓ
  subst hL
  show J E 0 0 0 [(0, .ref (a 100)), (1, .int (nI y))] [] (sW (eG E) a m mj s t ++ z)
  have hne : ¬ s 1 = 0 := by
    rw [h1]
    exact nI_ne0 (by omega) (by omega)
  refine j_iload_n C dX1_counts_0 rfl rfl ?_
  refine j_aload_n C dX1_counts_1 rfl rfl ?_
  refine j_get C 0 1 dX1_counts_2 nwX1_counts_in (by decide) nwX1_counts_f7 rfl rfl rfl ?_
  refine j_irem C dX1_counts_5 hne ?_
  refine j_if_ne (tgt := 18) C dX1_counts_6 (by decide) (fun c_6 => ?_) (fun c_6 => ?_)
  · have e : nI y / s 1 + 1 = nI (cN lm y) := by
      rw [h1] at c_6 ⊢
      rw [pk_rem (by omega) (by omega) (by omega)] at c_6
      rw [pk_div (by omega) (by omega) (by omega), nI_1, cN_1 h2 (fun q => c_6 (by rw [q]; rfl))]
    refine j_iload_n C dX1_counts_18 rfl rfl ?_
    refine j_aload_n C dX1_counts_19 rfl rfl ?_
    refine j_get C 0 1 dX1_counts_20 nwX1_counts_in (by decide) nwX1_counts_f7 rfl rfl rfl ?_
    refine j_idiv C dX1_counts_23 hne ?_
    refine j_iconst (v := 1) C dX1_counts_24 (by decide) ?_
    refine j_iadd C dX1_counts_25 ?_
    exact j_iret C F dX1_counts_26 (Nat.le_of_ble_eq_true rfl) (Nat.le_of_ble_eq_true rfl) ⟨by rw [e], rfl⟩
  · have e : nI y / s 1 = nI (cN lm y) := by
      rw [h1] at c_6 ⊢
      rw [pk_rem (by omega) (by omega) (by omega)] at c_6
      have e0 : y % lm = 0 := by
        rcases Nat.eq_zero_or_pos (y % lm) with q | q
        · exact q
        · exact absurd c_6 (nI_ne0 q (Nat.lt_of_le_of_lt (Nat.mod_le _ _) (by omega)))
      rw [pk_div (by omega) (by omega) (by omega), cN_0 h2 e0]
    refine j_iload_n C dX1_counts_9 rfl rfl ?_
    refine j_aload_n C dX1_counts_10 rfl rfl ?_
    refine j_get C 0 1 dX1_counts_11 nwX1_counts_in (by decide) nwX1_counts_f7 rfl rfl rfl ?_
    refine j_idiv C dX1_counts_14 hne ?_
    refine j_goto (tgt := 26) C dX1_counts_15 (by decide) ?_
    exact j_iret C F dX1_counts_26 (Nat.le_of_ble_eq_true rfl) (Nat.le_of_ble_eq_true rfl) ⟨by rw [e], rfl⟩
set_option maxRecDepth 100000 in
theorem nwX1_lifted_f31 : Cond.fieldLink RX1 31 "TelegraphPricesLaw$Sim" "word" "[I" ∈ wsX1_lifted := by decide +kernel
set_option maxRecDepth 100000 in
theorem nwX1_lifted_in : ∀ w ∈ wsX10, w ∈ wsX1_lifted := by decide +kernel
set_option maxRecDepth 100000 in
theorem nwX1_lifted_f13 : Cond.fieldLink RX1 13 "TelegraphPricesLaw$Sim" "least" "I" ∈ wsX1_lifted := by decide +kernel
set_option maxHeartbeats 4000000 in
set_option maxRecDepth 100000 in
theorem s_lifted {l : Launch} (hl : l.stackTraces = false) (Γ : gG) (a : Nat → Nat) (m mj : Nat) (s : gS) (t : gT) (z : va_W) (y : Int32) (hm : m ≤ 16) : CtJ l yX1_lifted wsX1_lifted 1 32 0 0 [.ref (a 100), .int y] Γ none (sW Γ a m mj s t ++ z) (jE (some (.int (al m (s 2) y))) (sW Γ a m mj s t ++ z)) := by
  refine ctj_of (by decide +kernel) rfl (Nat.le_of_ble_eq_true rfl) ?_
  intro E C F N9 hΓ hL R
  subst hΓ
  subst hL
  show J E 0 0 0 [(0, .ref (a 100)), (1, .int y)] [] (sW (eG E) a m mj s t ++ z)
  refine j_aload_n C dX1_lifted_0 rfl rfl ?_
  refine j_get C 0 9 dX1_lifted_1 nwX1_lifted_in (by decide) nwX1_lifted_f31 rfl rfl rfl ?_
  refine j_alen C 4 0 dX1_lifted_4 rfl rfl ?_
  refine j_if_ne (tgt := 12) C dX1_lifted_5 (by decide) (fun c_5 => ?_) (fun c_5 => ?_)
  · have hm0 : ¬ m = 0 := fun q => c_5 (by rw [q]; rfl)
    refine j_iload_n C dX1_lifted_12 rfl rfl ?_
    refine j_aload_n C dX1_lifted_13 rfl rfl ?_
    refine j_get C 0 2 dX1_lifted_14 nwX1_lifted_in (by decide) nwX1_lifted_f13 rfl rfl rfl ?_
    refine j_icmp_ge (tgt := 27) C dX1_lifted_17 (by decide) (fun c_17 => ?_) (fun c_17 => ?_)
    · have e : al m (s 2) y = y := by
        unfold al
        rw [if_neg hm0, if_neg (i_ng c_17)]
      refine j_iload_n C dX1_lifted_27 rfl rfl ?_
      exact j_iret C F dX1_lifted_28 (Nat.le_of_ble_eq_true rfl) (Nat.le_of_ble_eq_true rfl) ⟨by rw [e], rfl⟩
    · have e : al m (s 2) y = s 2 := by
        unfold al
        rw [if_neg hm0, if_pos (i_nle c_17)]
      refine j_aload_n C dX1_lifted_20 rfl rfl ?_
      refine j_get C 0 2 dX1_lifted_21 nwX1_lifted_in (by decide) nwX1_lifted_f13 rfl rfl rfl ?_
      refine j_goto (tgt := 28) C dX1_lifted_24 (by decide) ?_
      exact j_iret C F dX1_lifted_28 (Nat.le_of_ble_eq_true rfl) (Nat.le_of_ble_eq_true rfl) ⟨by rw [e], rfl⟩
  · have hm0 : m = 0 := by
      rcases Nat.eq_zero_or_pos m with q | q
      · exact q
      · exact absurd c_5 (nI_ne0 q (by omega))
    have e : al m (s 2) y = 0 := if_pos hm0
    refine j_iconst (v := 0) C dX1_lifted_8 (by decide) ?_
    refine j_goto (tgt := 28) C dX1_lifted_9 (by decide) ?_
    exact j_iret C F dX1_lifted_28 (Nat.le_of_ble_eq_true rfl) (Nat.le_of_ble_eq_true rfl) ⟨by rw [e], rfl⟩
set_option maxRecDepth 100000 in
theorem nwX1_may_f25 : Cond.fieldLink RX1 25 "TelegraphPricesLaw$Sim" "stand" "[[Z" ∈ wsX1_may := by decide +kernel
set_option maxRecDepth 100000 in
theorem nwX1_may_in : ∀ w ∈ wsX10, w ∈ wsX1_may := by decide +kernel
set_option maxHeartbeats 4000000 in
set_option maxRecDepth 100000 in
theorem s_may {l : Launch} (hl : l.stackTraces = false) (Γ : gG) (a : Nat → Nat) (m mj : Nat) (s : gS) (t : gT) (z : va_W) (w b : Nat) (hw : w < 12) (hb9 : b < 12) : CtJ l yX1_may wsX1_may 1 32 0 0 [.ref (a 100), .int (nI w), .int (nI b)] Γ none (sW Γ a m mj s t ++ z) (jE (some (.int (zb (mayF t w b)))) (sW Γ a m mj s t ++ z)) := by
  refine ctj_of (by decide +kernel) rfl (Nat.le_of_ble_eq_true rfl) ?_
  intro E C F N9 hΓ hL R
  subst hΓ
  subst hL
  show J E 0 0 0 [(0, .ref (a 100)), (1, .int (nI w)), (2, .int (nI b))] [] (sW (eG E) a m mj s t ++ z)
  refine j_iload_n C dX1_may_0 rfl rfl ?_
  refine j_iload_n C dX1_may_1 rfl rfl ?_
  refine j_icmp_eq (tgt := 16) C dX1_may_2 (by decide) (fun c_2 => ?_) (fun c_2 => ?_)
  · have e : zb (mayF t w b) = 1 := by
      have q : w = b := by
        have := congrArg Int32.toNatClampNeg c_2
        rw [nI_clamp (by omega), nI_clamp (by omega)] at this
        exact this
      simp [zb, mayF, q]
    refine j_iconst (v := 1) C dX1_may_16 (by decide) ?_
    refine j_goto (tgt := 21) C dX1_may_17 (by decide) ?_
    exact j_zret C F dX1_may_21 (by first | exact Or.inl rfl | exact Or.inr rfl) (Nat.le_of_ble_eq_true rfl) (Nat.le_of_ble_eq_true rfl) ⟨by rw [e], rfl⟩
  · have hwb : ¬ w = b := fun q => c_2 (by rw [q])
    refine j_aload_n C dX1_may_5 rfl rfl ?_
    refine j_get C 0 7 dX1_may_6 nwX1_may_in (by decide) nwX1_may_f25 rfl rfl rfl ?_
    refine j_iload_n C dX1_may_9 rfl rfl ?_
    refine jS_row C 2 7 20 (w) dX1_may_10 rfl rfl hw ?_
    refine j_iload_n C dX1_may_11 rfl rfl ?_
    refine jS_st C [] (w) (b) dX1_may_12 rfl hw hb9 ?_
    refine j_if_eq (tgt := 20) C dX1_may_13 (by decide) (fun c_13 => ?_) (fun c_13 => ?_)
    · have e : zb (mayF t w b) = 0 := by simp [zb, mayF, hwb, c_13]
      refine j_iconst (v := 0) C dX1_may_20 (by decide) ?_
      exact j_zret C F dX1_may_21 (by first | exact Or.inl rfl | exact Or.inr rfl) (Nat.le_of_ble_eq_true rfl) (Nat.le_of_ble_eq_true rfl) ⟨by rw [e], rfl⟩
    · have e : zb (mayF t w b) = 1 := by simp [zb, mayF, c_13]
      refine j_iconst (v := 1) C dX1_may_16 (by decide) ?_
      refine j_goto (tgt := 21) C dX1_may_17 (by decide) ?_
      exact j_zret C F dX1_may_21 (by first | exact Or.inl rfl | exact Or.inr rfl) (Nat.le_of_ble_eq_true rfl) (Nat.le_of_ble_eq_true rfl) ⟨by rw [e], rfl⟩
/-- the sum, and the letters that wait, ahead of place p -/
def ssF (lm : Nat) (lt tg : Nat → Nat) (jd : Nat → Bool) : Nat → Nat × Nat
  | 0 => (0, 0)
  | p + 1 => if jd p = true then ((ssF lm lt tg jd p).1, (ssF lm lt tg jd p).2 + lt (tg p)) else ((ssF lm lt tg jd p).1 + cN lm ((ssF lm lt tg jd p).2 + lt (tg p)), 0)
theorem ssF_w {lm : Nat} {lt tg : Nat → Nat} {jd : Nat → Bool} : ∀ p, (∀ i, i < p → lt (tg i) ≤ 30) → (ssF lm lt tg jd p).2 ≤ 30 * p := by
  intro p
  induction p with
  | zero => exact fun _ => Nat.le_refl _
  | succ p ih =>
    intro h
    have h1 := ih (fun i hi => h i (by omega))
    have h2 := h p (by omega)
    show (if jd p = true then _ else _ : Nat × Nat).2 ≤ _
    by_cases q : jd p = true
    · rw [if_pos q]
      show _ + _ ≤ _
      omega
    · rw [if_neg q]
      exact Nat.zero_le _
def jdF (t : gT) (i : Nat) : Bool := decide (¬ t 10 i = 0)
abbrev SSx (lm : Nat) (t : gT) : Nat → Nat × Nat := ssF lm (ltF t) (tgF t) (jdF t)
set_option maxRecDepth 100000 in
theorem nwX1_sum_f19 : Cond.fieldLink RX1 19 "TelegraphPricesLaw$Sim" "letters" "[I" ∈ wsX1_sum := by decide +kernel
set_option maxRecDepth 100000 in
theorem nwX1_sum_in : ∀ w ∈ wsX10, w ∈ wsX1_sum := by decide +kernel
set_option maxHeartbeats 4000000 in
set_option maxRecDepth 100000 in
theorem s_sum {l : Launch} (hl : l.stackTraces = false) (Γ : gG) (a : Nat → Nat) (m : Nat) (s : gS) (t : gT) (z : va_W) (nw lm : Nat) (I : SV nw m lm s t) : CtJ l yX1_sum wsX1_sum 2 64 0 0 [.ref (a 100), .ref (a 9), .ref (a 10)] Γ none (sW Γ a m m s t ++ z) (jE (some (.int (nI (SSx lm t m).1))) (sW Γ a m m s t ++ z)) := by
  refine ctj_of (by decide +kernel) rfl (Nat.le_of_ble_eq_true rfl) ?_
  intro E C F N9 hΓ hL R
  subst hΓ
  subst hL
  show J E 0 0 0 [(0, .ref (a 100)), (1, .ref (a 9)), (2, .ref (a 10))] [] (sW (eG E) a m m s t ++ z)
  have hnw := SV_nw I
  have hm := SV_m I
  have loop : ∀ d p : Nat, p + d = m → J E 0 0 8 [(5, .int (nI p)), (4, .int (nI (SSx lm t p).2)), (3, .int (nI (SSx lm t p).1)), (0, .ref (a 100)), (1, .ref (a 9)), (2, .ref (a 10))] [] (sW (eG E) a m m s t ++ z) := by
    intro d
    induction d with
    | zero =>
      intro p hp
      refine j_iload C dX1_sum_8 rfl ?_
      refine j_aload_n C dX1_sum_10 rfl rfl ?_
      refine j_alen C 4 0 dX1_sum_11 rfl rfl ?_
      refine j_icmp_ge (tgt := 57) C dX1_sum_12 (by decide) (fun c_12 => ?_) (fun c_12 => ?_)
      · refine j_iload_n C dX1_sum_57 rfl rfl ?_
        exact j_iret C F dX1_sum_58 (Nat.le_of_ble_eq_true rfl) (Nat.le_of_ble_eq_true rfl) ⟨by rw [show p = m by omega], rfl⟩
      · exact absurd (nI_le (by omega) (by omega)) c_12
    | succ d ih =>
      intro p hp
      have hpm : p < m := by omega
      obtain ⟨e9, h9⟩ := SV_tg I hpm
      obtain ⟨e6, h6a, h6b⟩ := SV_lt I h9
      have hw : (SSx lm t p).2 ≤ 30 * p := ssF_w (lm := lm) (lt := ltF t) (tg := tgF t) (jd := jdF t) p (fun i hi => (SV_lt I (SV_tg I (show i < m by omega)).2).2.2)
      refine j_iload C dX1_sum_8 rfl ?_
      refine j_aload_n C dX1_sum_10 rfl rfl ?_
      refine j_alen C 4 0 dX1_sum_11 rfl rfl ?_
      refine j_icmp_ge (tgt := 57) C dX1_sum_12 (by decide) (fun c_12 => ?_) (fun c_12 => ?_)
      · exact absurd c_12 (nI_ge (by omega) (by omega))
      · refine j_iload C dX1_sum_15 rfl ?_
        refine j_aload_n C dX1_sum_17 rfl rfl ?_
        refine j_get C 0 6 dX1_sum_18 nwX1_sum_in (by decide) nwX1_sum_f19 rfl rfl rfl ?_
        refine j_aload_n C dX1_sum_21 rfl rfl ?_
        refine j_iload C dX1_sum_22 rfl ?_
        refine j_iald C 4 (p) dX1_sum_24 rfl rfl hpm (by omega) ?_
        rw [e9]
        refine j_iald C 1 (tgF t p) dX1_sum_25 rfl rfl (show tgF t p < 12 by omega) (by decide) ?_
        rw [e6]
        refine j_iadd C dX1_sum_26 ?_
        rw [nI_add]
        refine j_istore C [(4, _), (5, _), (3, _), (0, _), (1, _), (2, _)] dX1_sum_27 (by decide) rfl ?_
        refine j_aload_n C dX1_sum_29 rfl rfl ?_
        refine j_iload C dX1_sum_30 rfl ?_
        refine j_zald C 5 (p) dX1_sum_32 rfl rfl hpm (by omega) ?_
        refine j_if_eq (tgt := 39) C dX1_sum_33 (by decide) (fun c_33 => ?_) (fun c_33 => ?_)
        · have e : SSx lm t (p + 1) = ((SSx lm t p).1 + cN lm ((SSx lm t p).2 + ltF t (tgF t p)), 0) := by
            show (if jdF t p = true then _ else _) = _
            rw [if_neg (by simp [jdF, c_33])]
          refine j_iload_n C dX1_sum_39 rfl rfl ?_
          refine j_aload_n C dX1_sum_40 rfl rfl ?_
          refine j_iload C dX1_sum_41 rfl ?_
          refine j_callE (q0 := 0) (na := 1) C dX1_sum_43 (s_counts hl (eG E) a m m s t z lm _ (SV_1 I) (SV_lm I) (by omega)) gX1_sum_X1_counts rfl rfl (by decide +kernel) rfl rfl (Nat.le_of_ble_eq_true rfl) (by rw [R]; exact ⟨Nat.le_of_ble_eq_true rfl, Nat.le_of_ble_eq_true rfl⟩) (by rw [R]; exact ⟨Nat.le_of_ble_eq_true rfl, Nat.le_of_ble_eq_true rfl⟩) ?_
          refine j_iadd C dX1_sum_46 ?_
          rw [nI_add]
          refine j_istore_n C [(3, _), (4, _), (5, _), (0, _), (1, _), (2, _)] dX1_sum_47 rfl (by decide) rfl ?_
          refine j_iconst (v := 0) C dX1_sum_48 (by decide) ?_
          refine j_istore C [(4, _), (3, _), (5, _), (0, _), (1, _), (2, _)] dX1_sum_49 (by decide) rfl ?_
          refine j_iinc C 2 [(5, _), (4, _), (3, _), (0, _), (1, _), (2, _)] dX1_sum_51 rfl (nI_i1 p) (by decide) rfl ?_
          refine j_goto (tgt := 8) C dX1_sum_54 (by decide) ?_
          rw [← hp] at ih
          have g := ih (p + 1) (by omega)
          rw [hp] at g
          rw [e] at g
          exact g
        · have e : SSx lm t (p + 1) = ((SSx lm t p).1, (SSx lm t p).2 + ltF t (tgF t p)) := by
            show (if jdF t p = true then _ else _) = _
            rw [if_pos (by simp [jdF, c_33])]
          refine j_goto (tgt := 51) C dX1_sum_36 (by decide) ?_
          refine j_iinc C 1 [(5, _), (4, _), (3, _), (0, _), (1, _), (2, _)] dX1_sum_51 rfl (nI_i1 p) (by decide) rfl ?_
          refine j_goto (tgt := 8) C dX1_sum_54 (by decide) ?_
          rw [← hp] at ih
          have g := ih (p + 1) (by omega)
          rw [hp] at g
          rw [e] at g
          exact g
  refine j_iconst (v := 0) C dX1_sum_0 (by decide) ?_
  refine j_istore_n C [(3, _), (0, _), (1, _), (2, _)] dX1_sum_1 rfl (by decide) rfl ?_
  refine j_iconst (v := 0) C dX1_sum_2 (by decide) ?_
  refine j_istore C [(4, _), (3, _), (0, _), (1, _), (2, _)] dX1_sum_3 (by decide) rfl ?_
  refine j_iconst (v := 0) C dX1_sum_5 (by decide) ?_
  refine j_istore C [(5, _), (4, _), (3, _), (0, _), (1, _), (2, _)] dX1_sum_6 (by decide) rfl ?_
  exact loop m 0 (Nat.zero_add _)
set_option maxRecDepth 100000 in
theorem nwX1_count_f31 : Cond.fieldLink RX1 31 "TelegraphPricesLaw$Sim" "word" "[I" ∈ wsX1_count := by decide +kernel
set_option maxRecDepth 100000 in
theorem nwX1_count_in : ∀ w ∈ wsX10, w ∈ wsX1_count := by decide +kernel
set_option maxRecDepth 100000 in
theorem nwX1_count_f34 : Cond.fieldLink RX1 34 "TelegraphPricesLaw$Sim" "joined" "[Z" ∈ wsX1_count := by decide +kernel
set_option maxHeartbeats 4000000 in
set_option maxRecDepth 100000 in
theorem s_count {l : Launch} (hl : l.stackTraces = false) (Γ : gG) (a : Nat → Nat) (m : Nat) (s : gS) (t : gT) (z : va_W) (nw lm : Nat) (I : SV nw m lm s t) : CtJ l yX1_count wsX1_count 3 96 0 0 [.ref (a 100)] Γ none (sW Γ a m m s t ++ z) (jE (some (.int (al m (s 2) (nI (SSx lm t m).1)))) (sW Γ a m m s t ++ z)) := by
  refine ctj_of (by decide +kernel) rfl (Nat.le_of_ble_eq_true rfl) ?_
  intro E C F N9 hΓ hL R
  subst hΓ
  subst hL
  show J E 0 0 0 [(0, .ref (a 100))] [] (sW (eG E) a m m s t ++ z)
  refine j_aload_n C dX1_count_0 rfl rfl ?_
  refine j_aload_n C dX1_count_1 rfl rfl ?_
  refine j_aload_n C dX1_count_2 rfl rfl ?_
  refine j_get C 0 9 dX1_count_3 nwX1_count_in (by decide) nwX1_count_f31 rfl rfl rfl ?_
  refine j_aload_n C dX1_count_6 rfl rfl ?_
  refine j_get C 0 10 dX1_count_7 nwX1_count_in (by decide) nwX1_count_f34 rfl rfl rfl ?_
  refine j_callE (q0 := 0) (na := 2) C dX1_count_10 (s_sum hl (eG E) a m s t z nw lm I) gX1_count_X1_sum rfl rfl (by decide +kernel) rfl rfl (Nat.le_of_ble_eq_true rfl) (by rw [R]; exact ⟨Nat.le_of_ble_eq_true rfl, Nat.le_of_ble_eq_true rfl⟩) (by rw [R]; exact ⟨Nat.le_of_ble_eq_true rfl, Nat.le_of_ble_eq_true rfl⟩) ?_
  refine j_callE (q0 := 0) (na := 1) C dX1_count_13 (s_lifted hl (eG E) a m m s t z _ (SV_m I)) gX1_count_X1_lifted rfl rfl (by decide +kernel) rfl rfl (Nat.le_of_ble_eq_true rfl) (by rw [R]; exact ⟨Nat.le_of_ble_eq_true rfl, Nat.le_of_ble_eq_true rfl⟩) (by rw [R]; exact ⟨Nat.le_of_ble_eq_true rfl, Nat.le_of_ble_eq_true rfl⟩) ?_
  exact j_iret C F dX1_count_16 (Nat.le_of_ble_eq_true rfl) (Nat.le_of_ble_eq_true rfl) ⟨rfl, rfl⟩
