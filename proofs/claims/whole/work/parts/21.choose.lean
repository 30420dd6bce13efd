/-! the reference's choice -/
def bpm (σ : gS) (τ : gT) (nw nl p : Nat) : Int32 := (bp (σ 22) nw nl (τ 27) (τ 28) (τ 29) (τ 31) p nw).1
def Sm (σ : gS) (τ : gT) (nw nl p : Nat) : Int32 := (bw (σ 22) nl (τ 27) (τ 28) (τ 31) p nw).1
def Am (σ : gS) (τ : gT) (nw nl p : Nat) : Int32 := bpm σ τ nw nl p / 100
def Bm (σ : gS) (τ : gT) (nw nl p : Nat) : Int32 := bpm σ τ nw nl p - bpm σ τ nw nl p / 100 * 100
def prm (σ : gS) (τ : gT) (nw nl p : Nat) : Bool := decide (¬ (bpm σ τ nw nl p = -1 ∨ LAm σ τ nw nl p + FM σ τ nw nl (nl - (p + 1)) = FM σ τ nw nl (nl - p)))
theorem bpm_s {σ : gS} {τ τ' : gT} {nw nl p : Nat} (h : MS τ τ') : bpm σ τ' nw nl p = bpm σ τ nw nl p := by
  unfold bpm
  rw [h 27 (by decide), h 28 (by decide), h 29 (by decide), h 31 (by decide)]
theorem Sm_s {σ : gS} {τ τ' : gT} {nw nl p : Nat} (h : MS τ τ') : Sm σ τ' nw nl p = Sm σ τ nw nl p := by
  unfold Sm
  rw [h 27 (by decide), h 28 (by decide), h 31 (by decide)]
theorem Am_s {σ : gS} {τ τ' : gT} {nw nl p : Nat} (h : MS τ τ') : Am σ τ' nw nl p = Am σ τ nw nl p := by
  unfold Am
  rw [bpm_s h]
theorem Bm_s {σ : gS} {τ τ' : gT} {nw nl p : Nat} (h : MS τ τ') : Bm σ τ' nw nl p = Bm σ τ nw nl p := by
  unfold Bm
  rw [bpm_s h]
theorem prm_s {σ : gS} {τ τ' : gT} {nw nl p : Nat} (h : MS τ τ') : prm σ τ' nw nl p = prm σ τ nw nl p := by
  unfold prm
  rw [bpm_s h, LAm_s h, FM_s h, FM_s h]
def sgm (σ : gS) (τ : gT) (nw nl p : Nat) : Int32 := if prm σ τ nw nl p = true then -1 else Sm σ τ nw nl p
section
variable {nw nl lm : Nat} {σ : gS} {τ : gT}
theorem sg_found (I : IM σ τ nw nl lm) {p a : Nat} (hp : p < nl) (ha : a < nw) (hm : mh nl (τ 28) (τ 31) p (nI a) ≠ 0) (h : cn (σ 22) (τ 27 a) + FM σ τ nw nl (nl - (p + 1)) = FM σ τ nw nl (nl - p)) (hno : ∀ b, b < a → ¬ (mh nl (τ 28) (τ 31) p (nI b) ≠ 0 ∧ cn (σ 22) (τ 27 b) + FM σ τ nw nl (nl - (p + 1)) = FM σ τ nw nl (nl - p))) : sgm σ τ nw nl p = nI a := by
  obtain ⟨h1, h2⟩ := (sg_iff (J := τ 29) I hp ha hm).mp h
  obtain ⟨a0, ⟨f1, f2, f3, f4⟩, e0⟩ := bw_fin I hp
  have e1 : gA (σ 22) nl (τ 27) (τ 28) (τ 31) nw p = cn (σ 22) (τ 27 a0) := by unfold gA; rw [e0]
  have hpr : prm σ τ nw nl p = false := decide_eq_false (fun z => z (Or.inr h1))
  have ea : a = a0 := by
    rcases Nat.lt_trichotomy a a0 with q | q | q
    · have this : cn (σ 22) (τ 27 a0) < cn (σ 22) (τ 27 a) := f4 a q hm
      rw [h2, e1] at this
      exact (i_irr this).elim
    · exact q
    · exact absurd ⟨f2, by rw [← e1]; exact h1⟩ (hno a0 q)
  unfold sgm
  rw [if_neg (by rw [hpr]; decide), ea]
  unfold Sm
  rw [e0]
theorem sg_none (I : IM σ τ nw nl lm) {p : Nat} (hp : p < nl) (hno : ∀ b, b < nw → ¬ (mh nl (τ 28) (τ 31) p (nI b) ≠ 0 ∧ cn (σ 22) (τ 27 b) + FM σ τ nw nl (nl - (p + 1)) = FM σ τ nw nl (nl - p))) : sgm σ τ nw nl p = -1 := by
  obtain ⟨a0, ⟨f1, f2, f3, f4⟩, e0⟩ := bw_fin I hp
  have e1 : gA (σ 22) nl (τ 27) (τ 28) (τ 31) nw p = cn (σ 22) (τ 27 a0) := by unfold gA; rw [e0]
  have hne : ¬ gA (σ 22) nl (τ 27) (τ 28) (τ 31) nw p + (gF1 (σ 22) nw nl (τ 27) (τ 28) (τ 29) (τ 31) (nl - (p + 1))).1 = (gF1 (σ 22) nw nl (τ 27) (τ 28) (τ 29) (τ 31) (nl - p)).1 := fun z => hno a0 f1 ⟨f2, by rw [← e1]; exact z⟩
  have hpr : prm σ τ nw nl p = true := decide_eq_true (fun z => z.elim (fw_pair I hp hne).2.1 hne)
  unfold sgm
  rw [if_pos hpr]
theorem sgm_ne (I : IM σ τ nw nl lm) {p : Nat} (hp : p < nl) (h : prm σ τ nw nl p = false) : sgm σ τ nw nl p = Sm σ τ nw nl p ∧ ¬ sgm σ τ nw nl p = -1 := by
  have e : sgm σ τ nw nl p = Sm σ τ nw nl p := by
    unfold sgm
    rw [if_neg (by rw [h]; decide)]
  obtain ⟨a0, h0, e0⟩ := bw_fin I hp
  have h12 := Iv_nw I
  have h00 := h0.1
  refine ⟨e, ?_⟩
  rw [e]
  unfold Sm
  rw [e0]
  have z := pr_ne (a := 0) (b := a0) (by decide) (by omega)
  rw [Nat.zero_mul, Nat.zero_add] at z
  exact z
/-- the pair, where it has to be one -/
theorem pr_fin (I : IM σ τ nw nl lm) {p : Nat} (hp : p < nl) (h : prm σ τ nw nl p = true) : p + 1 < nl ∧ ∃ a0 b0, a0 < nw ∧ b0 < nw ∧ Am σ τ nw nl p = nI a0 ∧ Bm σ τ nw nl p = nI b0 ∧ (pq nl (τ 28) (τ 29) (τ 31) p a0 b0 ∧ cn (σ 22) (τ 27 a0 + τ 27 b0) + FM σ τ nw nl (nl - (p + 2)) = FM σ τ nw nl (nl - p)) ∧
    ∀ a b, a < nw → b < nw → pq nl (τ 28) (τ 29) (τ 31) p a b → cn (σ 22) (τ 27 a + τ 27 b) + FM σ τ nw nl (nl - (p + 2)) = FM σ τ nw nl (nl - p) → (a = a0 ∧ b = b0) ∨ lexB nw a b a0 b0 := by
  have h12 := Iv_nw I
  have hne : ¬ gA (σ 22) nl (τ 27) (τ 28) (τ 31) nw p + (gF1 (σ 22) nw nl (τ 27) (τ 28) (τ 29) (τ 31) (nl - (p + 1))).1 = (gF1 (σ 22) nw nl (τ 27) (τ 28) (τ 29) (τ 31) (nl - p)).1 := fun z => of_decide_eq_true h (Or.inr z)
  obtain ⟨g1, g2, g3⟩ := fw_pair I hp hne
  have e2 : (gF1 (σ 22) nw nl (τ 27) (τ 28) (τ 29) (τ 31) (nl - (p + 1))).2 = FM σ τ nw nl (nl - (p + 2)) := by
    unfold FM
    rw [show nl - (p + 1) = (nl - (p + 2)) + 1 by omega]
    rfl
  rcases bp_fin (p := p) (J := τ 29) I with ⟨-, e⟩ | ⟨a0, b0, ha, hb, hq, f3, f4, e⟩
  · exact absurd (by rw [e]) g2
  · have eJ : gJ (σ 22) nw nl (τ 27) (τ 28) (τ 29) (τ 31) p = cn (σ 22) (τ 27 a0 + τ 27 b0) := by unfold gJ; rw [e]
    have eb : bpm σ τ nw nl p = nI (a0 * 100 + b0) := by unfold bpm; rw [e]
    refine ⟨g1, a0, b0, ha, hb, by unfold Am; rw [eb]; exact pr_div (by omega) (by omega), by unfold Bm; rw [eb]; exact pr_rem (by omega) (by omega), ⟨hq, ?_⟩, fun a b ha2 hb2 hq2 hc => ?_⟩
    · rw [← eJ, ← e2]
      exact g3.symm
    · rw [← e2] at hc
      have hc2 := (pp_iff (J := τ 29) I hp ha2 hb2 hne).mp hc
      rcases (show (a = a0 ∧ b = b0) ∨ lexB nw a b a0 b0 ∨ lexB nw a0 b0 a b by unfold lexB; omega) with q | q | q
      · exact Or.inl q
      · exact Or.inr q
      · have := f4 a b q hq2
        rw [hc2, eJ] at this
        exact (i_irr this).elim
end
set_option maxRecDepth 100000 in
theorem mwX1_single_inM : ∀ w ∈ wsX10, w ∈ wsX1_single := by decide +kernel
set_option maxRecDepth 100000 in
theorem mwX1_single_f48 : Cond.fieldLink RX1 48 "TelegraphPricesModel" "words" "I" ∈ wsX1_single := by decide +kernel
set_option maxRecDepth 100000 in
theorem mwX1_single_f23 : Cond.fieldLink RX1 23 "TelegraphPricesModel" "stand" "[I" ∈ wsX1_single := by decide +kernel
set_option maxRecDepth 100000 in
theorem mwX1_single_f29 : Cond.fieldLink RX1 29 "TelegraphPricesModel" "word" "[I" ∈ wsX1_single := by decide +kernel
set_option maxRecDepth 100000 in
theorem mwX1_single_f19 : Cond.fieldLink RX1 19 "TelegraphPricesModel" "letters" "[I" ∈ wsX1_single := by decide +kernel
set_option maxRecDepth 100000 in
theorem mwX1_single_f36 : Cond.fieldLink RX1 36 "TelegraphPricesModel" "from" "[I" ∈ wsX1_single := by decide +kernel
set_option maxHeartbeats 4000000 in
set_option maxRecDepth 100000 in
theorem m_single {l : Launch} (hl : l.stackTraces = false) (Γ : gG) (σ : gS) (τ : gT) (o : gO) (nw nl lm : Nat) (p : Nat) (I : IM σ τ nw nl lm) (hp : p < nl) (hF : ∀ q, q ≤ nl → τ 33 q = FM σ τ nw nl (nl - q)) : Ct l yX1_single wsX1_single 2 64 0 0 [.ref (Γ.2.1 101), .int (nI p)] Γ σ τ o (pE (some (.int (sgm σ τ nw nl p))) σ τ o) (noX) := by
  refine ct_of hl (by decide +kernel) rfl (Nat.le_of_ble_eq_true rfl) ?_
  intro E C F T hΓ hL R
  subst hΓ
  subst hL
  show G E 0 0 0 [(0, .ref ((eG E).2.1 101)), (1, .int (nI p))] [] σ τ o
  have hnw := Iv_nw I
  have hnl := Iv_nl I
  have h3 : σ 21 = nI nw := Iv_h3 I
  have h9 : σ 30 = nI nl := Iv_h9 I
  have h4 : ¬ σ 22 = 0 := Iv_ne I
  have loop : ∀ m a : Nat, a + m = nw → (∀ b, b < a → ¬ (mh nl (τ 28) (τ 31) p (nI b) ≠ 0 ∧ cn (σ 22) (τ 27 b) + FM σ τ nw nl (nl - (p + 1)) = FM σ τ nw nl (nl - p))) → G E 0 0 2 [(2, .int (nI a)), (0, .ref ((eG E).2.1 101)), (1, .int (nI p))] [] σ τ o := by
    intro m
    induction m with
    | zero =>
      intro a ha hno
      refine g_iload_n C dX1_single_2 rfl rfl ?_
      refine g_aload_n C dX1_single_3 rfl rfl ?_
      refine g_getM C 1 dX1_single_4 mwX1_single_inM (by decide) mwX1_single_f48 rfl rfl ?_
      refine g_icmp_ge (tgt := 64) C dX1_single_7 (by decide) (fun c_7 => ?_) (fun c_7 => ?_)
      · refine g_iconst (v := (-1)) C dX1_single_64 (by decide) ?_
        exact g_iret C F dX1_single_65 (by decide) (by decide) ⟨by rw [sg_none I hp (fun b hb9 => hno b (by omega))], rfl, rfl, rfl⟩
      · exact absurd (by rw [h3]; exact nI_le (by omega) (by omega)) c_7
    | succ m ih =>
      intro a ha hno
      refine g_iload_n C dX1_single_2 rfl rfl ?_
      refine g_aload_n C dX1_single_3 rfl rfl ?_
      refine g_getM C 1 dX1_single_4 mwX1_single_inM (by decide) mwX1_single_f48 rfl rfl ?_
      refine g_icmp_ge (tgt := 64) C dX1_single_7 (by decide) (fun c_7 => ?_) (fun c_7 => ?_)
      · exact absurd (by rw [h3] at c_7; exact c_7) (nI_ge (by omega) (by omega))
      · refine g_aload_n C dX1_single_10 rfl rfl ?_
        refine g_getM C 8 dX1_single_11 mwX1_single_inM (by decide) mwX1_single_f23 rfl rfl ?_
        refine g_aload_n C dX1_single_14 rfl rfl ?_
        refine g_getM C 11 dX1_single_15 mwX1_single_inM (by decide) mwX1_single_f29 rfl rfl ?_
        refine g_iload_n C dX1_single_18 rfl rfl ?_
        refine g_ialdN C (p) dX1_single_19 rfl rfl (show p < 16 by omega) (by decide) ?_
        refine g_iald C dX1_single_20 rfl (Iv_tin I hp) ?_
        refine g_iload_n C dX1_single_21 rfl rfl ?_
        refine g_callSEi (na := 2) C dX1_single_22 (m_has hl (eG E) σ τ o _ _) gX1_single_X1_has rfl rfl (by decide +kernel) rfl (Nat.le_of_ble_eq_true rfl) (by rw [R]; exact ⟨by decide, by decide⟩) (by rw [R]; exact ⟨by decide, by decide⟩) ?_
        rw [mh_in hp]
        refine g_if_eq (tgt := 58) C dX1_single_25 (by decide) (fun c_25 => ?_) (fun c_25 => ?_)
        · have hn : ¬ (mh nl (τ 28) (τ 31) p (nI a) ≠ 0 ∧ cn (σ 22) (τ 27 a) + FM σ τ nw nl (nl - (p + 1)) = FM σ τ nw nl (nl - p)) := fun z => z.1 c_25
          refine g_iinc C 0 [(2, _), (0, _), (1, _)] dX1_single_58 rfl (nI_i1 a) (by decide) rfl ?_
          refine g_goto (tgt := 2) C dX1_single_61 (by decide) ?_
          refine ih (a + 1) (by omega) (fun b hb9 => ?_)
          rcases (show b < a ∨ b = a by omega) with q | q
          · exact hno b q
          · rw [q]; exact hn
        · refine g_aload_n C dX1_single_28 rfl rfl ?_
          refine g_aload_n C dX1_single_29 rfl rfl ?_
          refine g_getM C 7 dX1_single_30 mwX1_single_inM (by decide) mwX1_single_f19 rfl rfl ?_
          refine g_iload_n C dX1_single_33 rfl rfl ?_
          refine g_ialdN C (a) dX1_single_34 rfl rfl (show a < 12 by omega) (by decide) ?_
          refine g_callVEi (Cl := RX1) (T := TX1) (N := 16) (ci := 1) (q0 := 12) (na := 1) C dX1_single_35 (m_counts hl (eG E) σ τ o _ h4) gX1_single_X1_counts rfl rfl (by decide +kernel) rfl rfl rfl (Nat.le_of_ble_eq_true rfl) (by rw [R]; exact ⟨by decide, by decide⟩) (by rw [R]; exact ⟨by decide, by decide⟩) ?_
          refine g_aload_n C dX1_single_38 rfl rfl ?_
          refine g_getM C 13 dX1_single_39 mwX1_single_inM (by decide) mwX1_single_f36 rfl rfl ?_
          refine g_iload_n C dX1_single_42 rfl rfl ?_
          refine g_iconst (v := 1) C dX1_single_43 (by decide) ?_
          refine g_iadd C dX1_single_44 ?_
          refine g_ialdN C (p + 1) dX1_single_45 rfl (nI_1 p) (show p + 1 < 18 by omega) (by decide) ?_
          rw [hF (p + 1) hp]
          refine g_iadd C dX1_single_46 ?_
          refine g_aload_n C dX1_single_47 rfl rfl ?_
          refine g_getM C 13 dX1_single_48 mwX1_single_inM (by decide) mwX1_single_f36 rfl rfl ?_
          refine g_iload_n C dX1_single_51 rfl rfl ?_
          refine g_ialdN C (p) dX1_single_52 rfl rfl (show p < 18 by omega) (by decide) ?_
          rw [hF p (by omega)]
          refine g_icmp_ne (tgt := 58) C dX1_single_53 (by decide) (fun c_53 => ?_) (fun c_53 => ?_)
          · have hn : ¬ (mh nl (τ 28) (τ 31) p (nI a) ≠ 0 ∧ cn (σ 22) (τ 27 a) + FM σ τ nw nl (nl - (p + 1)) = FM σ τ nw nl (nl - p)) := fun z => c_53 z.2
            refine g_iinc C 0 [(2, _), (0, _), (1, _)] dX1_single_58 rfl (nI_i1 a) (by decide) rfl ?_
            refine g_goto (tgt := 2) C dX1_single_61 (by decide) ?_
            refine ih (a + 1) (by omega) (fun b hb9 => ?_)
            rcases (show b < a ∨ b = a by omega) with q | q
            · exact hno b q
            · rw [q]; exact hn
          · refine g_iload_n C dX1_single_56 rfl rfl ?_
            exact g_iret C F dX1_single_57 (by decide) (by decide) ⟨by rw [sg_found I hp (by omega) c_25 c_53 hno], rfl, rfl, rfl⟩
  refine g_iconst (v := 0) C dX1_single_0 (by decide) ?_
  refine g_istore_n C [(2, _), (0, _), (1, _)] dX1_single_1 rfl (by decide) rfl ?_
  exact loop nw 0 (Nat.zero_add _) (fun b hb9 => absurd hb9 (Nat.not_lt_zero b))
set_option maxRecDepth 100000 in
theorem mwX1_pair_inM : ∀ w ∈ wsX10, w ∈ wsX1_pair := by decide +kernel
set_option maxRecDepth 100000 in
theorem mwX1_pair_f48 : Cond.fieldLink RX1 48 "TelegraphPricesModel" "words" "I" ∈ wsX1_pair := by decide +kernel
set_option maxRecDepth 100000 in
theorem mwX1_pair_f23 : Cond.fieldLink RX1 23 "TelegraphPricesModel" "stand" "[I" ∈ wsX1_pair := by decide +kernel
set_option maxRecDepth 100000 in
theorem mwX1_pair_f29 : Cond.fieldLink RX1 29 "TelegraphPricesModel" "word" "[I" ∈ wsX1_pair := by decide +kernel
set_option maxRecDepth 100000 in
theorem mwX1_pair_f26 : Cond.fieldLink RX1 26 "TelegraphPricesModel" "join" "[I" ∈ wsX1_pair := by decide +kernel
set_option maxRecDepth 100000 in
theorem mwX1_pair_f19 : Cond.fieldLink RX1 19 "TelegraphPricesModel" "letters" "[I" ∈ wsX1_pair := by decide +kernel
set_option maxRecDepth 100000 in
theorem mwX1_pair_f36 : Cond.fieldLink RX1 36 "TelegraphPricesModel" "from" "[I" ∈ wsX1_pair := by decide +kernel
set_option maxRecDepth 100000 in
theorem mwX1_pair_f39 : Cond.fieldLink RX1 39 "TelegraphPricesModel" "cheap" "[I" ∈ wsX1_pair := by decide +kernel
set_option maxHeartbeats 4000000 in
set_option maxRecDepth 100000 in
theorem m_pair {l : Launch} (hl : l.stackTraces = false) (Γ : gG) (σ : gS) (τ : gT) (o : gO) (nw nl lm : Nat) (p : Nat) (I : IM σ τ nw nl lm) (hp : p < nl) (hpr : prm σ τ nw nl p = true) (hF : ∀ q, q ≤ nl → τ 33 q = FM σ τ nw nl (nl - q)) : Ct l yX1_pair wsX1_pair 2 64 0 0 [.ref (Γ.2.1 101), .int (nI p)] Γ σ τ o (pE none σ (uT (uT τ 34 p (Am σ τ nw nl p)) 34 (p + 1) (Bm σ τ nw nl p)) o) (noX) := by
  refine ct_of hl (by decide +kernel) rfl (Nat.le_of_ble_eq_true rfl) ?_
  intro E C F T hΓ hL R
  subst hΓ
  subst hL
  show G E 0 0 0 [(0, .ref ((eG E).2.1 101)), (1, .int (nI p))] [] σ τ o
  have hnw := Iv_nw I
  have hnl := Iv_nl I
  have h3 : σ 21 = nI nw := Iv_h3 I
  have h9 : σ 30 = nI nl := Iv_h9 I
  have h4 : ¬ σ 22 = 0 := Iv_ne I
  obtain ⟨hp1, a0, b0, ha0, hb0, eA, eB, hq0, huni⟩ := pr_fin I hp hpr
  have loop : ∀ m a : Nat, a + m = nw → (∀ a' b', lexB nw a 0 a' b' → ¬ (pq nl (τ 28) (τ 29) (τ 31) p a' b' ∧ cn (σ 22) (τ 27 a' + τ 27 b') + FM σ τ nw nl (nl - (p + 2)) = FM σ τ nw nl (nl - p))) → G E 0 0 2 [(2, .int (nI a)), (0, .ref ((eG E).2.1 101)), (1, .int (nI p))] [] σ τ o := by
    intro m
    induction m with
    | zero =>
      intro a ha hno
      exact absurd hq0 (hno a0 b0 (Or.inl ⟨by omega, hb0⟩))
    | succ m ih =>
      intro a ha hno
      have inner : mh nl (τ 28) (τ 31) p (nI a) ≠ 0 → ∀ k b : Nat, b + k = nw → (∀ a' b', lexB nw a b a' b' → ¬ (pq nl (τ 28) (τ 29) (τ 31) p a' b' ∧ cn (σ 22) (τ 27 a' + τ 27 b') + FM σ τ nw nl (nl - (p + 2)) = FM σ τ nw nl (nl - p))) → G E 0 0 33 [(3, .int (nI b)), (2, .int (nI a)), (0, .ref ((eG E).2.1 101)), (1, .int (nI p))] [] σ τ o := by
        intro hm k
        induction k with
        | zero =>
          intro b hb9 hno2
          refine g_iload_n C dX1_pair_33 rfl rfl ?_
          refine g_aload_n C dX1_pair_34 rfl rfl ?_
          refine g_getM C 1 dX1_pair_35 mwX1_pair_inM (by decide) mwX1_pair_f48 rfl rfl ?_
          refine g_icmp_ge (tgt := 135) C dX1_pair_38 (by decide) (fun c_38 => ?_) (fun c_38 => ?_)
          · refine g_iinc C 1 [(2, _), (3, _), (0, _), (1, _)] dX1_pair_135 rfl (nI_i1 a) (by decide) rfl ?_
            refine g_goto (tgt := 2) C dX1_pair_138 (by decide) ?_
            refine g_lv [0, 2, 3] [(2, _), (0, _), (1, _)] rfl ?_
            exact ih (a + 1) (by omega) (fun a' b' h => hno2 a' b' (by rw [show b = nw by omega]; exact lexB_r h))
          · exact absurd (by rw [h3]; exact nI_le (by omega) (by omega)) c_38
        | succ k ih2 =>
          intro b hb9 hno2
          refine g_iload_n C dX1_pair_33 rfl rfl ?_
          refine g_aload_n C dX1_pair_34 rfl rfl ?_
          refine g_getM C 1 dX1_pair_35 mwX1_pair_inM (by decide) mwX1_pair_f48 rfl rfl ?_
          refine g_icmp_ge (tgt := 135) C dX1_pair_38 (by decide) (fun c_38 => ?_) (fun c_38 => ?_)
          · exact absurd (by rw [h3] at c_38; exact c_38) (nI_ge (by omega) (by omega))
          · refine g_aload_n C dX1_pair_41 rfl rfl ?_
            refine g_getM C 8 dX1_pair_42 mwX1_pair_inM (by decide) mwX1_pair_f23 rfl rfl ?_
            refine g_aload_n C dX1_pair_45 rfl rfl ?_
            refine g_getM C 11 dX1_pair_46 mwX1_pair_inM (by decide) mwX1_pair_f29 rfl rfl ?_
            refine g_iload_n C dX1_pair_49 rfl rfl ?_
            refine g_iconst (v := 1) C dX1_pair_50 (by decide) ?_
            refine g_iadd C dX1_pair_51 ?_
            refine g_ialdN C (p + 1) dX1_pair_52 rfl (nI_1 p) (show p + 1 < 16 by omega) (by decide) ?_
            refine g_iald C dX1_pair_53 rfl (Iv_tin I hp1) ?_
            refine g_iload_n C dX1_pair_54 rfl rfl ?_
            refine g_callSEi (na := 2) C dX1_pair_55 (m_has hl (eG E) σ τ o _ _) gX1_pair_X1_has rfl rfl (by decide +kernel) rfl (Nat.le_of_ble_eq_true rfl) (by rw [R]; exact ⟨by decide, by decide⟩) (by rw [R]; exact ⟨by decide, by decide⟩) ?_
            rw [mh_in hp1]
            refine g_if_eq (tgt := 129) C dX1_pair_58 (by decide) (fun c_58 => ?_) (fun c_58 => ?_)
            · have hn : ¬ (pq nl (τ 28) (τ 29) (τ 31) p a b ∧ cn (σ 22) (τ 27 a + τ 27 b) + FM σ τ nw nl (nl - (p + 2)) = FM σ τ nw nl (nl - p)) := fun z => z.1.2.1 c_58
              refine g_iinc C 0 [(3, _), (2, _), (0, _), (1, _)] dX1_pair_129 rfl (nI_i1 b) (by decide) rfl ?_
              refine g_goto (tgt := 33) C dX1_pair_132 (by decide) ?_
              refine ih2 (b + 1) (by omega) (fun a' b' h => ?_)
              rcases lexB_s h with q | ⟨q1, q2⟩
              · exact hno2 a' b' q
              · rw [q1, q2]; exact hn
            · refine g_aload_n C dX1_pair_61 rfl rfl ?_
              refine g_getM C 9 dX1_pair_62 mwX1_pair_inM (by decide) mwX1_pair_f26 rfl rfl ?_
              refine g_iload_n C dX1_pair_65 rfl rfl ?_
              refine g_ialdN C (a) dX1_pair_66 rfl rfl (show a < 12 by omega) (by decide) ?_
              refine g_iload_n C dX1_pair_67 rfl rfl ?_
              refine g_callSEi (na := 2) C dX1_pair_68 (m_has hl (eG E) σ τ o _ _) gX1_pair_X1_has rfl rfl (by decide +kernel) rfl (Nat.le_of_ble_eq_true rfl) (by rw [R]; exact ⟨by decide, by decide⟩) (by rw [R]; exact ⟨by decide, by decide⟩) ?_
              refine g_if_eq (tgt := 129) C dX1_pair_71 (by decide) (fun c_71 => ?_) (fun c_71 => ?_)
              · have hn : ¬ (pq nl (τ 28) (τ 29) (τ 31) p a b ∧ cn (σ 22) (τ 27 a + τ 27 b) + FM σ τ nw nl (nl - (p + 2)) = FM σ τ nw nl (nl - p)) := fun z => z.1.2.2 c_71
                refine g_iinc C 0 [(3, _), (2, _), (0, _), (1, _)] dX1_pair_129 rfl (nI_i1 b) (by decide) rfl ?_
                refine g_goto (tgt := 33) C dX1_pair_132 (by decide) ?_
                refine ih2 (b + 1) (by omega) (fun a' b' h => ?_)
                rcases lexB_s h with q | ⟨q1, q2⟩
                · exact hno2 a' b' q
                · rw [q1, q2]; exact hn
              · refine g_aload_n C dX1_pair_74 rfl rfl ?_
                refine g_aload_n C dX1_pair_75 rfl rfl ?_
                refine g_getM C 7 dX1_pair_76 mwX1_pair_inM (by decide) mwX1_pair_f19 rfl rfl ?_
                refine g_iload_n C dX1_pair_79 rfl rfl ?_
                refine g_ialdN C (a) dX1_pair_80 rfl rfl (show a < 12 by omega) (by decide) ?_
                refine g_aload_n C dX1_pair_81 rfl rfl ?_
                refine g_getM C 7 dX1_pair_82 mwX1_pair_inM (by decide) mwX1_pair_f19 rfl rfl ?_
                refine g_iload_n C dX1_pair_85 rfl rfl ?_
                refine g_ialdN C (b) dX1_pair_86 rfl rfl (show b < 12 by omega) (by decide) ?_
                refine g_iadd C dX1_pair_87 ?_
                refine g_callVEi (Cl := RX1) (T := TX1) (N := 16) (ci := 1) (q0 := 12) (na := 1) C dX1_pair_88 (m_counts hl (eG E) σ τ o _ h4) gX1_pair_X1_counts rfl rfl (by decide +kernel) rfl rfl rfl (Nat.le_of_ble_eq_true rfl) (by rw [R]; exact ⟨by decide, by decide⟩) (by rw [R]; exact ⟨by decide, by decide⟩) ?_
                refine g_aload_n C dX1_pair_91 rfl rfl ?_
                refine g_getM C 13 dX1_pair_92 mwX1_pair_inM (by decide) mwX1_pair_f36 rfl rfl ?_
                refine g_iload_n C dX1_pair_95 rfl rfl ?_
                refine g_iconst (v := 2) C dX1_pair_96 (by decide) ?_
                refine g_iadd C dX1_pair_97 ?_
                refine g_ialdN C (p + 2) dX1_pair_98 rfl (nI_add p 2) (show p + 2 < 18 by omega) (by decide) ?_
                rw [hF (p + 2) (by omega)]
                refine g_iadd C dX1_pair_99 ?_
                refine g_aload_n C dX1_pair_100 rfl rfl ?_
                refine g_getM C 13 dX1_pair_101 mwX1_pair_inM (by decide) mwX1_pair_f36 rfl rfl ?_
                refine g_iload_n C dX1_pair_104 rfl rfl ?_
                refine g_ialdN C (p) dX1_pair_105 rfl rfl (show p < 18 by omega) (by decide) ?_
                rw [hF p (by omega)]
                refine g_icmp_eq (tgt := 112) C dX1_pair_106 (by decide) (fun c_106 => ?_) (fun c_106 => ?_)
                · have hab : a = a0 ∧ b = b0 := (huni a b (by omega) (by omega) ⟨hm, c_58, c_71⟩ c_106).resolve_right (fun z => hno2 a0 b0 z hq0)
                  refine g_aload_n C dX1_pair_112 rfl rfl ?_
                  refine g_getM C 14 dX1_pair_113 mwX1_pair_inM (by decide) mwX1_pair_f39 rfl rfl ?_
                  refine g_iload_n C dX1_pair_116 rfl rfl ?_
                  refine g_iload_n C dX1_pair_117 rfl rfl ?_
                  refine g_iastN C (p) dX1_pair_118 rfl rfl (show p < 16 by omega) (by decide) rfl ?_
                  refine g_aload_n C dX1_pair_119 rfl rfl ?_
                  refine g_getM C 14 dX1_pair_120 mwX1_pair_inM (by decide) mwX1_pair_f39 rfl rfl ?_
                  refine g_iload_n C dX1_pair_123 rfl rfl ?_
                  refine g_iconst (v := 1) C dX1_pair_124 (by decide) ?_
                  refine g_iadd C dX1_pair_125 ?_
                  refine g_iload_n C dX1_pair_126 rfl rfl ?_
                  refine g_iastN C (p + 1) dX1_pair_127 rfl (nI_1 p) (show p + 1 < 16 by omega) (by decide) rfl ?_
                  exact g_vret C F dX1_pair_128 (by decide) (by decide) ⟨rfl, rfl, by rw [eA, eB, hab.1, hab.2], rfl⟩
                · have hn : ¬ (pq nl (τ 28) (τ 29) (τ 31) p a b ∧ cn (σ 22) (τ 27 a + τ 27 b) + FM σ τ nw nl (nl - (p + 2)) = FM σ τ nw nl (nl - p)) := fun z => c_106 z.2
                  refine g_goto (tgt := 129) C dX1_pair_109 (by decide) ?_
                  refine g_iinc C 0 [(3, _), (2, _), (0, _), (1, _)] dX1_pair_129 rfl (nI_i1 b) (by decide) rfl ?_
                  refine g_goto (tgt := 33) C dX1_pair_132 (by decide) ?_
                  refine ih2 (b + 1) (by omega) (fun a' b' h => ?_)
                  rcases lexB_s h with q | ⟨q1, q2⟩
                  · exact hno2 a' b' q
                  · rw [q1, q2]; exact hn
      refine g_iload_n C dX1_pair_2 rfl rfl ?_
      refine g_aload_n C dX1_pair_3 rfl rfl ?_
      refine g_getM C 1 dX1_pair_4 mwX1_pair_inM (by decide) mwX1_pair_f48 rfl rfl ?_
      refine g_icmp_ge (tgt := 141) C dX1_pair_7 (by decide) (fun c_7 => ?_) (fun c_7 => ?_)
      · exact absurd (by rw [h3] at c_7; exact c_7) (nI_ge (by omega) (by omega))
      · refine g_aload_n C dX1_pair_10 rfl rfl ?_
        refine g_getM C 8 dX1_pair_11 mwX1_pair_inM (by decide) mwX1_pair_f23 rfl rfl ?_
        refine g_aload_n C dX1_pair_14 rfl rfl ?_
        refine g_getM C 11 dX1_pair_15 mwX1_pair_inM (by decide) mwX1_pair_f29 rfl rfl ?_
        refine g_iload_n C dX1_pair_18 rfl rfl ?_
        refine g_ialdN C (p) dX1_pair_19 rfl rfl (show p < 16 by omega) (by decide) ?_
        refine g_iald C dX1_pair_20 rfl (Iv_tin I hp) ?_
        refine g_iload_n C dX1_pair_21 rfl rfl ?_
        refine g_callSEi (na := 2) C dX1_pair_22 (m_has hl (eG E) σ τ o _ _) gX1_pair_X1_has rfl rfl (by decide +kernel) rfl (Nat.le_of_ble_eq_true rfl) (by rw [R]; exact ⟨by decide, by decide⟩) (by rw [R]; exact ⟨by decide, by decide⟩) ?_
        rw [mh_in hp]
        refine g_if_ne (tgt := 31) C dX1_pair_25 (by decide) (fun c_25 => ?_) (fun c_25 => ?_)
        · refine g_iconst (v := 0) C dX1_pair_31 (by decide) ?_
          refine g_istore_n C [(3, _), (2, _), (0, _), (1, _)] dX1_pair_32 rfl (by decide) rfl ?_
          exact inner c_25 nw 0 (Nat.zero_add _) hno
        · refine g_goto (tgt := 135) C dX1_pair_28 (by decide) ?_
          refine g_iinc C 0 [(2, _), (0, _), (1, _)] dX1_pair_135 rfl (nI_i1 a) (by decide) rfl ?_
          refine g_goto (tgt := 2) C dX1_pair_138 (by decide) ?_
          refine ih (a + 1) (by omega) (fun a' b' h => ?_)
          rcases lexB_r h with q | ⟨q1, q2⟩
          · exact hno a' b' (Or.inl q)
          · rw [q1]; exact fun z => z.1.1 c_25
  refine g_iconst (v := 0) C dX1_pair_0 (by decide) ?_
  refine g_istore_n C [(2, _), (0, _), (1, _)] dX1_pair_1 rfl (by decide) rfl ?_
  exact loop nw 0 (Nat.zero_add _) (fun a' b' h => by unfold lexB at h; omega)
theorem uT_comm {τ : gT} {c c' i j : Nat} {x y : Int32} (h : c ≠ c') : uT (uT τ c i x) c' j y = uT (uT τ c' j y) c i x := by
  funext a
  by_cases e : a = c'
  · subst e
    rw [uT_eq, uT_ne h.symm, uT_ne h.symm, uT_eq]
  · by_cases e2 : a = c
    · subst e2
      rw [uT_ne e, uT_eq, uT_eq, uT_ne e]
    · rw [uT_ne e, uT_ne e2, uT_ne e2, uT_ne e]
abbrev CWm (σ : gS) (τ : gT) (nw nl : Nat) : Nat → Int32 := cwd (prm σ τ nw nl) (Sm σ τ nw nl) (Am σ τ nw nl) (Bm σ τ nw nl)
def CM (σ : gS) (τ : gT) (nw nl p : Nat) (τ' : gT) : Prop := MS τ τ' ∧ (∀ q, q ≤ nl → τ' 33 q = FM σ τ nw nl (nl - q)) ∧ (∀ i, τ' 35 i = 0 ∨ τ' 35 i = 1) ∧ ∀ q, q < p → τ' 34 q = CWm σ τ nw nl q ∧ τ' 35 q = cjd (prm σ τ nw nl) q
theorem CM_put {σ : gS} {τ τ' : gT} {nw nl p : Nat} {w x : Int32} (h : CM σ τ nw nl p τ') (hw : w = CWm σ τ nw nl p) (hx : x = cjd (prm σ τ nw nl) p) : CM σ τ nw nl (p + 1) (uT (uT τ' 35 p x) 34 p w) := by
  obtain ⟨h1, h3, h4, h5⟩ := h
  refine ⟨fun c hc => by rw [uT_ne (by omega), uT_ne (by omega), h1 c hc], fun q hq => by rw [uT_ne (by omega), uT_ne (by omega)]; exact h3 q hq, fun i => ?_, fun q hq => ?_⟩
  · rw [uT_ne (show (35 : Nat) ≠ 34 by decide), uT_eq]
    exact upd_01 h4 (by rw [hx]; exact cjd_01 _ _) i
  · rw [uT_eq, uT_ne (show (34 : Nat) ≠ 35 by decide), uT_ne (show (35 : Nat) ≠ 34 by decide), uT_eq]
    by_cases e : q = p
    · subst e
      rw [upd_eq, upd_eq]
      exact ⟨hw, hx⟩
    · rw [upd_ne e, upd_ne e]
      exact h5 q (by omega)
set_option maxRecDepth 100000 in
theorem mwX1_choose_inM : ∀ w ∈ wsX10, w ∈ wsX1_choose := by decide +kernel
set_option maxRecDepth 100000 in
theorem mwX1_choose_f55 : Cond.fieldLink RX1 55 "TelegraphPricesModel" "length" "I" ∈ wsX1_choose := by decide +kernel
set_option maxRecDepth 100000 in
theorem mwX1_choose_f42 : Cond.fieldLink RX1 42 "TelegraphPricesModel" "with" "[Z" ∈ wsX1_choose := by decide +kernel
set_option maxRecDepth 100000 in
theorem mwX1_choose_f39 : Cond.fieldLink RX1 39 "TelegraphPricesModel" "cheap" "[I" ∈ wsX1_choose := by decide +kernel
set_option maxHeartbeats 4000000 in
set_option maxRecDepth 100000 in
theorem m_choose {l : Launch} (hl : l.stackTraces = false) (Γ : gG) (σ : gS) (τ : gT) (o : gO) (nw nl lm : Nat) (I : IM σ τ nw nl lm) : Ct l yX1_choose wsX1_choose 4 128 0 0 [.ref (Γ.2.1 101)] Γ σ τ o (pV (fun σ' τ' o' => σ' = σ ∧ o' = o ∧ CM σ τ nw nl nl τ')) (noX) := by
  refine ct_of hl (by decide +kernel) rfl (Nat.le_of_ble_eq_true rfl) ?_
  intro E C F T hΓ hL R
  subst hΓ
  subst hL
  show G E 0 0 0 [(0, .ref ((eG E).2.1 101))] [] σ τ o
  have hnw := Iv_nw I
  have hnl := Iv_nl I
  have h3 : σ 21 = nI nw := Iv_h3 I
  have h9 : σ 30 = nI nl := Iv_h9 I
  have h4 : ¬ σ 22 = 0 := Iv_ne I
  have fin : ∀ τ' : gT, CM σ τ nw nl nl τ' → G E (0 + 0) (0 + 0) 7 [(1, .int (nI nl)), (0, .ref ((eG E).2.1 101))] [] σ τ' o := by
    intro τ' hN
    refine g_iload_n C dX1_choose_7 rfl rfl ?_
    refine g_aload_n C dX1_choose_8 rfl rfl ?_
    refine g_getM C 10 dX1_choose_9 mwX1_choose_inM (by decide) mwX1_choose_f55 rfl rfl ?_
    refine g_icmp_ge (tgt := 75) C dX1_choose_12 (by decide) (fun c_12 => ?_) (fun c_12 => ?_)
    · exact g_vret C F dX1_choose_75 (by decide) (by decide) ⟨rfl, rfl, rfl, hN⟩
    · exact absurd (by rw [h9]; exact i_rf _) c_12
  have loop : ∀ m p : Nat, ∀ τ' : gT, p ≤ nl → nl - p ≤ m → isSec (prm σ τ nw nl) p = false → CM σ τ nw nl p τ' → G E (0 + 0) (0 + 0) 7 [(1, .int (nI p)), (0, .ref ((eG E).2.1 101))] [] σ τ' o := by
    intro m
    induction m with
    | zero =>
      intro p τ' hp hm hs hN
      have e : p = nl := by omega
      subst e
      exact fin τ' hN
    | succ m ih =>
      intro p τ' hp hm hs hN
      rcases Nat.lt_or_ge p nl with hpl | hpl
      rotate_left
      · have e : p = nl := by omega
        subst e
        exact fin τ' hN
      have hM := hN.1
      have I1 : IM σ τ' nw nl lm := IM_cong I hM hN.2.2.1
      have hF1 : ∀ q, q ≤ nl → τ' 33 q = FM σ τ' nw nl (nl - q) := fun q hq => by rw [FM_s hM]; exact hN.2.1 q hq
      have hT2 : MS τ (uT τ' 35 p 1) := MS_tr hM (MS_u (by decide) (by decide))
      have I2 : IM σ (uT τ' 35 p 1) nw nl lm := IM_cong I hT2 (fun i => by rw [uT_eq]; exact upd_01 hN.2.2.1 (Or.inr rfl) i)
      have hF2 : ∀ q, q ≤ nl → uT τ' 35 p 1 33 q = FM σ (uT τ' 35 p 1) nw nl (nl - q) := fun q hq => by rw [FM_s hT2, uT_ne (by decide)]; exact hN.2.1 q hq
      have eS : sgm σ τ' nw nl p = sgm σ τ nw nl p := by unfold sgm; rw [prm_s hM, Sm_s hM]
      refine g_iload_n C dX1_choose_7 rfl rfl ?_
      refine g_aload_n C dX1_choose_8 rfl rfl ?_
      refine g_getM C 10 dX1_choose_9 mwX1_choose_inM (by decide) mwX1_choose_f55 rfl rfl ?_
      refine g_icmp_ge (tgt := 75) C dX1_choose_12 (by decide) (fun c_12 => ?_) (fun c_12 => ?_)
      · exact absurd (by rw [h9] at c_12; exact c_12) (nI_ge (by omega) (by omega))
      · refine g_aload_n C dX1_choose_15 rfl rfl ?_
        refine g_iload_n C dX1_choose_16 rfl rfl ?_
        refine g_callVEi (Cl := RX1) (T := TX1) (N := 16) (ci := 1) (q0 := 12) (na := 1) C dX1_choose_17 (m_single hl (eG E) σ τ' o nw nl lm p I1 hpl hF1) gX1_choose_X1_single rfl rfl (by decide +kernel) rfl rfl rfl (Nat.le_of_ble_eq_true rfl) (by rw [R]; exact ⟨by decide, by decide⟩) (by rw [R]; exact ⟨by decide, by decide⟩) ?_
        rw [eS]
        refine g_istore_n C [(2, _), (1, _), (0, _)] dX1_choose_20 rfl (by decide) rfl ?_
        refine g_aload_n C dX1_choose_21 rfl rfl ?_
        refine g_getM C 15 dX1_choose_22 mwX1_choose_inM (by decide) mwX1_choose_f42 rfl rfl ?_
        refine g_iload_n C dX1_choose_25 rfl rfl ?_
        refine g_iload_n C dX1_choose_26 rfl rfl ?_
        refine g_iconst (v := (-1)) C dX1_choose_27 (by decide) ?_
        refine g_icmp_ne (tgt := 35) C dX1_choose_28 (by decide) (fun c_28 => ?_) (fun c_28 => ?_)
        · have hpr : prm σ τ nw nl p = false := by
            cases h : prm σ τ nw nl p with
            | false => rfl
            | true => exact absurd (by unfold sgm; rw [if_pos h]) c_28
          refine g_iconst (v := 0) C dX1_choose_35 (by decide) ?_
          refine g_zastN C (p) dX1_choose_36 rfl rfl (show p < 16 by omega) (by decide) (by first | exact Or.inl rfl | exact Or.inr rfl) rfl ?_
          refine g_iload_n C dX1_choose_37 rfl rfl ?_
          refine g_iconst (v := (-1)) C dX1_choose_38 (by decide) ?_
          refine g_icmp_eq (tgt := 55) C dX1_choose_39 (by decide) (fun c_39 => ?_) (fun c_39 => ?_)
          · exact absurd c_39 c_28
          · refine g_aload_n C dX1_choose_42 rfl rfl ?_
            refine g_getM C 14 dX1_choose_43 mwX1_choose_inM (by decide) mwX1_choose_f39 rfl rfl ?_
            refine g_iload_n C dX1_choose_46 rfl rfl ?_
            refine g_iload_n C dX1_choose_47 rfl rfl ?_
            refine g_iastN C (p) dX1_choose_48 rfl rfl (show p < 16 by omega) (by decide) rfl ?_
            refine g_iinc C 1 [(1, _), (2, _), (0, _)] dX1_choose_49 rfl (nI_i1 p) (by decide) rfl ?_
            refine g_goto (tgt := 72) C dX1_choose_52 (by decide) ?_
            refine g_goto (tgt := 7) C dX1_choose_72 (by decide) ?_
            refine g_lv [0, 2] [(1, _), (0, _)] rfl ?_
            obtain ⟨g1, g2, g3⟩ := cw_S (S := Sm σ τ nw nl) (A := Am σ τ nw nl) (B := Bm σ τ nw nl) hs hpr
            exact ih (p + 1) _ (by omega) (by omega) g3 (CM_put hN (by rw [(sgm_ne I hpl hpr).1]; exact g1.symm) g2.symm)
        · have hpr : prm σ τ nw nl p = true := by
            cases h : prm σ τ nw nl p with
            | true => rfl
            | false => exact absurd c_28 (sgm_ne I hpl h).2
          refine g_iconst (v := 1) C dX1_choose_31 (by decide) ?_
          refine g_goto (tgt := 36) C dX1_choose_32 (by decide) ?_
          refine g_zastN C (p) dX1_choose_36 rfl rfl (show p < 16 by omega) (by decide) (by first | exact Or.inl rfl | exact Or.inr rfl) rfl ?_
          refine g_iload_n C dX1_choose_37 rfl rfl ?_
          refine g_iconst (v := (-1)) C dX1_choose_38 (by decide) ?_
          refine g_icmp_eq (tgt := 55) C dX1_choose_39 (by decide) (fun c_39 => ?_) (fun c_39 => ?_)
          · have hp1 := (pr_fin I hpl hpr).1
            refine g_aload_n C dX1_choose_55 rfl rfl ?_
            refine g_iload_n C dX1_choose_56 rfl rfl ?_
            refine g_callVEv (Cl := RX1) (T := TX1) (N := 16) (ci := 1) (q0 := 12) (na := 1) C dX1_choose_57 (m_pair hl (eG E) σ (uT τ' 35 p 1) o nw nl lm p I2 hpl (by rw [prm_s hT2]; exact hpr) hF2) gX1_choose_X1_pair rfl rfl (by decide +kernel) rfl rfl rfl (Nat.le_of_ble_eq_true rfl) (by rw [R]; exact ⟨by decide, by decide⟩) (by rw [R]; exact ⟨by decide, by decide⟩) ?_
            refine g_aload_n C dX1_choose_60 rfl rfl ?_
            refine g_getM C 15 dX1_choose_61 mwX1_choose_inM (by decide) mwX1_choose_f42 rfl rfl ?_
            refine g_iload_n C dX1_choose_64 rfl rfl ?_
            refine g_iconst (v := 1) C dX1_choose_65 (by decide) ?_
            refine g_iadd C dX1_choose_66 ?_
            refine g_iconst (v := 0) C dX1_choose_67 (by decide) ?_
            refine g_zastN C (p + 1) dX1_choose_68 rfl (nI_1 p) (show p + 1 < 16 by omega) (by decide) (Or.inl rfl) rfl ?_
            refine g_iinc C 1 [(1, _), (2, _), (0, _)] dX1_choose_69 rfl (nI_i2 p) (by decide) rfl ?_
            refine g_goto (tgt := 7) C dX1_choose_72 (by decide) ?_
            refine g_lv [0, 2] [(1, _), (0, _)] rfl ?_
            obtain ⟨g1, g2, g3, g4, g5⟩ := cw_P (S := Sm σ τ nw nl) (A := Am σ τ nw nl) (B := Bm σ τ nw nl) hs hpr
            have g := ih (p + 2) _ (by omega) (by omega) g5 (CM_put (CM_put hN g1.symm g2.symm) g3.symm g4.symm)
            rw [uT_comm (c := 35) (c' := 34) (i := p + 1) (by decide)] at g
            rw [Am_s hT2, Bm_s hT2]
            exact g
          · exact absurd c_28 c_39
  refine g_aload_n C dX1_choose_0 rfl rfl ?_
  refine g_callVi (Cl := RX1) (T := TX1) (N := 16) (ci := 1) (q0 := 12) (na := 0) C dX1_choose_1 (m_reckon hl (eG E) σ τ o nw nl lm I) gX1_choose_X1_reckon rfl rfl (by decide +kernel) rfl rfl rfl (Nat.le_of_ble_eq_true rfl) (by rw [R]; exact ⟨by decide, by decide⟩) (by rw [R]; exact ⟨by decide, by decide⟩) noX_kx (fun r1 σ1 τ1 o1 hN1 => ?_)
  obtain ⟨-, e1, e2, hN⟩ := hN1
  rw [e1, e2]
  refine g_pop C dX1_choose_4 rfl ?_
  refine g_iconst (v := 0) C dX1_choose_5 (by decide) ?_
  refine g_istore_n C [(1, _), (0, _)] dX1_choose_6 rfl (by decide) rfl ?_
  exact loop nl 0 τ1 (Nat.zero_le _) (Nat.sub_le _ _) rfl ⟨RK_ms hN, fun q hq => hN.2 q (Nat.zero_le _) hq, fun i => by rw [hN.1 35 (by decide)]; exact Iv_cj I i, fun q hq => absurd hq (Nat.not_lt_zero q)⟩
