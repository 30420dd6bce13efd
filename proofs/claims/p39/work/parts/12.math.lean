/-! plain facts: the order of ints, counts, bits, the first least one -/
theorem i_rf (a : Int32) : a ≤ a := by rw [Int32.le_iff_toInt_le]; omega
theorem i_tr {a b c : Int32} (h : a ≤ b) (h2 : b ≤ c) : a ≤ c := by
  rw [Int32.le_iff_toInt_le] at *
  omega
theorem i_ltle {a b c : Int32} (h : a < b) (h2 : b ≤ c) : a < c := by
  rw [Int32.lt_iff_toInt_lt] at *
  rw [Int32.le_iff_toInt_le] at *
  omega
theorem i_lelt {a b c : Int32} (h : a ≤ b) (h2 : b < c) : a < c := by
  rw [Int32.lt_iff_toInt_lt] at *
  rw [Int32.le_iff_toInt_le] at *
  omega
theorem i_le {a b : Int32} (h : a < b) : a ≤ b := by
  rw [Int32.lt_iff_toInt_lt] at h
  rw [Int32.le_iff_toInt_le]
  omega
theorem i_nlt {a b : Int32} (h : ¬ a < b) : b ≤ a := Int32.not_lt.mp h
theorem i_nle {a b : Int32} (h : ¬ a ≤ b) : b < a := Int32.not_le.mp h
theorem i_ng {a b : Int32} (h : a ≤ b) : ¬ b < a := Int32.not_lt.mpr h
theorem i_irr {a : Int32} (h : a < a) : False := by
  rw [Int32.lt_iff_toInt_lt] at h
  omega
theorem i_anti {a b : Int32} (h : a ≤ b) (h2 : b ≤ a) : a = b := by
  rw [Int32.le_iff_toInt_le] at *
  exact Int32.toInt_inj.mp (by omega)
theorem i_eqor {a b : Int32} (h : a ≤ b) : a < b ∨ a = b := by
  by_cases q : a < b
  · exact Or.inl q
  · exact Or.inr (i_anti h (i_nlt q))
theorem cn_nI {lm x : Nat} (h1 : 3 ≤ lm) (h2 : lm ≤ 15) (hx : x ≤ 60) : cn (nI lm) (nI x) = nI ((x + lm - 1) / lm) := by
  unfold cn
  rw [nI_add, show (1 : Int32) = nI 1 from rfl, pk_sub (by omega), pk_div (by omega) (by omega) (by omega)]
theorem cn_b {lm x : Nat} (h1 : 3 ≤ lm) (h2 : lm ≤ 15) (hx : x ≤ 60) : ∃ c, c ≤ 60 ∧ cn (nI lm) (nI x) = nI c := by
  refine ⟨(x + lm - 1) / lm, ?_, cn_nI h1 h2 hx⟩
  have e1 : (x + lm - 1) / lm ≤ (x + lm - 1) / 3 := Nat.div_le_div_left h1 (by omega)
  omega
theorem nM : (1000000 : Int32) = nI 1000000 := rfl
theorem cn_lt {lm x : Nat} (h1 : 3 ≤ lm) (h2 : lm ≤ 15) (hx : x ≤ 60) : cn (nI lm) (nI x) < 1000000 := by
  obtain ⟨c, hc, e⟩ := cn_b h1 h2 hx
  rw [e, nM]
  exact (nI_ltI (by omega) (by omega)).mpr (by omega)
theorem smod_l : ∀ n, n < 32 → ((nI n &&& 31).toBitVec.smod 32).toNat = n := by decide +kernel
theorem hb_div {x w : Nat} (hx : x < 2 ^ 31) (hw : w < 32) : hb (nI x) (nI w) = if x / 2 ^ w % 2 = 1 then 1 else 0 := by
  unfold hb
  rw [pk_shrN hx (nI w &&& 31) w (smod_l w hw)]
  have h1 : x / 2 ^ w < 2 ^ 32 := Nat.lt_of_le_of_lt (Nat.div_le_self _ _) (by omega)
  rw [pk_andN h1 (m := 1) 1 (by decide)]
  have h2 : x / 2 ^ w % 2 ^ 1 < 2 := Nat.mod_lt _ (by decide)
  rw [show (2 : Nat) ^ 1 = 2 from rfl] at h2 ⊢
  by_cases q : x / 2 ^ w % 2 = 1
  · rw [if_pos q, q]
    rfl
  · rw [if_neg q, show x / 2 ^ w % 2 = 0 by omega]
    rfl
theorem hb_tb {x w : Nat} (hx : x < 2 ^ 31) (hw : w < 32) : hb (nI x) (nI w) ≠ 0 ↔ x.testBit w = true := by
  rw [hb_div hx hw, Nat.testBit_eq_decide_div_mod_eq, decide_eq_true_eq]
  by_cases q : x / 2 ^ w % 2 = 1
  · rw [if_pos q]
    exact ⟨fun _ => q, fun _ => by decide⟩
  · rw [if_neg q]
    exact ⟨fun h => absurd rfl h, fun h => absurd h q⟩
theorem lt12 {n x : Nat} (h : n ≤ 12) (hx : x < 2 ^ n) : x < 4096 := Nat.lt_of_lt_of_le hx (Nat.pow_le_pow_right (by decide) h)
/-- of what holds P below n, a is the first of those with the least f -/
def isFst (P : Nat → Prop) (f : Nat → Int32) (n a : Nat) : Prop := a < n ∧ P a ∧ (∀ b, b < n → P b → f a ≤ f b) ∧ ∀ b, b < a → P b → f a < f b
theorem bw_spec {n : Nat} {lm : Int32} {nl : Nat} {L S Tg : Nat → Int32} {p : Nat} (hf : ∀ a, a < n → cn lm (L a) < 1000000) : ∀ j, j ≤ n → ((∀ a, a < j → mh nl S Tg p (nI a) = 0) ∧ bw lm nl L S Tg p j = (Tg p, 1000000)) ∨ ∃ a, isFst (fun a => mh nl S Tg p (nI a) ≠ 0) (fun a => cn lm (L a)) j a ∧ bw lm nl L S Tg p j = (nI a, cn lm (L a)) := by
  intro j
  induction j with
  | zero => exact fun _ => Or.inl ⟨fun a h => absurd h (Nat.not_lt_zero a), rfl⟩
  | succ j ih =>
    intro hj
    rcases ih (by omega) with ⟨h1, h2⟩ | ⟨a, ⟨a1, a2, a3, a4⟩, h2⟩
    · by_cases hm : mh nl S Tg p (nI j) = 0
      · refine Or.inl ⟨fun a ha => ?_, ?_⟩
        · rcases (show a < j ∨ a = j by omega) with q | q
          · exact h1 a q
          · rw [q]; exact hm
        · rw [bw_no (fun q => q.1 hm), h2]
      · refine Or.inr ⟨j, ⟨Nat.lt_succ_self j, hm, fun b hb hpb => ?_, fun b hb hpb => absurd (h1 b hb) hpb⟩, bw_yes ⟨hm, by rw [h2]; exact hf j (by omega)⟩⟩
        rcases (show b < j ∨ b = j by omega) with q | q
        · exact absurd (h1 b q) hpb
        · rw [q]; exact i_rf _
    · by_cases hc : mh nl S Tg p (nI j) ≠ 0 ∧ cn lm (L j) < cn lm (L a)
      · refine Or.inr ⟨j, ⟨Nat.lt_succ_self j, hc.1, fun b hb hpb => ?_, fun b hb hpb => ?_⟩, bw_yes ⟨hc.1, by rw [h2]; exact hc.2⟩⟩
        · rcases (show b < j ∨ b = j by omega) with q | q
          · exact i_tr (i_le hc.2) (a3 b q hpb)
          · rw [q]; exact i_rf _
        · exact i_ltle hc.2 (a3 b hb hpb)
      · refine Or.inr ⟨a, ⟨by omega, a2, fun b hb hpb => ?_, a4⟩, ?_⟩
        · rcases (show b < j ∨ b = j by omega) with q | q
          · exact a3 b q hpb
          · subst q
            exact i_nlt (fun z => hc ⟨hpb, z⟩)
        · rw [bw_no (fun q => hc ⟨q.1, by rw [h2] at q; exact q.2⟩), h2]
/-- (a', b') ahead of (a, b), row by row, n to a row -/
def lexB (n a b a' b' : Nat) : Prop := (a' < a ∧ b' < n) ∨ (a' = a ∧ b' < b)
def isFst2 (P : Nat → Nat → Prop) (f : Nat → Nat → Int32) (n a b a0 b0 : Nat) : Prop := lexB n a b a0 b0 ∧ P a0 b0 ∧ (∀ a' b', lexB n a b a' b' → P a' b' → f a0 b0 ≤ f a' b') ∧ ∀ a' b', lexB n a0 b0 a' b' → P a' b' → f a0 b0 < f a' b'
def St2 (P : Nat → Nat → Prop) (f : Nat → Nat → Int32) (n a b : Nat) (s : Int32 × Int32) : Prop :=
  ((∀ a' b', lexB n a b a' b' → ¬ P a' b') ∧ s = (-1, 1000000)) ∨ ∃ a0 b0, isFst2 P f n a b a0 b0 ∧ s = (nI a0 * 100 + nI b0, f a0 b0)
theorem lexB_s {n a b a' b' : Nat} (h : lexB n a (b + 1) a' b') : lexB n a b a' b' ∨ (a' = a ∧ b' = b) := by
  unfold lexB at *
  omega
theorem lexB_m {n a b a' b' : Nat} (h : lexB n a b a' b') : lexB n a (b + 1) a' b' := by
  unfold lexB at *
  omega
theorem lexB_r {n a a' b' : Nat} (h : lexB n (a + 1) 0 a' b') : lexB n a n a' b' := by
  unfold lexB at *
  omega
theorem lexB_r2 {n a a' b' : Nat} (h : lexB n a n a' b') : lexB n (a + 1) 0 a' b' := by
  unfold lexB at *
  omega
theorem St2_yes {P : Nat → Nat → Prop} {f : Nat → Nat → Int32} {n a b : Nat} {s : Int32 × Int32} (h : St2 P f n a b s) (hp : P a b) (hl : f a b < s.2) : St2 P f n a (b + 1) (nI a * 100 + nI b, f a b) := by
  refine Or.inr ⟨a, b, ⟨Or.inr ⟨rfl, Nat.lt_succ_self b⟩, hp, fun a' b' h1 h2 => ?_, fun a' b' h1 h2 => ?_⟩, rfl⟩
  · rcases lexB_s h1 with q | ⟨rfl, rfl⟩
    · rcases h with ⟨g1, -⟩ | ⟨a0, b0, ⟨-, -, g3, -⟩, g⟩
      · exact absurd h2 (g1 a' b' q)
      · rw [g] at hl
        exact i_tr (i_le hl) (g3 a' b' q h2)
    · exact i_rf _
  · rcases h with ⟨g1, -⟩ | ⟨a0, b0, ⟨-, -, g3, -⟩, g⟩
    · exact absurd h2 (g1 a' b' h1)
    · rw [g] at hl
      exact i_ltle hl (g3 a' b' h1 h2)
theorem St2_no {P : Nat → Nat → Prop} {f : Nat → Nat → Int32} {n a b : Nat} {s : Int32 × Int32} (h : St2 P f n a b s) (hf : f a b < 1000000) (hn : ¬ (P a b ∧ f a b < s.2)) : St2 P f n a (b + 1) s := by
  rcases h with ⟨g1, g2⟩ | ⟨a0, b0, ⟨g0, g1, g3, g4⟩, g⟩
  · refine Or.inl ⟨fun a' b' h1 => ?_, g2⟩
    rcases lexB_s h1 with q | ⟨rfl, rfl⟩
    · exact g1 a' b' q
    · exact fun z => hn ⟨z, by rw [g2]; exact hf⟩
  · refine Or.inr ⟨a0, b0, ⟨lexB_m g0, g1, fun a' b' h1 h2 => ?_, g4⟩, g⟩
    rcases lexB_s h1 with q | ⟨rfl, rfl⟩
    · exact g3 a' b' q h2
    · exact i_nlt (fun z => hn ⟨h2, by rw [g]; exact z⟩)
theorem St2_row {P : Nat → Nat → Prop} {f : Nat → Nat → Int32} {n a : Nat} {s : Int32 × Int32} (h : St2 P f n a n s) : St2 P f n (a + 1) 0 s := by
  rcases h with ⟨g1, g2⟩ | ⟨a0, b0, ⟨g0, g1, g3, g4⟩, g⟩
  · exact Or.inl ⟨fun a' b' h1 => g1 a' b' (lexB_r h1), g2⟩
  · exact Or.inr ⟨a0, b0, ⟨lexB_r2 g0, g1, fun a' b' h1 h2 => g3 a' b' (lexB_r h1) h2, g4⟩, g⟩
theorem St2_skip {P : Nat → Nat → Prop} {f : Nat → Nat → Int32} {n a : Nat} {s : Int32 × Int32} (h : St2 P f n a 0 s) (hs : ∀ b, ¬ P a b) : St2 P f n (a + 1) 0 s := by
  have key : ∀ a' b', lexB n (a + 1) 0 a' b' → P a' b' → lexB n a 0 a' b' := fun a' b' h1 h2 => by
    rcases lexB_r h1 with q | ⟨rfl, -⟩
    · exact Or.inl q
    · exact absurd h2 (hs b')
  rcases h with ⟨g1, g2⟩ | ⟨a0, b0, ⟨g0, g1, g3, g4⟩, g⟩
  · exact Or.inl ⟨fun a' b' h1 h2 => g1 a' b' (key a' b' h1 h2) h2, g2⟩
  · exact Or.inr ⟨a0, b0, ⟨lexB_r2 (by unfold lexB at *; omega), g1, fun a' b' h1 h2 => g3 a' b' (key a' b' h1 h2) h2, g4⟩, g⟩
/-- a pair that may stand at p and behind, and may be joined -/
def pq (nl : Nat) (S J Tg : Nat → Int32) (p a b : Nat) : Prop := mh nl S Tg p (nI a) ≠ 0 ∧ mh nl S Tg (p + 1) (nI b) ≠ 0 ∧ hb (J a) (nI b) ≠ 0
theorem bp_spec {lm : Int32} {nw nl : Nat} {L S J Tg : Nat → Int32} {p : Nat} (hf : ∀ a b, a < nw → b < nw → cn lm (L a + L b) < 1000000) : ∀ a, a ≤ nw → St2 (pq nl S J Tg p) (fun a b => cn lm (L a + L b)) nw a 0 (bp lm nw nl L S J Tg p a) := by
  intro a
  induction a with
  | zero => exact fun _ => Or.inl ⟨fun a' b' h => by unfold lexB at h; omega, rfl⟩
  | succ a ih =>
    intro ha
    have h := ih (by omega)
    by_cases hm : mh nl S Tg p (nI a) = 0
    · rw [bp_no hm]
      exact St2_skip h (fun b z => z.1 hm)
    · rw [bp_yes hm]
      refine St2_row ?_
      have key : ∀ b, b ≤ nw → St2 (pq nl S J Tg p) (fun a b => cn lm (L a + L b)) nw a b (bq lm nl L S J Tg p a (bp lm nw nl L S J Tg p a) b) := by
        intro b
        induction b with
        | zero => exact fun _ => h
        | succ b ih2 =>
          intro hb9
          have g := ih2 (by omega)
          by_cases hc : (mh nl S Tg (p + 1) (nI b) ≠ 0 ∧ hb (J a) (nI b) ≠ 0) ∧ cn lm (L a + L b) < (bq lm nl L S J Tg p a (bp lm nw nl L S J Tg p a) b).2
          · rw [bq_yes hc]
            exact St2_yes g ⟨hm, hc.1.1, hc.1.2⟩ hc.2
          · rw [bq_no hc]
            exact St2_no g (hf a b (by omega) (by omega)) (fun z => hc ⟨⟨z.1.2.1, z.1.2.2⟩, z.2⟩)
      exact key nw (Nat.le_refl _)
section
variable {nw nl lm : Nat} {a3 a9 a4 : Int32} {L S J Tg Jd Cj : Nat → Int32} {p : Nat}
theorem Iv_cn (I : Iv nw nl lm a3 a9 a4 L S Tg Jd Cj) {a : Nat} (ha : a < nw) : ∃ c, c ≤ 60 ∧ cn a4 (L a) = nI c := by
  obtain ⟨x, h1, h2, e⟩ := Iv_lt I a ha
  rw [Iv_h4 I, e]
  exact cn_b (Iv_lm I).1 (Iv_lm I).2 (by omega)
theorem Iv_cn2 (I : Iv nw nl lm a3 a9 a4 L S Tg Jd Cj) {a b : Nat} (ha : a < nw) (hb : b < nw) : ∃ c, c ≤ 60 ∧ cn a4 (L a + L b) = nI c := by
  obtain ⟨x, h1, h2, e⟩ := Iv_lt I a ha
  obtain ⟨y, h3, h4, e2⟩ := Iv_lt I b hb
  rw [Iv_h4 I, e, e2, nI_add]
  exact cn_b (Iv_lm I).1 (Iv_lm I).2 (by omega)
theorem nI_60 {x : Int32} (h : ∃ c, c ≤ 60 ∧ x = nI c) : x < 1000000 := by
  obtain ⟨c, hc, rfl⟩ := h
  rw [nM]
  exact (nI_ltI (by omega) (by omega)).mpr (by omega)
/-- the word itself may stand at its place -/
theorem Iv_own (I : Iv nw nl lm a3 a9 a4 L S Tg Jd Cj) (hp : p < nl) : ∃ w, w < nw ∧ Tg p = nI w ∧ mh nl S Tg p (nI w) ≠ 0 := by
  obtain ⟨w, hw, e⟩ := Iv_tg I p hp
  obtain ⟨x, e2, hx, ht⟩ := Iv_st I w hw
  have h12 := Iv_nw I
  refine ⟨w, hw, e, ?_⟩
  unfold mh
  rw [if_pos hp, e, nI_clamp (by omega), e2]
  exact (hb_tb (Nat.lt_trans (lt12 h12 hx) (by decide)) (by omega)).mpr ht
/-- the best word at a place is there -/
theorem bw_fin (I : Iv nw nl lm a3 a9 a4 L S Tg Jd Cj) (hp : p < nl) : ∃ a, isFst (fun a => mh nl S Tg p (nI a) ≠ 0) (fun a => cn a4 (L a)) nw a ∧ bw a4 nl L S Tg p nw = (nI a, cn a4 (L a)) := by
  rcases bw_spec (n := nw) (lm := a4) (nl := nl) (L := L) (S := S) (Tg := Tg) (p := p) (fun a ha => nI_60 (Iv_cn I ha)) nw (Nat.le_refl _) with ⟨h1, -⟩ | h
  · obtain ⟨w, hw, -, hm⟩ := Iv_own I hp
    exact absurd (h1 w hw) hm
  · exact h
theorem bp_fin (I : Iv nw nl lm a3 a9 a4 L S Tg Jd Cj) : ((∀ a b, a < nw → b < nw → ¬ pq nl S J Tg p a b) ∧ bp a4 nw nl L S J Tg p nw = (-1, 1000000)) ∨ ∃ a b, a < nw ∧ b < nw ∧ pq nl S J Tg p a b ∧ (∀ a' b', a' < nw → b' < nw → pq nl S J Tg p a' b' → cn a4 (L a + L b) ≤ cn a4 (L a' + L b')) ∧ (∀ a' b', lexB nw a b a' b' → pq nl S J Tg p a' b' → cn a4 (L a + L b) < cn a4 (L a' + L b')) ∧ bp a4 nw nl L S J Tg p nw = (nI (a * 100 + b), cn a4 (L a + L b)) := by
  have h12 := Iv_nw I
  rcases bp_spec (lm := a4) (nw := nw) (nl := nl) (L := L) (S := S) (J := J) (Tg := Tg) (p := p) (fun a b ha hb => nI_60 (Iv_cn2 I ha hb)) nw (Nat.le_refl _) with ⟨h1, h2⟩ | ⟨a, b, ⟨h0, h1, h2, h3⟩, h4⟩
  · exact Or.inl ⟨fun a b ha hb => h1 a b (Or.inl ⟨ha, hb⟩), h2⟩
  · have hab : a < nw ∧ b < nw := by unfold lexB at h0; omega
    refine Or.inr ⟨a, b, hab.1, hab.2, h1, fun a' b' ha hb hq => h2 a' b' (Or.inl ⟨ha, hb⟩) hq, h3, ?_⟩
    rw [h4, show (100 : Int32) = nI 100 from rfl, pk_mul, nI_add]
end
