/-! the reckoning from the last place on, in numbers; what the first least word and pair have to do with it -/
def gA (a4 : Int32) (nl : Nat) (L S Tg : Nat → Int32) (nw p : Nat) : Int32 := (bw a4 nl L S Tg p nw).2
def gJ (a4 : Int32) (nw nl : Nat) (L S J Tg : Nat → Int32) (p : Nat) : Int32 := (bp a4 nw nl L S J Tg p nw).2
section
variable {nw nl lm : Nat} {a3 a9 a4 : Int32} {L S J Tg Jd Cj : Nat → Int32}
theorem gA_b (I : Iv nw nl lm a3 a9 a4 L S Tg Jd Cj) {p : Nat} (hp : p < nl) : ∃ c, c ≤ 60 ∧ gA a4 nl L S Tg nw p = nI c := by
  obtain ⟨a, ha, e⟩ := bw_fin I hp
  unfold gA
  rw [e]
  exact Iv_cn I ha.1
theorem gJ_b (I : Iv nw nl lm a3 a9 a4 L S Tg Jd Cj) (p : Nat) : ∃ c, c ≤ 1000000 ∧ gJ a4 nw nl L S J Tg p = nI c := by
  unfold gJ
  rcases bp_fin (p := p) (J := J) I with ⟨-, e⟩ | ⟨a, b, ha, hb, -, -, -, e⟩
  · exact ⟨1000000, Nat.le_refl _, by rw [e]; rfl⟩
  · obtain ⟨c, hc, e2⟩ := Iv_cn2 I ha hb
    exact ⟨c, by omega, by rw [e]; exact e2⟩
abbrev gF1 (a4 : Int32) (nw nl : Nat) (L S J Tg : Nat → Int32) (m : Nat) : Int32 × Int32 := fw (gA a4 nl L S Tg nw) (gJ a4 nw nl L S J Tg) nl m
theorem fw_b (I : Iv nw nl lm a3 a9 a4 L S Tg Jd Cj) : ∀ m, m ≤ nl → ∃ c d, c ≤ 60 * m ∧ d ≤ 60 * m ∧ (gF1 a4 nw nl L S J Tg m).1 = nI c ∧ (gF1 a4 nw nl L S J Tg m).2 = nI d := by
  intro m
  have h16 := Iv_nl I
  induction m with
  | zero => exact fun _ => ⟨0, 0, Nat.le_refl _, Nat.le_refl _, rfl, rfl⟩
  | succ m ih =>
    intro hm
    obtain ⟨c, d, hc, hd, e1, e2⟩ := ih (by omega)
    obtain ⟨α, hα, eα⟩ := gA_b I (show nl - (m + 1) < nl by omega)
    obtain ⟨γ, hγ, eγ⟩ := gJ_b (J := J) I (nl - (m + 1))
    have key : (gF1 a4 nw nl L S J Tg (m + 1)).1 = if nI (γ + d) < nI (α + c) then nI (γ + d) else nI (α + c) := by
      show (if _ + _ < _ + _ then _ + _ else _ + _) = _
      rw [e1, e2, eα, eγ, nI_add, nI_add]
    by_cases q : nI (γ + d) < nI (α + c)
    · rw [if_pos q] at key
      have q2 := (nI_ltI (by omega) (by omega)).mp q
      exact ⟨γ + d, c, by omega, by omega, key, e1⟩
    · rw [if_neg q] at key
      exact ⟨α + c, c, by omega, by omega, key, e1⟩
/-- one step: the numbers -/
theorem fw_n (I : Iv nw nl lm a3 a9 a4 L S Tg Jd Cj) {p : Nat} (hp : p < nl) : ∃ α γ φ ψ : Nat, α ≤ 60 ∧ γ ≤ 1000000 ∧ φ ≤ 960 ∧ ψ ≤ 960 ∧ gA a4 nl L S Tg nw p = nI α ∧ gJ a4 nw nl L S J Tg p = nI γ ∧ (gF1 a4 nw nl L S J Tg (nl - (p + 1))).1 = nI φ ∧ (gF1 a4 nw nl L S J Tg (nl - (p + 1))).2 = nI ψ ∧ (gF1 a4 nw nl L S J Tg (nl - p)).1 = nI (if γ + ψ < α + φ then γ + ψ else α + φ) := by
  have h16 := Iv_nl I
  obtain ⟨c, d, hc, hd, e1, e2⟩ := fw_b (J := J) I (nl - (p + 1)) (by omega)
  obtain ⟨α, hα, eα⟩ := gA_b I hp
  obtain ⟨γ, hγ, eγ⟩ := gJ_b (J := J) I p
  refine ⟨α, γ, c, d, hα, hγ, by omega, by omega, eα, eγ, e1, e2, ?_⟩
  have e : nl - p = (nl - (p + 1)) + 1 := by omega
  have e3 : nl - ((nl - (p + 1)) + 1) = p := by omega
  rw [e]
  show (if _ + _ < _ + _ then _ + _ else _ + _) = _
  rw [e1, e2, e3, eα, eγ, nI_add, nI_add]
  by_cases q : γ + d < α + c
  · rw [if_pos q, if_pos ((nI_ltI (by omega) (by omega)).mpr q)]
  · rw [if_neg q, if_neg (fun z => q ((nI_ltI (by omega) (by omega)).mp z))]
/-- at the last place there is no pair -/
theorem bp_last (I : Iv nw nl lm a3 a9 a4 L S Tg Jd Cj) {p : Nat} (hp : nl ≤ p + 1) : bp a4 nw nl L S J Tg p nw = (-1, 1000000) := by
  rcases bp_fin (p := p) (J := J) I with ⟨-, e⟩ | ⟨a, b, -, -, hq, -⟩
  · exact e
  · have z := hq.2.1
    unfold mh at z
    rw [if_neg (by omega)] at z
    exact absurd rfl z
/-- so there the word alone counts -/
theorem fw_last (I : Iv nw nl lm a3 a9 a4 L S Tg Jd Cj) (h : 0 < nl) : (gF1 a4 nw nl L S J Tg (nl - (nl - 1))).1 = gA a4 nl L S Tg nw (nl - 1) + (gF1 a4 nw nl L S J Tg (nl - (nl - 1 + 1))).1 := by
  obtain ⟨α, γ, φ, ψ, h1, h2, h3, h4, e1, e2, e3, e4, e5⟩ := fw_n (J := J) I (show nl - 1 < nl by omega)
  have eγ : γ = 1000000 := by
    unfold gJ at e2
    rw [bp_last I (by omega), nM] at e2
    exact ((nI_eq (by decide) (by omega)).mp e2).symm
  rw [e5, e1, e3, nI_add, if_neg (by omega)]
/-- where the pair counts less, there is one -/
theorem fw_pair (I : Iv nw nl lm a3 a9 a4 L S Tg Jd Cj) {p : Nat} (hp : p < nl) (h : ¬ gA a4 nl L S Tg nw p + (gF1 a4 nw nl L S J Tg (nl - (p + 1))).1 = (gF1 a4 nw nl L S J Tg (nl - p)).1) : p + 1 < nl ∧ ¬ (bp a4 nw nl L S J Tg p nw).1 = -1 ∧ (gF1 a4 nw nl L S J Tg (nl - p)).1 = gJ a4 nw nl L S J Tg p + (gF1 a4 nw nl L S J Tg (nl - (p + 1))).2 := by
  have h12 := Iv_nw I
  obtain ⟨α, γ, φ, ψ, h1, h2, h3, h4, e1, e2, e3, e4, e5⟩ := fw_n (J := J) I hp
  have q : γ + ψ < α + φ := by
    rcases Nat.lt_or_ge (γ + ψ) (α + φ) with q | q
    · exact q
    · exact absurd (by rw [e1, e3, e5, nI_add, if_neg (by omega)]) h
  have hne : ¬ (bp a4 nw nl L S J Tg p nw) = (-1, 1000000) := by
    intro z
    unfold gJ at e2
    rw [z, nM] at e2
    have := (nI_eq (by decide) (by omega)).mp e2
    omega
  refine ⟨?_, ?_, ?_⟩
  · rcases Nat.lt_or_ge (p + 1) nl with y | y
    · exact y
    · exact absurd (bp_last I y) hne
  · rcases bp_fin (p := p) (J := J) I with ⟨-, e⟩ | ⟨a, b, ha, hb, -, -, -, e⟩
    · exact absurd e hne
    · rw [e]
      exact pr_ne (by omega) (by omega)
  · rw [e5, e2, e4, nI_add, if_pos q]
theorem nI_can {a b c : Nat} (ha : a < 2 ^ 30) (hb : b < 2 ^ 30) (hc : c < 2 ^ 30) : nI a + nI c = nI b + nI c ↔ a = b := by
  rw [nI_add, nI_add, nI_eq (by omega) (by omega)]
  omega
/-- a word that counts as little as the best: its count is the best's -/
theorem sg_iff (I : Iv nw nl lm a3 a9 a4 L S Tg Jd Cj) {p a : Nat} (hp : p < nl) (ha : a < nw) (hm : mh nl S Tg p (nI a) ≠ 0) : cn a4 (L a) + (gF1 a4 nw nl L S J Tg (nl - (p + 1))).1 = (gF1 a4 nw nl L S J Tg (nl - p)).1 ↔ gA a4 nl L S Tg nw p + (gF1 a4 nw nl L S J Tg (nl - (p + 1))).1 = (gF1 a4 nw nl L S J Tg (nl - p)).1 ∧ cn a4 (L a) = gA a4 nl L S Tg nw p := by
  obtain ⟨α, γ, φ, ψ, h1, h2, h3, h4, e1, e2, e3, e4, e5⟩ := fw_n (J := J) I hp
  obtain ⟨c, hc, ec⟩ := Iv_cn I ha
  have hle : α ≤ c := by
    obtain ⟨a0, h0, e0⟩ := bw_fin I hp
    have this : cn a4 (L a0) ≤ cn a4 (L a) := h0.2.2.1 a ha hm
    have e6 : gA a4 nl L S Tg nw p = cn a4 (L a0) := by unfold gA; rw [e0]
    rw [← e6, e1, ec] at this
    exact (nI_leI (by omega) (by omega)).mp this
  rw [e1, e3, e5, ec, nI_add, nI_add, nI_eq (by omega) (by split <;> omega), nI_eq (by omega) (by split <;> omega), nI_eq (by omega) (by omega)]
  split <;> omega
/-- a pair that counts as little: its count is the best pair's, where the word alone counts more -/
theorem pp_iff (I : Iv nw nl lm a3 a9 a4 L S Tg Jd Cj) {p a b : Nat} (hp : p < nl) (ha : a < nw) (hb : b < nw) (h : ¬ gA a4 nl L S Tg nw p + (gF1 a4 nw nl L S J Tg (nl - (p + 1))).1 = (gF1 a4 nw nl L S J Tg (nl - p)).1) : cn a4 (L a + L b) + (gF1 a4 nw nl L S J Tg (nl - (p + 1))).2 = (gF1 a4 nw nl L S J Tg (nl - p)).1 ↔ cn a4 (L a + L b) = gJ a4 nw nl L S J Tg p := by
  obtain ⟨α, γ, φ, ψ, h1, h2, h3, h4, e1, e2, e3, e4, e5⟩ := fw_n (J := J) I hp
  obtain ⟨c, hc, ec⟩ := Iv_cn2 I ha hb
  have q : γ + ψ < α + φ := by
    rcases Nat.lt_or_ge (γ + ψ) (α + φ) with q | q
    · exact q
    · exact absurd (by rw [e1, e3, e5, nI_add, if_neg (by omega)]) h
  rw [e2, e4, e5, ec, nI_add, if_pos q, nI_eq (by omega) (by omega), nI_eq (by omega) (by omega)]
  omega
end
