/-! class and Sim, side by side: the relation, and that both compute alike -/
/-- the class's object (σ, τ) and the Sim (s, t) hold the same book; at most K were sent -/
def TS (σ : gS) (τ : gT) (nw nl lm K : Nat) (s : gS) (t : gT) : Prop := IX σ τ nw nl lm ∧ SV nw nl lm s t ∧ (s 2 = σ 5 ∧ s 3 = σ 6 ∧ s 4 = σ 10 ∧ s 5 = σ 11) ∧
  (∀ w, w < nw → t 6 w = τ 0 w) ∧ (∀ i, i < nl → t 9 i = τ 7 i ∧ t 10 i = τ 8 i) ∧
  (∀ a b, a < nw → b < nw → (a ≠ b → t (20 + a) b = hb (τ 1 a) (nI b)) ∧ t (40 + a) b = hb (τ 2 a) (nI b)) ∧
  (∀ a b, a < 12 → (nw ≤ a ∨ nw ≤ b) → t (20 + a) b = 0 ∧ t (40 + a) b = 0) ∧
  (∀ a, a < nw → ∃ x, τ 2 a = nI x ∧ x < 2 ^ nw) ∧ (∀ i, i + 1 < nl → τ 8 i = 0 ∨ τ 8 (i + 1) = 0) ∧
  (∃ lc, σ 5 = nI lc ∧ lc ≤ 20) ∧ (∃ co, σ 6 = nI co ∧ 1 ≤ co ∧ co ≤ 50) ∧ ∃ k, σ 10 = nI k ∧ k ≤ K
section
variable {σ : gS} {τ : gT} {nw nl lm K : Nat} {s : gS} {t : gT}
theorem TS_I (R : TS σ τ nw nl lm K s t) : IX σ τ nw nl lm := R.1
theorem TS_V (R : TS σ τ nw nl lm K s t) : SV nw nl lm s t := R.2.1
theorem TS_n (R : TS σ τ nw nl lm K s t) : s 2 = σ 5 ∧ s 3 = σ 6 ∧ s 4 = σ 10 ∧ s 5 = σ 11 := R.2.2.1
theorem TS_l (R : TS σ τ nw nl lm K s t) {w : Nat} (h : w < nw) : t 6 w = τ 0 w := R.2.2.2.1 w h
theorem TS_w (R : TS σ τ nw nl lm K s t) {i : Nat} (h : i < nl) : t 9 i = τ 7 i ∧ t 10 i = τ 8 i := R.2.2.2.2.1 i h
theorem TS_b (R : TS σ τ nw nl lm K s t) {a b : Nat} (ha : a < nw) (hb9 : b < nw) : (a ≠ b → t (20 + a) b = hb (τ 1 a) (nI b)) ∧ t (40 + a) b = hb (τ 2 a) (nI b) := R.2.2.2.2.2.1 a b ha hb9
theorem TS_o (R : TS σ τ nw nl lm K s t) {a b : Nat} (ha : a < 12) (h : nw ≤ a ∨ nw ≤ b) : t (20 + a) b = 0 ∧ t (40 + a) b = 0 := R.2.2.2.2.2.2.1 a b ha h
theorem TS_j (R : TS σ τ nw nl lm K s t) {a : Nat} (ha : a < nw) : ∃ x, τ 2 a = nI x ∧ x < 2 ^ nw := R.2.2.2.2.2.2.2.1 a ha
theorem TS_r (R : TS σ τ nw nl lm K s t) {i : Nat} (h : i + 1 < nl) : τ 8 i = 0 ∨ τ 8 (i + 1) = 0 := R.2.2.2.2.2.2.2.2.1 i h
theorem TS_lc (R : TS σ τ nw nl lm K s t) : ∃ lc, σ 5 = nI lc ∧ lc ≤ 20 := R.2.2.2.2.2.2.2.2.2.1
theorem TS_co (R : TS σ τ nw nl lm K s t) : ∃ co, σ 6 = nI co ∧ 1 ≤ co ∧ co ≤ 50 := R.2.2.2.2.2.2.2.2.2.2.1
theorem TS_k (R : TS σ τ nw nl lm K s t) : ∃ k, σ 10 = nI k ∧ k ≤ K := R.2.2.2.2.2.2.2.2.2.2.2
theorem TS_lt (R : TS σ τ nw nl lm K s t) {w : Nat} (h : w < nw) : τ 0 w = nI (ltF t w) ∧ 1 ≤ ltF t w ∧ ltF t w ≤ 30 := by
  rw [← TS_l R h]
  exact SV_lt (TS_V R) h
theorem TS_tg (R : TS σ τ nw nl lm K s t) {i : Nat} (h : i < nl) : τ 7 i = nI (tgF t i) ∧ tgF t i < nw := by
  rw [← (TS_w R h).1]
  exact SV_tg (TS_V R) h
theorem TS_may (R : TS σ τ nw nl lm K s t) {a b : Nat} (ha : a < nw) (hb9 : b < nw) : hb (τ 1 a) (nI b) = zb (mayF t a b) := by
  by_cases e : a = b
  · subst e
    obtain ⟨x, e2, hx, ht⟩ := Iv_st (TS_I R) a ha
    have h12 := Iv_nw (TS_I R)
    have h1 : hb (τ 1 a) (nI a) ≠ 0 := by
      rw [e2]
      exact (hb_tb (Nat.lt_trans (lt12 h12 hx) (by decide)) (by omega)).mpr ht
    rw [(hb_01 _ _).resolve_left h1]
    simp [mayF, zb]
  · rw [← (TS_b R ha hb9).1 e]
    rcases SV_st (TS_V R) a b with h | h
    · simp [mayF, zb, h, e]
    · simp [mayF, zb, h]
theorem TS_jn (R : TS σ τ nw nl lm K s t) {a b : Nat} (ha : a < nw) (hb9 : b < nw) : hb (τ 2 a) (nI b) = zb (jnF t a b) := by
  rw [← (TS_b R ha hb9).2]
  rcases SV_jn (TS_V R) a b with h | h
  · simp [jnF, zb, h]
  · simp [jnF, zb, h]
theorem TS_mh (R : TS σ τ nw nl lm K s t) {p b : Nat} (hb9 : b < nw) : mh nl (τ 1) (τ 7) p (nI b) ≠ 0 ↔ p < nl ∧ mayF t (tgF t p) b = true := by
  unfold mh
  by_cases h : p < nl
  · obtain ⟨e, hw⟩ := TS_tg R h
    have h12 := Iv_nw (TS_I R)
    rw [if_pos h, e, nI_clamp (by omega), TS_may R hw hb9]
    cases mayF t (tgF t p) b <;> simp [zb, h]
  · rw [if_neg h]
    exact ⟨fun q => absurd rfl q, fun q => absurd q.1 h⟩
theorem TS_pq (R : TS σ τ nw nl lm K s t) {p a b : Nat} (ha : a < nw) (hb9 : b < nw) : pq nl (τ 1) (τ 2) (τ 7) p a b ↔ p + 1 < nl ∧ mayF t (tgF t p) a = true ∧ mayF t (tgF t (p + 1)) b = true ∧ jnF t a b = true := by
  unfold pq
  rw [TS_mh R ha, TS_mh R hb9, TS_jn R ha hb9]
  cases jnF t a b with
  | false => exact ⟨fun q => absurd rfl q.2.2, fun q => absurd q.2.2.2 (by decide)⟩
  | true => exact ⟨fun q => ⟨q.2.1.1, q.1.2, q.2.1.2, rfl⟩, fun q => ⟨⟨by omega, q.2.1⟩, ⟨q.1, q.2.2.1⟩, by decide⟩⟩
theorem TS_c1 (R : TS σ τ nw nl lm K s t) {a : Nat} (ha : a < nw) : cn (σ 4) (τ 0 a) = nI (cN lm (ltF t a)) ∧ 1 ≤ cN lm (ltF t a) ∧ cN lm (ltF t a) ≤ 30 := by
  obtain ⟨e, h1, h2⟩ := TS_lt R ha
  have hl := SV_lm (TS_V R)
  rw [Iv_h4 (TS_I R), e, cn_nI hl.1 hl.2 (by omega)]
  have := cN_le (x := ltF t a) hl
  have := (cN_up (x := ltF t a) hl).2 h1
  exact ⟨rfl, by omega, by omega⟩
theorem TS_c2 (R : TS σ τ nw nl lm K s t) {a b : Nat} (ha : a < nw) (hb9 : b < nw) : cn (σ 4) (τ 0 a + τ 0 b) = nI (cN lm (ltF t a + ltF t b)) ∧ cN lm (ltF t a + ltF t b) ≤ 60 := by
  obtain ⟨e, h1, h2⟩ := TS_lt R ha
  obtain ⟨e2, h3, h4⟩ := TS_lt R hb9
  have hl := SV_lm (TS_V R)
  rw [Iv_h4 (TS_I R), e, e2, nI_add, cn_nI hl.1 hl.2 (by omega)]
  have := cN_le (x := ltF t a + ltF t b) hl
  exact ⟨rfl, by omega⟩
/-- the least alone at p, with its word -/
theorem TS_A (R : TS σ τ nw nl lm K s t) {p : Nat} (hp : p < nl) : ∃ a, a < nw ∧ Sx σ τ nw nl p = nI a ∧ LAx σ τ nw nl p = nI (cN lm (ltF t a)) ∧ mayF t (tgF t p) a = true ∧ (∀ b, b < nw → mayF t (tgF t p) b = true → cN lm (ltF t a) ≤ cN lm (ltF t b)) ∧ ∀ b, b < a → mayF t (tgF t p) b = true → cN lm (ltF t a) < cN lm (ltF t b) := by
  obtain ⟨a, ⟨ha, hm, hmin, hfst⟩, e⟩ := bw_fin (TS_I R) hp
  have ca := TS_c1 R ha
  refine ⟨a, ha, by unfold Sx; rw [e], by unfold LAx; rw [e]; exact ca.1, ((TS_mh R ha).mp hm).2, fun b hb9 hmb => ?_, fun b hb9 hmb => ?_⟩
  · have h := hmin b hb9 ((TS_mh R hb9).mpr ⟨hp, hmb⟩)
    have cb := TS_c1 R hb9
    show _
    rw [show (fun a => cn (σ 4) (τ 0 a)) a = cn (σ 4) (τ 0 a) from rfl] at *
    have h2 : cn (σ 4) (τ 0 a) ≤ cn (σ 4) (τ 0 b) := h
    rw [ca.1, cb.1] at h2
    exact (nI_leI (by omega) (by omega)).mp h2
  · have hbn : b < nw := by omega
    have h := hfst b hb9 ((TS_mh R hbn).mpr ⟨hp, hmb⟩)
    have cb := TS_c1 R hbn
    have h2 : cn (σ 4) (τ 0 a) < cn (σ 4) (τ 0 b) := h
    rw [ca.1, cb.1] at h2
    exact (nI_ltI (by omega) (by omega)).mp h2
/-- the least pair at p -/
theorem TS_P (R : TS σ τ nw nl lm K s t) {p : Nat} : ((∀ a b, a < nw → b < nw → ¬ (p + 1 < nl ∧ mayF t (tgF t p) a = true ∧ mayF t (tgF t (p + 1)) b = true ∧ jnF t a b = true)) ∧ bpx σ τ nw nl p = -1 ∧ LJx σ τ nw nl p = nI 1000000) ∨
    ∃ a b, a < nw ∧ b < nw ∧ p + 1 < nl ∧ mayF t (tgF t p) a = true ∧ mayF t (tgF t (p + 1)) b = true ∧ jnF t a b = true ∧ bpx σ τ nw nl p = nI (a * 100 + b) ∧ LJx σ τ nw nl p = nI (cN lm (ltF t a + ltF t b)) ∧
      (∀ a' b', a' < nw → b' < nw → mayF t (tgF t p) a' = true → mayF t (tgF t (p + 1)) b' = true → jnF t a' b' = true → cN lm (ltF t a + ltF t b) ≤ cN lm (ltF t a' + ltF t b') ∧ (cN lm (ltF t a' + ltF t b') = cN lm (ltF t a + ltF t b) → 12 * a + b ≤ 12 * a' + b')) := by
  have h12 := Iv_nw (TS_I R)
  rcases bp_fin (p := p) (J := τ 2) (TS_I R) with ⟨h, e⟩ | ⟨a, b, ha, hb9, hq, hmin, hfst, e⟩
  · exact Or.inl ⟨fun a b ha hb9 q => h a b ha hb9 ((TS_pq R ha hb9).mpr q), by unfold bpx; rw [e], by unfold LJx; rw [e]; rfl⟩
  · obtain ⟨g1, g2, g3, g4⟩ := (TS_pq R ha hb9).mp hq
    have ca := TS_c2 R ha hb9
    refine Or.inr ⟨a, b, ha, hb9, g1, g2, g3, g4, by unfold bpx; rw [e], by unfold LJx; rw [e]; exact ca.1, fun a' b' ha' hb' k1 k2 k3 => ?_⟩
    have hq' := (TS_pq (p := p) R ha' hb').mpr ⟨g1, k1, k2, k3⟩
    have cb := TS_c2 R ha' hb'
    have h1 := hmin a' b' ha' hb' hq'
    rw [ca.1, cb.1] at h1
    refine ⟨(nI_leI (by omega) (by omega)).mp h1, fun heq => ?_⟩
    rcases Nat.lt_or_ge (12 * a' + b') (12 * a + b) with g | g
    · have h2 := hfst a' b' (by unfold lexB; omega) hq'
      rw [ca.1, cb.1] at h2
      have h3 := (nI_ltI (by omega) (by omega)).mp h2
      omega
    · exact g
def An (σ : gS) (τ : gT) (nw nl p : Nat) : Nat := (LAx σ τ nw nl p).toNatClampNeg
def Pn (σ : gS) (τ : gT) (nw nl p : Nat) : Nat := (LJx σ τ nw nl p).toNatClampNeg
theorem TS_An (R : TS σ τ nw nl lm K s t) {p : Nat} (hp : p < nl) : LAx σ τ nw nl p = nI (An σ τ nw nl p) ∧ 1 ≤ An σ τ nw nl p ∧ An σ τ nw nl p ≤ 30 := by
  obtain ⟨a, ha, -, e, -⟩ := TS_A R hp
  have c := TS_c1 R ha
  have e2 : An σ τ nw nl p = cN lm (ltF t a) := by unfold An; rw [e, nI_clamp (by omega)]
  rw [e2]
  exact ⟨e, c.2.1, c.2.2⟩
theorem TS_Pn (R : TS σ τ nw nl lm K s t) (p : Nat) : LJx σ τ nw nl p = nI (Pn σ τ nw nl p) ∧ (Pn σ τ nw nl p = 1000000 ∨ Pn σ τ nw nl p ≤ 60) := by
  rcases TS_P (p := p) R with ⟨-, -, e⟩ | ⟨a, b, ha, hb9, -, -, -, -, -, e, -⟩
  · have e2 : Pn σ τ nw nl p = 1000000 := by unfold Pn; rw [e, nI_clamp (by omega)]
    rw [e2]
    exact ⟨e, Or.inl rfl⟩
  · have c := TS_c2 R ha hb9
    have e2 : Pn σ τ nw nl p = cN lm (ltF t a + ltF t b) := by unfold Pn; rw [e, nI_clamp (by omega)]
    rw [e2]
    exact ⟨e, Or.inr c.2⟩
theorem TS_Pl (R : TS σ τ nw nl lm K s t) {p : Nat} (h : nl ≤ p + 1) : Pn σ τ nw nl p = 1000000 := by
  rcases TS_P (p := p) R with ⟨-, -, e⟩ | ⟨a, b, -, -, g, -⟩
  · unfold Pn
    rw [e, nI_clamp (by omega)]
  · omega
end
/-! the least from the back, the least from the front -/
def bD (A P : Nat → Nat) (n : Nat) : Nat → Nat × Nat
  | 0 => (0, 0)
  | k + 1 => (min (A (n - (k + 1)) + (bD A P n k).1) (P (n - (k + 1)) + (bD A P n k).2), (bD A P n k).1)
/-- from place p on -/
def bG (A P : Nat → Nat) (n p : Nat) : Nat := (bD A P n (n - p)).1
theorem bG_n (A P : Nat → Nat) (n : Nat) : bG A P n n = 0 := by
  unfold bG
  rw [Nat.sub_self]
  rfl
theorem bG_r {A P : Nat → Nat} {n p : Nat} (h : p + 1 < n) : bG A P n p = min (A p + bG A P n (p + 1)) (P p + bG A P n (p + 2)) := by
  unfold bG
  rw [show n - p = (n - (p + 2)) + 2 by omega, show n - (p + 1) = (n - (p + 2)) + 1 by omega]
  show min (A (n - ((n - (p + 2)) + 1 + 1)) + (bD A P n ((n - (p + 2)) + 1)).1) (P (n - ((n - (p + 2)) + 1 + 1)) + (bD A P n ((n - (p + 2)) + 1)).2) = _
  rw [show n - ((n - (p + 2)) + 1 + 1) = p by omega]
  rfl
theorem bG_l {A P : Nat → Nat} {n p : Nat} (h : p + 1 = n) (hA : A p ≤ P p) : bG A P n p = A p := by
  unfold bG
  rw [show n - p = 0 + 1 by omega]
  show min (A (n - (0 + 1)) + 0) (P (n - (0 + 1)) + 0) = _
  rw [show n - (0 + 1) = p by omega]
  omega
def fD (A P : Nat → Nat) : Nat → Nat × Nat
  | 0 => (0, 0)
  | p + 1 => (if p = 0 then (fD A P p).1 + A p else min ((fD A P p).1 + A p) ((fD A P p).2 + P (p - 1)), (fD A P p).1)
theorem fD_s {A P : Nat → Nat} {p : Nat} : (fD A P (p + 1)).1 = if p = 0 then (fD A P p).1 + A p else min ((fD A P p).1 + A p) ((fD A P p).2 + P (p - 1)) := rfl
theorem fD_1 {A P : Nat → Nat} : (fD A P 1).1 = A 0 := by
  rw [fD_s, if_pos rfl]
  exact Nat.zero_add _
theorem fD_r {A P : Nat → Nat} {p : Nat} : (fD A P (p + 2)).1 = min ((fD A P (p + 1)).1 + A (p + 1)) ((fD A P p).1 + P p) := by
  rw [fD_s, if_neg (by omega), show p + 1 - 1 = p by omega]
  rfl
theorem fD_bG {A P : Nat → Nat} {n f k : Nat} (hk : f + k = n) (hl : ∀ p, p + 1 = n → A p ≤ P p) : (fD (fun i => A (f + i)) (fun i => P (f + i)) k).1 = bG A P n f := by
  match k, hk with
  | 0, hk =>
    rw [show f = n by omega, bG_n]
    rfl
  | 1, hk => rw [fD_1, bG_l (by omega) (hl f (by omega))]; rfl
  | k + 2, hk =>
    have key : ∀ j, j ≤ k → bG A P n f = min ((fD (fun i => A (f + i)) (fun i => P (f + i)) (j + 1)).1 + bG A P n (f + j + 1)) ((fD (fun i => A (f + i)) (fun i => P (f + i)) j).1 + P (f + j) + bG A P n (f + j + 2)) := by
      intro j
      induction j with
      | zero =>
        intro _
        rw [fD_1, bG_r (p := f) (by omega)]
        show _ = min (A (f + 0) + bG A P n (f + 0 + 1)) (0 + P (f + 0) + bG A P n (f + 0 + 2))
        simp only [Nat.zero_add, Nat.add_zero]
      | succ j ih =>
        intro hj
        have h1 := ih (by omega)
        rw [bG_r (p := f + j + 1) (by omega)] at h1
        rw [fD_r]
        show _ = min (min ((fD (fun i => A (f + i)) (fun i => P (f + i)) (j + 1)).1 + A (f + (j + 1))) ((fD (fun i => A (f + i)) (fun i => P (f + i)) j).1 + P (f + j)) + bG A P n (f + (j + 1) + 1)) _
        rw [show f + (j + 1) = f + j + 1 by omega]
        rw [show f + j + 1 + 2 = f + j + 1 + 1 + 1 by omega, show f + j + 2 = f + j + 1 + 1 by omega] at *
        omega
    have h1 := key k (Nat.le_refl k)
    rw [show f + k + 2 = n by omega, bG_n, bG_l (p := f + k + 1) (by omega) (hl _ (by omega))] at h1
    rw [h1, fD_r]
    show min (_ + A (f + (k + 1))) (_ + P (f + k)) = _
    rw [show f + (k + 1) = f + k + 1 by omega]
    omega
/-- the class's row from the back -/
theorem fw_bD {A J : Nat → Int32} {a b : Nat → Nat} {n : Nat} (hn : n ≤ 16) (hA : ∀ p, p < n → A p = nI (a p) ∧ a p ≤ 30) (hJ : ∀ p, p < n → J p = nI (b p) ∧ b p ≤ 1000000) : ∀ k, k ≤ n → fw A J n k = (nI (bD a b n k).1, nI (bD a b n k).2) ∧ (bD a b n k).1 ≤ 30 * k ∧ (bD a b n k).2 ≤ 30 * k := by
  intro k
  induction k with
  | zero => exact fun _ => ⟨rfl, Nat.le_refl _, Nat.le_refl _⟩
  | succ k ih =>
    intro hk
    obtain ⟨e, h1, h2⟩ := ih (by omega)
    obtain ⟨eA, hA2⟩ := hA (n - (k + 1)) (by omega)
    obtain ⟨eJ, hJ2⟩ := hJ (n - (k + 1)) (by omega)
    have hm : (bD a b n (k + 1)).1 = min (a (n - (k + 1)) + (bD a b n k).1) (b (n - (k + 1)) + (bD a b n k).2) := rfl
    refine ⟨?_, by omega, by show (bD a b n k).1 ≤ _; omega⟩
    show ((if J (n - (k + 1)) + (fw A J n k).2 < A (n - (k + 1)) + (fw A J n k).1 then J (n - (k + 1)) + (fw A J n k).2 else A (n - (k + 1)) + (fw A J n k).1, (fw A J n k).1) : Int32 × Int32) = _
    rw [e, eA, eJ, nI_add, nI_add, nI_min (by omega) (by omega), hm]
    rfl
/-- what uA is -/
theorem uB_sp {x0 m0 : Nat} {c : Nat → Nat} {ok : Nat → Bool} : ∀ b, (∀ i, i < b → ok i = true → uB x0 c ok m0 b ≤ x0 + c i) ∧ (uB x0 c ok m0 b = m0 ∨ ∃ i, i < b ∧ ok i = true ∧ uB x0 c ok m0 b = x0 + c i) := by
  intro b
  induction b with
  | zero => exact ⟨fun i h => absurd h (Nat.not_lt_zero i), Or.inl rfl⟩
  | succ b ih =>
    obtain ⟨h1, h2⟩ := ih
    cases hk : ok b with
    | false =>
      rw [uB_no hk]
      refine ⟨fun i hi hoi => ?_, ?_⟩
      · rcases (show i < b ∨ i = b by omega) with g | g
        · exact h1 i g hoi
        · rw [g, hk] at hoi
          exact absurd hoi (by decide)
      · rcases h2 with h2 | ⟨i, g1, g2, g3⟩
        · exact Or.inl h2
        · exact Or.inr ⟨i, by omega, g2, g3⟩
    | true =>
      rw [uB_yes hk]
      refine ⟨fun i hi hoi => ?_, ?_⟩
      · rcases (show i < b ∨ i = b by omega) with g | g
        · have := h1 i g hoi
          omega
        · rw [g]
          omega
      · rcases Nat.le_total (uB x0 c ok m0 b) (x0 + c b) with g | g
        · rw [show min (uB x0 c ok m0 b) (x0 + c b) = uB x0 c ok m0 b by omega]
          rcases h2 with h2 | ⟨i, g1, g2, g3⟩
          · exact Or.inl h2
          · exact Or.inr ⟨i, by omega, g2, g3⟩
        · exact Or.inr ⟨b, by omega, hk, by omega⟩
theorem uA_sp {p u1 u0 N : Nat} {c1 : Nat → Nat} {c2 : Nat → Nat → Nat} {ok : Nat → Bool} {ok2 : Nat → Nat → Bool} : ∀ a, (∀ i, i < a → ok i = true → uA p u1 u0 N c1 c2 ok ok2 a ≤ u1 + c1 i) ∧ (¬ p = 0 → ∀ i j, i < a → j < N → ok i = true → ok2 j i = true → uA p u1 u0 N c1 c2 ok ok2 a ≤ u0 + c2 j i) ∧
    (uA p u1 u0 N c1 c2 ok ok2 a = 9999 ∨ (∃ i, i < a ∧ ok i = true ∧ uA p u1 u0 N c1 c2 ok ok2 a = u1 + c1 i) ∨ (¬ p = 0 ∧ ∃ i j, i < a ∧ j < N ∧ ok i = true ∧ ok2 j i = true ∧ uA p u1 u0 N c1 c2 ok ok2 a = u0 + c2 j i)) := by
  intro a
  induction a with
  | zero => exact ⟨fun i h => absurd h (Nat.not_lt_zero i), fun _ i j h => absurd h (Nat.not_lt_zero i), Or.inl rfl⟩
  | succ a ih =>
    obtain ⟨h1, h2, h3⟩ := ih
    have up : ∀ v, v = uA p u1 u0 N c1 c2 ok ok2 a → (v = 9999 ∨ (∃ i, i < a + 1 ∧ ok i = true ∧ v = u1 + c1 i) ∨ (¬ p = 0 ∧ ∃ i j, i < a + 1 ∧ j < N ∧ ok i = true ∧ ok2 j i = true ∧ v = u0 + c2 j i)) := by
      intro v hv
      rw [hv]
      rcases h3 with g | ⟨i, g1, g2, g3⟩ | ⟨g0, i, j, g1, g2, g3, g4, g5⟩
      · exact Or.inl g
      · exact Or.inr (Or.inl ⟨i, by omega, g2, g3⟩)
      · exact Or.inr (Or.inr ⟨g0, i, j, by omega, g2, g3, g4, g5⟩)
    cases hk : ok a with
    | false =>
      rw [uA_no hk]
      refine ⟨fun i hi hoi => ?_, fun h0 i j hi hj hoi hoj => ?_, up _ rfl⟩
      · rcases (show i < a ∨ i = a by omega) with g | g
        · exact h1 i g hoi
        · rw [g, hk] at hoi
          exact absurd hoi (by decide)
      · rcases (show i < a ∨ i = a by omega) with g | g
        · exact h2 h0 i j g hj hoi hoj
        · rw [g, hk] at hoi
          exact absurd hoi (by decide)
    | true =>
      by_cases h0 : p = 0
      · rw [uA_z hk h0]
        refine ⟨fun i hi hoi => ?_, fun h => absurd h0 h, ?_⟩
        · rcases (show i < a ∨ i = a by omega) with g | g
          · have := h1 i g hoi
            omega
          · rw [g]
            omega
        · rcases Nat.le_total (uA p u1 u0 N c1 c2 ok ok2 a) (u1 + c1 a) with g | g
          · exact up _ (by omega)
          · exact Or.inr (Or.inl ⟨a, by omega, hk, by omega⟩)
      · rw [uA_p hk h0]
        obtain ⟨b1, b2⟩ := uB_sp (x0 := u0) (m0 := min (uA p u1 u0 N c1 c2 ok ok2 a) (u1 + c1 a)) (c := fun b => c2 b a) (ok := fun b => ok2 b a) N
        have b3 := uB_le (x0 := u0) (m0 := min (uA p u1 u0 N c1 c2 ok ok2 a) (u1 + c1 a)) (c := fun b => c2 b a) (ok := fun b => ok2 b a) N
        refine ⟨fun i hi hoi => ?_, fun _ i j hi hj hoi hoj => ?_, ?_⟩
        · rcases (show i < a ∨ i = a by omega) with g | g
          · have := h1 i g hoi
            omega
          · rw [g]
            omega
        · rcases (show i < a ∨ i = a by omega) with g | g
          · have := h2 h0 i j g hj hoi hoj
            omega
          · rw [g] at hoj ⊢
            exact b1 j hj hoj
        · rcases b2 with g | ⟨j, g1, g2, g3⟩
          · rw [g]
            rcases Nat.le_total (uA p u1 u0 N c1 c2 ok ok2 a) (u1 + c1 a) with g9 | g9
            · exact up _ (by omega)
            · exact Or.inr (Or.inl ⟨a, by omega, hk, by omega⟩)
          · exact Or.inr (Or.inr ⟨h0, a, j, by omega, g1, hk, g2, g3⟩)
section
variable {σ : gS} {τ : gT} {nw nl lm K : Nat} {s : gS} {t : gT}
/-- upTo, from place f on, goes as the front's row -/
theorem TS_U (R : TS σ τ nw nl lm K s t) {f : Nat} : ∀ k, f + k ≤ nl → uU lm nw (ltF t) (mayF t) (jnF t) (fun i => tgF t (f + i)) k = fD (fun i => An σ τ nw nl (f + i)) (fun i => Pn σ τ nw nl (f + i)) k ∧ (fD (fun i => An σ τ nw nl (f + i)) (fun i => Pn σ τ nw nl (f + i)) k).1 ≤ 30 * k ∧ (fD (fun i => An σ τ nw nl (f + i)) (fun i => Pn σ τ nw nl (f + i)) k).2 ≤ 30 * k := by
  intro k
  induction k with
  | zero => exact fun _ => ⟨rfl, Nat.le_refl _, Nat.le_refl _⟩
  | succ k ih =>
    intro hk
    obtain ⟨e, h1, h2⟩ := ih (by omega)
    have hnl := Iv_nl (TS_I R)
    have hAn := TS_An (p := f + k) R (by omega)
    obtain ⟨a, ha, -, eA, hm, hmin, -⟩ := TS_A (p := f + k) R (by omega)
    have cA := TS_c1 R ha
    have eAn : An σ τ nw nl (f + k) = cN lm (ltF t a) := by unfold An; rw [eA, nI_clamp (by omega)]
    obtain ⟨s1, s2, s3⟩ := uA_sp (p := k) (u1 := (fD (fun i => An σ τ nw nl (f + i)) (fun i => Pn σ τ nw nl (f + i)) k).1) (u0 := (fD (fun i => An σ τ nw nl (f + i)) (fun i => Pn σ τ nw nl (f + i)) k).2) (N := nw) (c1 := fun a => cN lm (ltF t a)) (c2 := fun b a => cN lm (ltF t a + ltF t b)) (ok := fun a => mayF t (tgF t (f + k)) a) (ok2 := fun b a => mayF t (tgF t (f + (k - 1))) b && jnF t b a) nw
    have e1 : uA k (fD (fun i => An σ τ nw nl (f + i)) (fun i => Pn σ τ nw nl (f + i)) k).1 (fD (fun i => An σ τ nw nl (f + i)) (fun i => Pn σ τ nw nl (f + i)) k).2 nw (fun a => cN lm (ltF t a)) (fun b a => cN lm (ltF t a + ltF t b)) (fun a => mayF t (tgF t (f + k)) a) (fun b a => mayF t (tgF t (f + (k - 1))) b && jnF t b a) nw
        = (if k = 0 then (fD (fun i => An σ τ nw nl (f + i)) (fun i => Pn σ τ nw nl (f + i)) k).1 + An σ τ nw nl (f + k) else min ((fD (fun i => An σ τ nw nl (f + i)) (fun i => Pn σ τ nw nl (f + i)) k).1 + An σ τ nw nl (f + k)) ((fD (fun i => An σ τ nw nl (f + i)) (fun i => Pn σ τ nw nl (f + i)) k).2 + Pn σ τ nw nl (f + (k - 1)))) := by
      revert s1 s2 s3
      generalize uA k (fD (fun i => An σ τ nw nl (f + i)) (fun i => Pn σ τ nw nl (f + i)) k).1 (fD (fun i => An σ τ nw nl (f + i)) (fun i => Pn σ τ nw nl (f + i)) k).2 nw (fun a => cN lm (ltF t a)) (fun b a => cN lm (ltF t a + ltF t b)) (fun a => mayF t (tgF t (f + k)) a) (fun b a => mayF t (tgF t (f + (k - 1))) b && jnF t b a) nw = v
      intro s1 s2 s3
      have lo : v ≤ (fD (fun i => An σ τ nw nl (f + i)) (fun i => Pn σ τ nw nl (f + i)) k).1 + An σ τ nw nl (f + k) := by
        rw [eAn]
        exact s1 a ha hm
      have up1 : ∀ i, i < nw → mayF t (tgF t (f + k)) i = true → An σ τ nw nl (f + k) ≤ cN lm (ltF t i) := by
        intro i hi hoi
        rw [eAn]
        exact hmin i hi hoi
      by_cases h0 : k = 0
      · rw [if_pos h0]
        rcases s3 with g | ⟨i, g1, g2, g3⟩ | ⟨g0, -⟩
        · omega
        · have := up1 i g1 g2
          have g4 : v = (fD (fun i => An σ τ nw nl (f + i)) (fun i => Pn σ τ nw nl (f + i)) k).1 + cN lm (ltF t i) := g3
          omega
        · exact absurd h0 g0
      · rw [if_neg h0]
        have e9 : f + (k - 1) + 1 = f + k := by omega
        have hPn := TS_Pn R (f + (k - 1))
        rcases TS_P (p := f + (k - 1)) R with ⟨hno, -, eJ⟩ | ⟨x, y, hx, hy, -, k1, k2, k3, -, eJ, hmin2⟩
        · have eP : Pn σ τ nw nl (f + (k - 1)) = 1000000 := by unfold Pn; rw [eJ, nI_clamp (by omega)]
          rcases s3 with g | ⟨i, g1, g2, g3⟩ | ⟨-, i, j, g1, g2, g3, g4, g5⟩
          · omega
          · have := up1 i g1 g2
            have g4 : v = (fD (fun i => An σ τ nw nl (f + i)) (fun i => Pn σ τ nw nl (f + i)) k).1 + cN lm (ltF t i) := g3
            omega
          · have g6 : mayF t (tgF t (f + (k - 1))) j = true ∧ jnF t j i = true := by
              simpa [Bool.and_eq_true] using g4
            exact absurd ⟨by omega, g6.1, by rw [e9]; exact g3, g6.2⟩ (hno j i g2 g1)
        · have cP := TS_c2 R hx hy
          have eP : Pn σ τ nw nl (f + (k - 1)) = cN lm (ltF t x + ltF t y) := by unfold Pn; rw [eJ, nI_clamp (by omega)]
          have lo2 : v ≤ (fD (fun i => An σ τ nw nl (f + i)) (fun i => Pn σ τ nw nl (f + i)) k).2 + Pn σ τ nw nl (f + (k - 1)) := by
            rw [eP, Nat.add_comm (ltF t x)]
            exact s2 h0 y x hy hx (by rw [e9] at k2; exact k2) (by simp [k1, k3])
          rcases s3 with g | ⟨i, g1, g2, g3⟩ | ⟨-, i, j, g1, g2, g3, g4, g5⟩
          · omega
          · have := up1 i g1 g2
            have g4 : v = (fD (fun i => An σ τ nw nl (f + i)) (fun i => Pn σ τ nw nl (f + i)) k).1 + cN lm (ltF t i) := g3
            omega
          · have g6 : mayF t (tgF t (f + (k - 1))) j = true ∧ jnF t j i = true := by
              simpa [Bool.and_eq_true] using g4
            have h9 := (hmin2 j i g2 g1 g6.1 (by rw [e9]; exact g3) g6.2).1
            have g7 : v = (fD (fun i => An σ τ nw nl (f + i)) (fun i => Pn σ τ nw nl (f + i)) k).2 + cN lm (ltF t i + ltF t j) := g5
            rw [Nat.add_comm (ltF t i)] at g7
            omega
    have e2 : uU lm nw (ltF t) (mayF t) (jnF t) (fun i => tgF t (f + i)) (k + 1) = fD (fun i => An σ τ nw nl (f + i)) (fun i => Pn σ τ nw nl (f + i)) (k + 1) := by
      show ((uA k _ _ nw _ _ _ _ nw, _) : Nat × Nat) = ((if k = 0 then _ else _, _) : Nat × Nat)
      rw [e]
      exact congrArg (fun v => (v, (fD (fun i => An σ τ nw nl (f + i)) (fun i => Pn σ τ nw nl (f + i)) k).1)) e1
    refine ⟨e2, ?_, ?_⟩
    · rw [fD_s]
      split <;> omega
    · show (fD (fun i => An σ τ nw nl (f + i)) (fun i => Pn σ τ nw nl (f + i)) k).1 ≤ _
      omega
abbrev Gx (σ : gS) (τ : gT) (nw nl p : Nat) : Nat := bG (An σ τ nw nl) (Pn σ τ nw nl) nl p
theorem TS_L (R : TS σ τ nw nl lm K s t) {p : Nat} (hp : p ≤ nl) : Lx lm nw nl t p = Gx σ τ nw nl p := by
  unfold Lx
  rw [(TS_U (f := p) R (nl - p) (by omega)).1]
  exact fD_bG (by omega) (fun q hq => by
    have h1 := TS_An (p := q) R (by omega)
    have h2 := TS_Pl (p := q) R (by omega)
    omega)
theorem TS_F (R : TS σ τ nw nl lm K s t) {p : Nat} (hp : p ≤ nl) : FX σ τ nw nl (nl - p) = nI (Gx σ τ nw nl p) ∧ Gx σ τ nw nl p ≤ 480 := by
  have h := fw_bD (A := LAx σ τ nw nl) (J := LJx σ τ nw nl) (a := An σ τ nw nl) (b := Pn σ τ nw nl) (Iv_nl (TS_I R)) (fun q hq => ⟨(TS_An R hq).1, (TS_An R hq).2.2⟩) (fun q _ => ⟨(TS_Pn R q).1, by rcases (TS_Pn R q).2 with g | g <;> omega⟩) (nl - p) (by omega)
  have hnl := Iv_nl (TS_I R)
  refine ⟨by unfold FX; rw [h.1]; rfl, ?_⟩
  show (bD _ _ _ _).1 ≤ 480
  omega
/-- cheapestCount: alike -/
theorem TS_cc (R : TS σ τ nw nl lm K s t) : CC0 σ τ nw nl = al nl (s 2) (nI (UUx lm nw t nl).1) := by
  unfold CC0
  have h1 := TS_F (p := 0) R (Nat.zero_le _)
  have h2 := TS_L (p := 0) R (Nat.zero_le _)
  have e : (UUx lm nw t nl).1 = Lx lm nw nl t 0 := by
    unfold Lx
    rw [Nat.sub_zero, show (fun i => tgF t (0 + i)) = tgF t from funext fun i => by rw [Nat.zero_add]]
  rw [Nat.sub_zero] at h1
  rw [h1.1, e, h2, (TS_n R).1]
end
