/-! class and Sim compute alike: wording, count, stand-ins, wordings -/
section
variable {σ : gS} {τ : gT} {nw nl lm K : Nat} {s : gS} {t : gT}
def Sn (σ : gS) (τ : gT) (nw nl p : Nat) : Nat := (Sx σ τ nw nl p).toNatClampNeg
def Am (σ : gS) (τ : gT) (nw nl p : Nat) : Nat := (Ax σ τ nw nl p).toNatClampNeg
def Bm (σ : gS) (τ : gT) (nw nl p : Nat) : Nat := (Bx σ τ nw nl p).toNatClampNeg
theorem prx_no {p : Nat} (h : prx σ τ nw nl p = false) : bpx σ τ nw nl p = -1 ∨ LAx σ τ nw nl p + FX σ τ nw nl (nl - (p + 1)) = FX σ τ nw nl (nl - p) := Classical.byContradiction fun q => by
  have := of_decide_eq_false h
  exact this q
theorem prx_ye {p : Nat} (h : prx σ τ nw nl p = true) : ¬ (bpx σ τ nw nl p = -1 ∨ LAx σ τ nw nl p + FX σ τ nw nl (nl - (p + 1)) = FX σ τ nw nl (nl - p)) := of_decide_eq_true h
/-- what G is at p -/
theorem TS_G (R : TS σ τ nw nl lm K s t) {p : Nat} (hp : p < nl) : (p + 1 < nl ∧ Gx σ τ nw nl p = min (An σ τ nw nl p + Gx σ τ nw nl (p + 1)) (Pn σ τ nw nl p + Gx σ τ nw nl (p + 2))) ∨ (p + 1 = nl ∧ Gx σ τ nw nl p = An σ τ nw nl p ∧ Gx σ τ nw nl (p + 1) = 0) := by
  rcases Nat.lt_or_ge (p + 1) nl with h | h
  · exact Or.inl ⟨h, bG_r h⟩
  · have e : p + 1 = nl := by omega
    have h1 := TS_An R hp
    have h2 := TS_Pl (p := p) R (by omega)
    exact Or.inr ⟨e, bG_l e (by omega), by rw [e]; exact bG_n _ _ _⟩
theorem TS_WS (R : TS σ τ nw nl lm K s t) : WS lm nw nl t (prx σ τ nw nl) (Sn σ τ nw nl) (Am σ τ nw nl) (Bm σ τ nw nl) := by
  intro p hp
  have h12 := Iv_nw (TS_I R)
  obtain ⟨a, ha, eS, eA, hm, hmin, hfst⟩ := TS_A R hp
  have cA := TS_c1 R ha
  have eAn : An σ τ nw nl p = cN lm (ltF t a) := by unfold An; rw [eA, nI_clamp (by omega)]
  have eSn : Sn σ τ nw nl p = a := by unfold Sn; rw [eS, nI_clamp (by omega)]
  have hAn := TS_An R hp
  have g0 := TS_F (p := p) R (by omega)
  have g1 := TS_F (p := p + 1) R (by omega)
  have l0 := TS_L (p := p) R (by omega)
  have l1 := TS_L (p := p + 1) R (by omega)
  have gg := TS_G R hp
  refine ⟨fun h => ?_, fun h => ?_⟩
  · have key : An σ τ nw nl p + Gx σ τ nw nl (p + 1) = Gx σ τ nw nl p := by
      rcases prx_no h with e | e
      · rcases TS_P (p := p) R with ⟨-, -, eJ⟩ | ⟨x, y, hx, hy, -, -, -, -, eb, -⟩
        · have eP : Pn σ τ nw nl p = 1000000 := by unfold Pn; rw [eJ, nI_clamp (by omega)]
          rcases gg with ⟨-, g⟩ | ⟨-, g, g'⟩ <;> omega
        · rw [eb] at e
          exact absurd e (pr_ne (by omega) (by omega))
      · rw [hAn.1, g1.1, g0.1, nI_add] at e
        exact nI_eqN e (by omega) (by omega)
    refine ⟨by omega, ?_, fun b hb9 q => ?_⟩
    · rw [eSn]
      exact ⟨hm, by rw [l0, l1, ← eAn]; exact key⟩
    · obtain ⟨q1, q2⟩ := q
      rw [l0, l1] at q2
      have := hfst b (by omega) q1
      omega
  · have hn := prx_ye h
    have hn1 : ¬ bpx σ τ nw nl p = -1 := fun q => hn (Or.inl q)
    have hn2 : ¬ (An σ τ nw nl p + Gx σ τ nw nl (p + 1) = Gx σ τ nw nl p) := fun q => hn (Or.inr (by rw [hAn.1, g1.1, g0.1, nI_add, q]))
    rcases TS_P (p := p) R with ⟨-, e, -⟩ | ⟨x, y, hx, hy, hp1, k1, k2, k3, eb, eJ, hmin2⟩
    · exact absurd e hn1
    · have cP := TS_c2 R hx hy
      have eP : Pn σ τ nw nl p = cN lm (ltF t x + ltF t y) := by unfold Pn; rw [eJ, nI_clamp (by omega)]
      have eX : Am σ τ nw nl p = x := by
        unfold Am Ax
        rw [eb, pr_div (by omega) (by omega), nI_clamp (by omega)]
      have eY : Bm σ τ nw nl p = y := by
        unfold Bm Bx
        rw [eb, pr_rem (by omega) (by omega), nI_clamp (by omega)]
      have l2 := TS_L (p := p + 2) R (by omega)
      rcases gg with ⟨-, g⟩ | ⟨g, -⟩
      · refine ⟨hp1, fun b hb9 q => ?_, by omega, by omega, ?_, fun b c hb9 hc q => ?_⟩
        · obtain ⟨q1, q2⟩ := q
          rw [l0, l1] at q2
          have := hmin b hb9 q1
          omega
        · rw [eX, eY]
          exact ⟨k1, k2, k3, by rw [l0, l2]; omega⟩
        · obtain ⟨q1, q2, q3, q4⟩ := q
          rw [l0, l2] at q4
          have h9 := hmin2 b c hb9 hc q1 q2 q3
          have := h9.2 (by omega)
          omega
      · omega
/-- the word and the joint, out of the Sim's wording -/
theorem TS_wq (R : TS σ τ nw nl lm K s t) {q : Nat} (hq : q < nl) : ∃ w, w < nw ∧ cwd (prx σ τ nw nl) (Sx σ τ nw nl) (Ax σ τ nw nl) (Bx σ τ nw nl) q = nI w ∧ ((cjd (prx σ τ nw nl) q = 0 ∧ wq (prx σ τ nw nl) (Sn σ τ nw nl) (Am σ τ nw nl) (Bm σ τ nw nl) q = w) ∨ (cjd (prx σ τ nw nl) q = 1 ∧ wq (prx σ τ nw nl) (Sn σ τ nw nl) (Am σ τ nw nl) (Bm σ τ nw nl) q = 100 + w)) := by
  have h12 := Iv_nw (TS_I R)
  obtain ⟨w, hw, e⟩ := cwx_in (TS_I R) q hq
  refine ⟨w, hw, e, ?_⟩
  unfold cwd at e
  unfold cjd wq
  cases h1 : isSec (prx σ τ nw nl) q with
  | true =>
    rw [h1, if_pos rfl] at e
    refine Or.inl ⟨?_, ?_⟩
    · rw [show isSec (prx σ τ nw nl) (q + 1) = false by simp [isSec, h1]]
      rfl
    · rw [if_pos rfl]
      unfold Bm
      rw [e, nI_clamp (by omega)]
  | false =>
    rw [h1, if_neg (by decide)] at e
    cases h2 : prx σ τ nw nl q with
    | true =>
      rw [h2, if_pos rfl] at e
      refine Or.inr ⟨?_, ?_⟩
      · rw [show isSec (prx σ τ nw nl) (q + 1) = true by simp [isSec, h1, h2]]
        rfl
      · rw [if_neg (by decide), if_pos rfl]
        unfold Am
        rw [e, nI_clamp (by omega)]
    | false =>
      rw [h2, if_neg (by decide)] at e
      refine Or.inl ⟨?_, ?_⟩
      · rw [show isSec (prx σ τ nw nl) (q + 1) = false by simp [isSec, h1, h2]]
        rfl
      · rw [if_neg (by decide), if_neg (by decide)]
        unfold Sn
        rw [e, nI_clamp (by omega)]
/-- the count: alike -/
theorem TS_ct (R : TS σ τ nw nl lm K s t) : CTx σ τ nl = al nl (s 2) (nI (SSx lm t nl).1) := by
  have h12 := Iv_nw (TS_I R)
  have key : ∀ d p : Nat, p ≤ nl → nl - p ≤ d → (SSx lm t p).2 = 0 → ct (σ 4) nl (τ 0) (τ 7) (τ 8) d p (nI (SSx lm t p).1) = nI (SSx lm t nl).1 := by
    intro d
    induction d using Nat.strongRecOn with
    | _ d ih =>
      intro p hp hd h0
      rcases Nat.lt_or_ge p nl with hpl | hpl
      · match d, hd, ih with
        | 0, hd, _ => omega
        | d + 1, hd, ih =>
          obtain ⟨e7, hw⟩ := TS_tg R hpl
          have c1 := TS_c1 R hw
          by_cases hj : τ 8 p = 0
          · have hjd : jdF t p = false := by
              unfold jdF
              rw [(TS_w R hpl).2, hj]
              rfl
            have e : SSx lm t (p + 1) = ((SSx lm t p).1 + cN lm (ltF t (tgF t p)), 0) := by
              show (if jdF t p = true then _ else _) = _
              rw [hjd, if_neg (by decide), h0, Nat.zero_add]
            rw [ct_1 hpl hj, e7, nI_clamp (by omega), c1.1, nI_add]
            have h9 := ih d (by omega) (p + 1) (by omega) (by omega) (by rw [e])
            rw [e] at h9
            exact h9
          · have hp1 := Iv_jl (TS_I R) hpl hj
            have hj1 : τ 8 (p + 1) = 0 := (TS_r R hp1).resolve_left hj
            obtain ⟨e7b, hwb⟩ := TS_tg R hp1
            have c2 := TS_c2 R hw hwb
            have hjd : jdF t p = true := by
              unfold jdF
              rw [(TS_w R hpl).2]
              exact decide_eq_true hj
            have hjd1 : jdF t (p + 1) = false := by
              unfold jdF
              rw [(TS_w R hp1).2, hj1]
              rfl
            have e : SSx lm t (p + 1) = ((SSx lm t p).1, ltF t (tgF t p)) := by
              show (if jdF t p = true then _ else _) = _
              rw [hjd, if_pos rfl, h0, Nat.zero_add]
            have e2 : SSx lm t (p + 2) = ((SSx lm t p).1 + cN lm (ltF t (tgF t p) + ltF t (tgF t (p + 1))), 0) := by
              show (if jdF t (p + 1) = true then _ else _) = _
              rw [hjd1, if_neg (by decide), show ssF lm (ltF t) (tgF t) (jdF t) (p + 1) = ((SSx lm t p).1, ltF t (tgF t p)) from e]
            rw [ct_2 hpl hj, e7, e7b, nI_clamp (by omega), nI_clamp (by omega), c2.1, nI_add]
            match d, hd, ih with
            | 0, hd, _ => omega
            | d + 1, hd, ih =>
              have h9 := ih (d + 1) (by omega) (p + 2) (by omega) (by omega) (by rw [e2])
              rw [e2] at h9
              exact h9
      · have e : p = nl := by omega
        subst e
        exact ct_e
  unfold CTx
  rw [(TS_n R).1]
  have h9 := key nl 0 (Nat.zero_le _) (by omega) rfl
  exact congrArg (al nl (σ 5)) h9
/-- the words by themselves -/
def alN (lm : Nat) (lt tg : Nat → Nat) : Nat → Nat
  | 0 => 0
  | p + 1 => alN lm lt tg p + cN lm (lt (tg p))
abbrev ALx (lm : Nat) (t : gT) : Nat → Nat := alN lm (ltF t) (tgF t)
theorem AL_le (V : SV nw nl lm s t) : ∀ p, p ≤ nl → ALx lm t p ≤ 30 * p := by
  intro p
  induction p with
  | zero => exact fun _ => Nat.le_refl _
  | succ p ih =>
    intro hp
    have h := ih (by omega)
    have h2 := SV_lt V (SV_tg V (show p < nl by omega)).2
    have h3 := cN_le (x := ltF t (tgF t p)) (SV_lm V)
    show ALx lm t p + cN lm (ltF t (tgF t p)) ≤ _
    omega
theorem SS_al (V : SV nw nl lm s t) : ∀ p, p ≤ nl → (SSx lm t p).1 + cN lm (SSx lm t p).2 ≤ ALx lm t p := by
  have hz : cN lm 0 = 0 := by
    have := cN_le (x := 0) (SV_lm V)
    omega
  intro p
  induction p with
  | zero => intro _; show 0 + cN lm 0 ≤ 0; omega
  | succ p ih =>
    intro hp
    have h := ih (by omega)
    have hs := cN_sub (x := (SSx lm t p).2) (y := ltF t (tgF t p)) (SV_lm V)
    have ea : ALx lm t (p + 1) = ALx lm t p + cN lm (ltF t (tgF t p)) := rfl
    cases hj : jdF t p with
    | true =>
      have e : SSx lm t (p + 1) = ((SSx lm t p).1, (SSx lm t p).2 + ltF t (tgF t p)) := by
        show (if jdF t p = true then _ else _) = _
        rw [hj, if_pos rfl]
      rw [e, ea]
      show (SSx lm t p).1 + cN lm ((SSx lm t p).2 + ltF t (tgF t p)) ≤ _
      omega
    | false =>
      have e : SSx lm t (p + 1) = ((SSx lm t p).1 + cN lm ((SSx lm t p).2 + ltF t (tgF t p)), 0) := by
        show (if jdF t p = true then _ else _) = _
        rw [hj, if_neg (by decide)]
      rw [e, ea]
      show (SSx lm t p).1 + cN lm ((SSx lm t p).2 + ltF t (tgF t p)) + cN lm 0 ≤ _
      omega
theorem mayF_own {a : Nat} : mayF t a a = true := by simp [mayF]
theorem G_al (R : TS σ τ nw nl lm K s t) : ∀ d p, p + d = nl → Gx σ τ nw nl p + ALx lm t p ≤ ALx lm t nl := by
  intro d
  induction d with
  | zero =>
    intro p hp
    rw [show p = nl by omega]
    have := bG_n (An σ τ nw nl) (Pn σ τ nw nl) nl
    show bG _ _ _ _ + _ ≤ _
    omega
  | succ d ih =>
    intro p hp
    have h := ih (p + 1) (by omega)
    have hp2 : p < nl := by omega
    obtain ⟨a, ha, -, eA, -, hmin, -⟩ := TS_A R hp2
    have cA := TS_c1 R ha
    have eAn : An σ τ nw nl p = cN lm (ltF t a) := by unfold An; rw [eA, nI_clamp (by omega)]
    have h2 := hmin (tgF t p) (TS_tg R hp2).2 mayF_own
    have ea : ALx lm t (p + 1) = ALx lm t p + cN lm (ltF t (tgF t p)) := rfl
    rcases TS_G R hp2 with ⟨-, g⟩ | ⟨-, g, g'⟩ <;> omega
/-- how many may stand for a, of the words below b -/
def mnF (t : gT) (a : Nat) : Nat → Nat
  | 0 => 0
  | b + 1 => mnF t a b + (if mayF t a b = true then 1 else 0)
theorem mnF_le (t : gT) (a : Nat) : ∀ b, mnF t a b ≤ b := by
  intro b
  induction b with
  | zero => exact Nat.le_refl _
  | succ b ih =>
    show mnF t a b + (if mayF t a b = true then 1 else 0) ≤ _
    split <;> omega
theorem zb_nI (b : Bool) : zb b = nI (if b = true then 1 else 0) := by cases b <;> rfl
theorem TS_mn (R : TS σ τ nw nl lm K s t) {a : Nat} (ha : a < nw) : bcF (τ 1 a) = nI (mnF t a nw) ∧ 1 ≤ mnF t a nw := by
  obtain ⟨x, e, hx, ht⟩ := Iv_st (TS_I R) a ha
  have h12 := Iv_nw (TS_I R)
  have hx2 := lt12 h12 hx
  have key : ∀ b, b ≤ nw → mnF t a b = pcn x b := by
    intro b
    induction b with
    | zero => exact fun _ => rfl
    | succ b ih =>
      intro hb9
      show mnF t a b + _ = pcn x b + x / 2 ^ b % 2
      rw [ih (by omega)]
      have h1 := TS_may R ha (show b < nw by omega)
      rw [e, hb_div (by omega) (by omega)] at h1
      have h3 : x / 2 ^ b % 2 < 2 := Nat.mod_lt _ (by decide)
      by_cases q : x / 2 ^ b % 2 = 1
      · rw [if_pos q] at h1
        have h4 : mayF t a b = true := zb_1 (by rw [← h1]; decide)
        rw [h4, if_pos rfl, q]
      · rw [if_neg q] at h1
        have h4 : mayF t a b = false := zb_0 h1.symm
        rw [h4, if_neg (by decide)]
        omega
  have e2 := pcn_hi hx (12 - nw)
  rw [show nw + (12 - nw) = 12 by omega] at e2
  refine ⟨by rw [e, bc_pc hx2, e2, key nw (Nat.le_refl _)], ?_⟩
  have mono : ∀ b c, b ≤ c → mnF t a b ≤ mnF t a c := by
    intro b c h
    induction c with
    | zero => rw [show b = 0 by omega]; exact Nat.le_refl _
    | succ c ih =>
      rcases (show b ≤ c ∨ b = c + 1 by omega) with g | g
      · have := ih g
        show _ ≤ mnF t a c + (if mayF t a c = true then 1 else 0)
        split <;> omega
      · rw [g]
        exact Nat.le_refl _
  have h1 : mnF t a (a + 1) = mnF t a a + 1 := by
    show mnF t a a + (if mayF t a a = true then 1 else 0) = _
    rw [mayF_own, if_pos rfl]
  have := mono (a + 1) nw (by omega)
  omega
/-- the wordings, a million at most -/
def wN (t : gT) (nw : Nat) : Nat → Nat
  | 0 => 1
  | p + 1 => min 1000000 (wN t nw p * mnF t (tgF t p) nw)
theorem wN_le (t : gT) (nw : Nat) : ∀ p, wN t nw p ≤ 1000000 := by
  intro p
  cases p with
  | zero => exact (by decide : 1 ≤ 1000000)
  | succ p => exact Nat.min_le_left _ _
theorem TS_wo (R : TS σ τ nw nl lm K s t) : ∀ p, p ≤ nl → wo (τ 1) (τ 7) p = nI (wN t nw p) := by
  have h12 := Iv_nw (TS_I R)
  intro p
  induction p with
  | zero => exact fun _ => rfl
  | succ p ih =>
    intro hp
    obtain ⟨e7, hw⟩ := TS_tg R (show p < nl by omega)
    have m1 := TS_mn R hw
    have m2 := mnF_le t (tgF t p) nw
    have w1 := wN_le t nw p
    have h9 : wN t nw p * mnF t (tgF t p) nw ≤ 1000000 * 12 := Nat.mul_le_mul w1 (by omega)
    show (if _ < _ then _ else _ : Int32) = nI (min 1000000 (wN t nw p * mnF t (tgF t p) nw))
    rw [ih (by omega), e7, nI_clamp (by omega), m1.1, pk_mul, nM]
    by_cases q : 1000000 < wN t nw p * mnF t (tgF t p) nw
    · rw [if_pos ((nI_ltI (by omega) (by omega)).mpr q), show min 1000000 (wN t nw p * mnF t (tgF t p) nw) = 1000000 by omega]
    · rw [if_neg (fun z => q ((nI_ltI (by omega) (by omega)).mp z)), show min 1000000 (wN t nw p * mnF t (tgF t p) nw) = wN t nw p * mnF t (tgF t p) nw by omega]
end
