/-! class and reference, side by side -/
def RR (σ : gS) (τ : gT) (nw nl lm : Nat) : Prop := IX σ τ nw nl lm ∧ (∀ i, τ 35 i = 0 ∨ τ 35 i = 1) ∧ σ 21 = σ 3 ∧ σ 22 = σ 4 ∧ σ 23 = σ 5 ∧ σ 24 = σ 6 ∧ σ 30 = σ 9 ∧ σ 25 = σ 10 ∧ σ 26 = σ 11 ∧ τ 27 = τ 0 ∧ τ 28 = τ 1 ∧ τ 29 = τ 2 ∧ τ 31 = τ 7 ∧ τ 32 = τ 8 ∧ ∀ i, nw ≤ i → τ 2 i = 0
def isM (P : Nat → Nat → Prop) (f : Nat → Nat → Int32) (n : Nat) (v : Int32) : Prop := (∀ a b, a < n → b < n → P a b → v ≤ f a b) ∧ v ≤ 1000000 ∧ (v = 1000000 ∨ ∃ a b, a < n ∧ b < n ∧ P a b ∧ v = f a b)
theorem isM_le {P : Nat → Nat → Prop} {f : Nat → Nat → Int32} {n : Nat} {v w : Int32} (h : isM P f n v) (g : isM P f n w) : v ≤ w := by
  rcases g.2.2 with e | ⟨a, b, ha, hb, hp, e⟩
  · rw [e]; exact h.2.1
  · rw [e]; exact h.1 a b ha hb hp
theorem isM_eq {P : Nat → Nat → Prop} {f : Nat → Nat → Int32} {n : Nat} {v w : Int32} (h : isM P f n v) (g : isM P f n w) : v = w := i_anti (isM_le h g) (isM_le g h)
theorem isM_cong {P P' : Nat → Nat → Prop} {f : Nat → Nat → Int32} {n : Nat} {v : Int32} (hP : ∀ a b, a < n → b < n → (P a b ↔ P' a b)) (h : isM P f n v) : isM P' f n v := by
  refine ⟨fun a b ha hb hp => h.1 a b ha hb ((hP a b ha hb).mpr hp), h.2.1, ?_⟩
  rcases h.2.2 with e | ⟨a, b, ha, hb, hp, e⟩
  · exact Or.inl e
  · exact Or.inr ⟨a, b, ha, hb, (hP a b ha hb).mp hp, e⟩
theorem isM_add {P : Nat → Nat → Prop} {f : Nat → Nat → Int32} {n a0 b0 : Nat} {v : Int32} (h : isM P f n v) (ha : a0 < n) (hb : b0 < n) (hf : f a0 b0 ≤ 1000000) : isM (fun a b => P a b ∨ (a = a0 ∧ b = b0)) f n (mn (f a0 b0) v) := by
  unfold mn
  by_cases q : f a0 b0 < v
  · rw [if_pos q]
    refine ⟨fun a b ha hb hp => ?_, hf, Or.inr ⟨a0, b0, ha, hb, Or.inr ⟨rfl, rfl⟩, rfl⟩⟩
    rcases hp with hp | ⟨rfl, rfl⟩
    · exact i_tr (i_le q) (h.1 a b ha hb hp)
    · exact i_rf _
  · rw [if_neg q]
    refine ⟨fun a b ha hb hp => ?_, h.2.1, ?_⟩
    · rcases hp with hp | ⟨rfl, rfl⟩
      · exact h.1 a b ha hb hp
      · exact i_nlt q
    · rcases h.2.2 with e | ⟨a, b, h1, h2, hp, e⟩
      · exact Or.inl e
      · exact Or.inr ⟨a, b, h1, h2, Or.inl hp, e⟩
theorem gJ_isM {nw nl lm : Nat} {a3 a9 a4 : Int32} {L S J Tg Jd Cj : Nat → Int32} (I : Iv nw nl lm a3 a9 a4 L S Tg Jd Cj) (p : Nat) : isM (pq nl S J Tg p) (fun a b => cn a4 (L a + L b)) nw (gJ a4 nw nl L S J Tg p) := by
  unfold gJ
  rcases bp_fin (p := p) (J := J) I with ⟨h, e⟩ | ⟨a, b, ha, hb, hq, hm, -, e⟩
  · rw [e]
    exact ⟨fun a b ha hb hp => absurd hp (h a b ha hb), i_rf _, Or.inl rfl⟩
  · rw [e]
    exact ⟨hm, i_le (nI_60 (Iv_cn2 I ha hb)), Or.inr ⟨a, b, ha, hb, hq, rfl⟩⟩
theorem pc_0 : True := trivial
/-- how many of the lower n bits are set -/
def pcn (y : Nat) : Nat → Nat
  | 0 => 0
  | a + 1 => pcn y a + y / 2 ^ a % 2
theorem sI_pc {y : Nat} (hy : y < 2 ^ 31) : ∀ n, n ≤ 31 → sI (nI y) n = nI (pcn y n) := by
  intro n
  induction n with
  | zero => exact fun _ => rfl
  | succ a ih =>
    intro ha
    show sI (nI y) a + ((nI y >>> (nI a &&& 31)) &&& 1) = _
    rw [ih (by omega), pk_shrN hy (nI a &&& 31) a (smod_l a (by omega)), pk_andN (Nat.lt_of_le_of_lt (Nat.div_le_self _ _) (by omega)) (m := 1) 1 (by decide), nI_add]
    rfl
theorem bc_all : (List.range 4096).all (fun y => decide (bcF (nI y) = nI (pcn y 12))) = true := by decide +kernel
theorem bc_pc {y : Nat} (hy : y < 4096) : bcF (nI y) = nI (pcn y 12) := of_decide_eq_true (List.all_eq_true.mp bc_all y (List.mem_range.mpr hy))
theorem pcn_hi {y n : Nat} (hy : y < 2 ^ n) : ∀ m, pcn y (n + m) = pcn y n := by
  intro m
  induction m with
  | zero => rfl
  | succ m ih =>
    show pcn y (n + m) + y / 2 ^ (n + m) % 2 = _
    rw [ih, Nat.div_eq_of_lt (Nat.lt_of_lt_of_le hy (Nat.pow_le_pow_right (by decide) (by omega)))]
    rfl
theorem sI_bc {y n : Nat} (hn : n ≤ 12) (hy : y < 2 ^ n) : sI (nI y) n = bcF (nI y) := by
  have h := lt12 hn hy
  rw [sI_pc (by omega) n (by omega), bc_pc h, show 12 = n + (12 - n) by omega, pcn_hi hy]
theorem wm_wo {nw nl lm : Nat} {a3 a9 a4 : Int32} {L S Tg Jd Cj : Nat → Int32} (I : Iv nw nl lm a3 a9 a4 L S Tg Jd Cj) : ∀ p, p ≤ nl → wm nw S Tg p = wo S Tg p := by
  intro p
  induction p with
  | zero => exact fun _ => rfl
  | succ p ih =>
    intro hp
    obtain ⟨w, hw, e⟩ := Iv_tg I p (by omega)
    obtain ⟨x, e2, hx, -⟩ := Iv_st I w hw
    have h12 := Iv_nw I
    have e3 : sI (S (Tg p).toNatClampNeg) nw = bcF (S (Tg p).toNatClampNeg) := by
      rw [e, nI_clamp (by omega), e2]
      exact sI_bc h12 hx
    show (if _ < _ then _ else _) = (if _ < _ then _ else _)
    rw [ih (by omega), e3]
    by_cases q : wo S Tg p * bcF (S (Tg p).toNatClampNeg) < 1000000
    · rw [if_pos q, if_neg (i_ng (i_le q))]
    · rw [if_neg q]
      by_cases q2 : 1000000 < wo S Tg p * bcF (S (Tg p).toNatClampNeg)
      · rw [if_pos q2]
      · rw [if_neg q2]
        exact i_anti (i_nlt q) (i_nlt q2)
theorem dw_cong {d : Int64} {L L' C C' S S' : Nat → Int32} {n : Nat} (h1 : ∀ w, w < n → L w = L' w) (h2 : ∀ w, w < n → C w = C' w) (h3 : ∀ w, w < n → S w = S' w) : dw d L C S n = dw d L' C' S' n := by
  induction n with
  | zero => rfl
  | succ n ih =>
    show ((dw d L C S n * 31 + _) * 31 + _) * 31 + _ = ((dw d L' C' S' n * 31 + _) * 31 + _) * 31 + _
    rw [ih (fun w hw => h1 w (by omega)) (fun w hw => h2 w (by omega)) (fun w hw => h3 w (by omega)), h1 n (by omega), h2 n (by omega), h3 n (by omega)]
section
variable {σ : gS} {τ : gT} {nw nl lm : Nat}
theorem RR_IM (R : RR σ τ nw nl lm) : IM σ τ nw nl lm := by
  obtain ⟨I, hb, e1, e2, e3, e4, e5, e6, e7, e8, e9, e10, e11, e12, e13⟩ := R
  unfold IM
  rw [e1, e2, e5, e8, e9, e11, e12]
  obtain ⟨x1, x2, x3, x4, x5, x6, x7, x8, x9, x10, x11, x12, x13⟩ := I
  exact ⟨x1, x2, x3, x4, x5, x6, x7, x8, x9, hb, x11, x12, x13⟩
theorem RR_CT (R : RR σ τ nw nl lm) : CTm σ τ nl = CTx σ τ nl := by
  obtain ⟨I, hb, e1, e2, e3, e4, e5, e6, e7, e8, e9, e10, e11, e12, e13⟩ := R
  unfold CTm CTx
  rw [e2, e3, e8, e11, e12]
theorem RR_LA (R : RR σ τ nw nl lm) (p : Nat) : LAm σ τ nw nl p = LAx σ τ nw nl p := by
  obtain ⟨I, hb, e1, e2, e3, e4, e5, e6, e7, e8, e9, e10, e11, e12, e13⟩ := R
  unfold LAm LAx gA
  rw [e2, e8, e9, e11]
theorem RR_LJ (R : RR σ τ nw nl lm) (p : Nat) : LJm σ τ nw nl p = LJx σ τ nw nl p := by
  obtain ⟨I, hb, e1, e2, e3, e4, e5, e6, e7, e8, e9, e10, e11, e12, e13⟩ := R
  unfold LJm LJx gJ
  rw [e2, e8, e9, e10, e11]
theorem FM_fw (m : Nat) : FM σ τ nw nl m = (fw (LAm σ τ nw nl) (LJm σ τ nw nl) nl m).1 := rfl
theorem RR_F (R : RR σ τ nw nl lm) (m : Nat) : FM σ τ nw nl m = FX σ τ nw nl m := by
  rw [FM_fw]
  unfold FX
  rw [show LAm σ τ nw nl = LAx σ τ nw nl from funext (RR_LA R), show LJm σ τ nw nl = LJx σ τ nw nl from funext (RR_LJ R)]
theorem RR_CC (R : RR σ τ nw nl lm) : CCm σ τ nw nl = CC0 σ τ nw nl := by
  unfold CCm CC0
  rw [RR_F R, R.2.2.2.2.1]
theorem RR_bp (R : RR σ τ nw nl lm) (p : Nat) : bpm σ τ nw nl p = bpx σ τ nw nl p := by
  obtain ⟨I, hb, e1, e2, e3, e4, e5, e6, e7, e8, e9, e10, e11, e12, e13⟩ := R
  unfold bpm bpx
  rw [e2, e8, e9, e10, e11]
theorem RR_pr (R : RR σ τ nw nl lm) : prm σ τ nw nl = prx σ τ nw nl := by
  funext p
  unfold prm prx
  rw [RR_bp R, RR_LA R, RR_F R, RR_F R]
theorem RR_CW (R : RR σ τ nw nl lm) : CWm σ τ nw nl = cwd (prx σ τ nw nl) (Sx σ τ nw nl) (Ax σ τ nw nl) (Bx σ τ nw nl) := by
  unfold CWm
  rw [RR_pr R, show Sm σ τ nw nl = Sx σ τ nw nl from funext (fun p => by
    obtain ⟨I, hb, e1, e2, e3, e4, e5, e6, e7, e8, e9, e10, e11, e12, e13⟩ := R
    unfold Sm Sx
    rw [e2, e8, e9, e11]), show Am σ τ nw nl = Ax σ τ nw nl from funext (fun p => by unfold Am Ax; rw [RR_bp R]), show Bm σ τ nw nl = Bx σ τ nw nl from funext (fun p => by unfold Bm Bx; rw [RR_bp R])]
/-- with a join more -/
theorem RR_LT (R : RR σ τ nw nl lm) {a b : Nat} (ha : a < nw) (hb : b < nw) (p : Nat) : LJm σ (tj τ a b) nw nl p = LTx σ τ nw nl a b p := by
  have I := RR_IM R
  have h12 := Iv_nw I
  have R0 := R
  obtain ⟨I', hb', e1, e2, e3, e4, e5, e6, e7, e8, e9, e10, e11, e12, e13⟩ := R
  have h0 := gJ_isM (J := τ 29) I p
  have h1 : isM (pq nl (τ 28) (tj τ a b 29) (τ 31) p) (fun a b => cn (σ 22) (τ 27 a + τ 27 b)) nw (LJm σ (tj τ a b) nw nl p) := by
    have := gJ_isM (J := tj τ a b 29) I p
    exact this
  have hpq : ∀ a' b', a' < nw → b' < nw → (pq nl (τ 28) (tj τ a b 29) (τ 31) p a' b' ↔ pq nl (τ 28) (τ 29) (τ 31) p a' b' ∨ ((a' = a ∧ b' = b) ∧ ft nl (τ 28) (τ 31) a b p)) := by
    intro a' b' ha' hb'
    unfold pq tj ft
    rw [uT_eq]
    by_cases e : a' = a
    · subst e
      rw [upd_eq, hb_or (by omega) (by omega)]
      constructor
      · rintro ⟨g1, g2, g3 | g3⟩
        · exact Or.inl ⟨g1, g2, g3⟩
        · exact Or.inr ⟨⟨rfl, g3⟩, g1, by rw [← g3]; exact g2⟩
      · rintro (⟨g1, g2, g3⟩ | ⟨⟨-, g3⟩, g1, g2⟩)
        · exact ⟨g1, g2, Or.inl g3⟩
        · exact ⟨g1, by rw [g3]; exact g2, Or.inr g3⟩
    · rw [upd_ne e]
      constructor
      · exact fun g => Or.inl g
      · rintro (g | ⟨⟨g, -⟩, -⟩)
        · exact g
        · exact absurd g e
  have eJ : gJ (σ 22) nw nl (τ 27) (τ 28) (τ 29) (τ 31) p = LJx σ τ nw nl p := RR_LJ R0 p
  by_cases hf : ft nl (τ 28) (τ 31) a b p
  · have h2 : isM (pq nl (τ 28) (tj τ a b 29) (τ 31) p) (fun a b => cn (σ 22) (τ 27 a + τ 27 b)) nw (mn (cn (σ 22) (τ 27 a + τ 27 b)) (gJ (σ 22) nw nl (τ 27) (τ 28) (τ 29) (τ 31) p)) :=
      isM_cong (fun a' b' ha' hb' => by
        rw [hpq a' b' ha' hb']
        constructor
        · rintro (g | g)
          · exact Or.inl g
          · exact Or.inr ⟨g, hf⟩
        · rintro (g | g)
          · exact Or.inl g
          · exact Or.inr g.1) (isM_add h0 ha hb (i_le (nI_60 (Iv_cn2 I ha hb))))
    rw [isM_eq h1 h2, eJ, LTx_y (by rw [← e9, ← e11]; exact hf), e2, e8]
    rfl
  · have h2 : isM (pq nl (τ 28) (tj τ a b 29) (τ 31) p) (fun a b => cn (σ 22) (τ 27 a + τ 27 b)) nw (gJ (σ 22) nw nl (τ 27) (τ 28) (τ 29) (τ 31) p) :=
      isM_cong (fun a' b' ha' hb' => by
        rw [hpq a' b' ha' hb']
        constructor
        · exact fun g => Or.inl g
        · rintro (g | g)
          · exact g
          · exact absurd g.2 hf) h0
    rw [isM_eq h1 h2, eJ, LTx_n (by rw [← e9, ← e11]; exact hf)]
theorem RR_CJ (R : RR σ τ nw nl lm) {a b : Nat} (ha : a < nw) (hb : b < nw) : CJ σ τ nw nl a b = CJm σ τ nw nl a b := by
  unfold CJ CJm
  rw [R.2.2.2.2.1, FM_fw]
  unfold FT
  rw [show LJm σ (tj τ a b) nw nl = LTx σ τ nw nl a b from funext (RR_LT R ha hb), show LAm σ (tj τ a b) nw nl = LAx σ τ nw nl from funext (fun p => RR_LA R p)]
theorem RR_bj (R : RR σ τ nw nl lm) : (bj nw (τ 29) (CJm σ τ nw nl) (-1, CCm σ τ nw nl) nw).1 = (bj nw (τ 2) (CJ σ τ nw nl) (-1, CC0 σ τ nw nl) nw).1 := by
  rw [RR_CC R]
  refine congrArg Prod.fst (bj_cong (fun a _ => by rw [R.2.2.2.2.2.2.2.2.2.2.2.1]) (fun a b ha hb _ => (RR_CJ R ha hb).symm) nw (Nat.le_refl _))
theorem RR_wo (R : RR σ τ nw nl lm) : wm nw (τ 28) (τ 31) nl = wo (τ 1) (τ 7) nl := by
  rw [wm_wo (RR_IM R) nl (Nat.le_refl _), R.2.2.2.2.2.2.2.2.2.2.1, R.2.2.2.2.2.2.2.2.2.2.2.2.1]
theorem RR_sI (R : RR σ τ nw nl lm) {a : Nat} (ha : a < nw) : sI (τ 28 a) nw = bcF (τ 1 a) := by
  obtain ⟨x, e, hx, -⟩ := Iv_st R.1 a ha
  rw [R.2.2.2.2.2.2.2.2.2.2.1, e]
  exact sI_bc (Iv_nw R.1) hx
theorem RR_DG (R : RR σ τ nw nl lm) : DGm σ τ nw nl = DGx σ τ nw nl := by
  unfold DGm DGx
  have eN : DNm σ τ nw nl = DN σ τ nw nl := by
    unfold DNm DN
    rw [RR_CT R, RR_CC R, R.2.2.1, R.2.2.2.1, R.2.2.2.2.1, R.2.2.2.2.2.1, R.2.2.2.2.2.2.1, R.2.2.2.2.2.2.2.1, R.2.2.2.2.2.2.2.2.1]
  rw [eN, RR_CW R, RR_pr R]
  have e2 := R.2.2.2.1
  have e8 := R.2.2.2.2.2.2.2.2.2.1
  have e11 := R.2.2.2.2.2.2.2.2.2.2.2.2.1
  have e12 := R.2.2.2.2.2.2.2.2.2.2.2.2.2.1
  rw [e11, e12, dw_cong (S := smF (τ 28) nw) (L' := τ 0) (C' := cnf (σ 4) (τ 0)) (S' := bcf (τ 1)) (fun w _ => by rw [e8]) (fun w _ => by rw [e2, e8]) (fun w hw => RR_sI R hw)]
theorem RR_sv (R : RR σ τ nw nl lm) : (CTm σ τ nl - CCm σ τ nw nl) * σ 24 = CTx σ τ nl * σ 6 - CC0 σ τ nw nl * σ 6 := by
  rw [RR_CT R, RR_CC R, R.2.2.2.2.2.1]
  grind
end
