/-! the relation is kept -/
section
variable {σ : gS} {τ τ' : gT} {nw nl lm : Nat}
theorem RR_20 (R : RR σ τ nw nl lm) (x : Int32) : RR (uS σ 20 x) τ nw nl lm := by
  obtain ⟨I, hb, e1, e2, e3, e4, e5, e6, e7, e8, e9, e10, e11, e12, e13⟩ := R
  exact ⟨I, hb, e1, e2, e3, e4, e5, e6, e7, e8, e9, e10, e11, e12, e13⟩
theorem RR_xs (R : RR σ τ nw nl lm) (h : XS τ τ') (h17 : ∀ i, τ' 17 i = 0 ∨ τ' 17 i = 1) : RR σ τ' nw nl lm := by
  obtain ⟨I, hb, e1, e2, e3, e4, e5, e6, e7, e8, e9, e10, e11, e12, e13⟩ := R
  refine ⟨IX_cong I h h17, ?_, e1, e2, e3, e4, e5, e6, e7, ?_, ?_, ?_, ?_, ?_, ?_⟩
  · rw [h 35 (by decide)]; exact hb
  · rw [h 27 (by decide), h 0 (by decide)]; exact e8
  · rw [h 28 (by decide), h 1 (by decide)]; exact e9
  · rw [h 29 (by decide), h 2 (by decide)]; exact e10
  · rw [h 31 (by decide), h 7 (by decide)]; exact e11
  · rw [h 32 (by decide), h 8 (by decide)]; exact e12
  · rw [h 2 (by decide)]; exact e13
theorem RR_ms (R : RR σ τ nw nl lm) (h : MS τ τ') (h35 : ∀ i, τ' 35 i = 0 ∨ τ' 35 i = 1) : RR σ τ' nw nl lm := by
  obtain ⟨I, hb, e1, e2, e3, e4, e5, e6, e7, e8, e9, e10, e11, e12, e13⟩ := R
  refine ⟨?_, h35, e1, e2, e3, e4, e5, e6, e7, ?_, ?_, ?_, ?_, ?_, ?_⟩
  · unfold IX
    rw [h 0 (by decide), h 1 (by decide), h 7 (by decide), h 8 (by decide), h 17 (by decide)]
    exact I
  · rw [h 27 (by decide), h 0 (by decide)]; exact e8
  · rw [h 28 (by decide), h 1 (by decide)]; exact e9
  · rw [h 29 (by decide), h 2 (by decide)]; exact e10
  · rw [h 31 (by decide), h 7 (by decide)]; exact e11
  · rw [h 32 (by decide), h 8 (by decide)]; exact e12
  · rw [h 2 (by decide)]; exact e13
theorem RR_m33 (R : RR σ τ nw nl lm) (h : ∀ c, c ≠ 33 → τ' c = τ c) : RR σ τ' nw nl lm :=
  RR_ms R (fun c hc => h c (by omega)) (by rw [h 35 (by decide)]; exact R.2.1)
theorem RR_x4 (R : RR σ τ nw nl lm) (h : ∀ c, c ≠ 12 → c ≠ 13 → c ≠ 14 → c ≠ 15 → τ' c = τ c) : RR σ τ' nw nl lm :=
  RR_xs R (fun c hc => h c (by omega) (by omega) (by omega) (by omega)) (by rw [h 17 (by decide) (by decide) (by decide) (by decide)]; exact Iv_cj R.1)
theorem RR_x3 (R : RR σ τ nw nl lm) (h : ∀ c, c ≠ 12 → c ≠ 13 → c ≠ 15 → τ' c = τ c) : RR σ τ' nw nl lm :=
  RR_x4 R (fun c h1 h2 _ h4 => h c h1 h2 h4)
theorem RR_s4 (R : RR σ τ nw nl lm) {x : Int32} {k : Nat} (h3 : 3 ≤ k) (h15 : k ≤ 15) (hx : x = nI k) : RR (uS (uS (uS σ 4 x) 20 0) 22 x) τ nw nl k := by
  obtain ⟨I, hb, e1, e2, e3, e4, e5, e6, e7, e8, e9, e10, e11, e12, e13⟩ := R
  obtain ⟨x1, x2, x3, x4, x5, x6, x7, x8, x9, x10, x11, x12, x13⟩ := I
  exact ⟨⟨x1, x2, hx, x4, x5, h3, h15, x8, x9, x10, x11, x12, x13⟩, hb, e1, rfl, e3, e4, e5, e6, e7, e8, e9, e10, e11, e12, e13⟩
theorem RR_s5 (R : RR σ τ nw nl lm) (x : Int32) : RR (uS (uS (uS σ 5 x) 20 0) 23 x) τ nw nl lm := by
  obtain ⟨I, hb, e1, e2, e3, e4, e5, e6, e7, e8, e9, e10, e11, e12, e13⟩ := R
  exact ⟨I, hb, e1, e2, rfl, e4, e5, e6, e7, e8, e9, e10, e11, e12, e13⟩
theorem RR_s6 (R : RR σ τ nw nl lm) (x : Int32) : RR (uS (uS (uS σ 6 x) 20 0) 24 x) τ nw nl lm := by
  obtain ⟨I, hb, e1, e2, e3, e4, e5, e6, e7, e8, e9, e10, e11, e12, e13⟩ := R
  exact ⟨I, hb, e1, e2, e3, rfl, e5, e6, e7, e8, e9, e10, e11, e12, e13⟩
theorem upd_at {f : Nat → Int32} {k : Nat} {x : Int32} (h : f k = x) : upd f k x = f := by
  funext j
  by_cases e : j = k
  · rw [e, upd_eq, h]
  · rw [upd_ne e]
theorem nI_bt {x i : Nat} (hi : i < 32) : bt (nI x) i = x.testBit i := by
  show (BitVec.ofNat 32 x).getLsbD i = _
  rw [BitVec.getLsbD_ofNat, decide_eq_true hi, Bool.true_and]
theorem nI_xor (x y : Nat) : nI x ^^^ nI y = nI (x ^^^ y) := b_ext (fun i hi => by rw [b_xor, nI_bt hi, nI_bt hi, nI_bt hi, Nat.testBit_xor])
theorem sb_2 : ∀ b, b < 12 → sb b = nI (2 ^ b) := by decide +kernel
theorem in_of {x : Int32} {lo hi : Nat} (hh : hi < 2 ^ 30) (h1 : ¬ x < nI lo) (h2 : x ≤ nI hi) (hl : lo < 2 ^ 30) : ∃ k, lo ≤ k ∧ k ≤ hi ∧ x = nI k := by
  have h1 := Int32.not_lt.mp h1
  rw [Int32.le_iff_toInt_le, nI_toInt (by omega)] at h1 h2
  refine ⟨x.toInt.toNat, by omega, by omega, ?_⟩
  apply Int32.toInt_inj.mp
  rw [nI_toInt (by omega)]
  omega
theorem wd_in {w : Int32} {n : Nat} (hn : n < 2 ^ 30) (h : ¬ (w < 0 ∨ ¬ w < nI n)) : ∃ a, a < n ∧ w = nI a := by
  have h1 : ¬ w < 0 := fun z => h (Or.inl z)
  have h2 : w < nI n := Classical.byContradiction fun z => h (Or.inr z)
  rw [Int32.lt_iff_toInt_lt, nI_toInt (by omega)] at h2
  have h3 := Int32.not_lt.mp h1
  rw [Int32.le_iff_toInt_le, show (0 : Int32).toInt = 0 from rfl] at h3
  refine ⟨w.toInt.toNat, by omega, ?_⟩
  apply Int32.toInt_inj.mp
  rw [nI_toInt (by omega)]
  omega
theorem Iv_full {a n k : Nat} (hn : n ≤ k) (hk : k < 2 ^ 30) (h : ¬ nI n < nI k) : n = k := by
  rcases Nat.lt_or_ge n k with q | q
  · exact absurd (nI_lt q (by omega)) h
  · omega
theorem RR_add (R : RR σ τ nw nl lm) (hw : nw < 12) {x : Int32} {k : Nat} (h1 : 1 ≤ k) (h30 : k ≤ 30) (hx : x = nI k) : RR (uS (uS (uS σ 3 (nI (nw + 1))) 20 0) 21 (nI (nw + 1))) (uT (uT (uT (uT (uT τ 0 nw x) 1 nw ((1 : Int32) <<< (nI nw &&& 31))) 2 nw 0) 27 nw x) 28 nw ((1 : Int32) <<< (nI nw &&& 31))) (nw + 1) nl lm := by
  obtain ⟨I, hb, e1, e2, e3, e4, e5, e6, e7, e8, e9, e10, e11, e12, e13⟩ := R
  obtain ⟨x1, x2, x3, x4, x5, x6, x7, x8, x9, x10, x11, x12, x13⟩ := I
  refine ⟨⟨rfl, x2, x3, by omega, x5, x6, x7, fun i hi => ?_, x9, x10, x11, fun w hw2 => ?_, fun w hw2 => ?_⟩, hb, rfl, e2, e3, e4, e5, e6, e7, ?_, ?_, ?_, e11, e12, fun i hi => ?_⟩
  · obtain ⟨w, h, e⟩ := x8 i hi
    exact ⟨w, by omega, e⟩
  · show ∃ y, 1 ≤ y ∧ y ≤ 30 ∧ upd (τ 0) nw x w = nI y
    by_cases e : w = nw
    · subst e
      exact ⟨k, h1, h30, by rw [upd_eq, hx]⟩
    · rw [upd_ne e]
      exact x12 w (by omega)
  · show ∃ y, upd (τ 1) nw ((1 : Int32) <<< (nI nw &&& 31)) w = nI y ∧ y < 2 ^ (nw + 1) ∧ y.testBit w = true
    by_cases e : w = nw
    · subst e
      refine ⟨2 ^ w, by rw [upd_eq]; exact sb_2 w hw, Nat.pow_lt_pow_right (by decide) (by omega), ?_⟩
      rw [Nat.testBit_two_pow]
      exact decide_eq_true rfl
    · rw [upd_ne e]
      obtain ⟨y, h, h2, h3⟩ := x13 w (by omega)
      exact ⟨y, h, Nat.lt_of_lt_of_le h2 (Nat.pow_le_pow_right (by decide) (by omega)), h3⟩
  · show upd (τ 27) nw x = upd (τ 0) nw x
    rw [e8]
  · show upd (τ 28) nw _ = upd (τ 1) nw _
    rw [e9]
  · show τ 29 = upd (τ 2) nw 0
    rw [upd_at (e13 nw (Nat.le_refl _)), e10]
  · show upd (τ 2) nw 0 i = 0
    rw [upd_at (e13 nw (Nat.le_refl _))]
    exact e13 i (by omega)
theorem RR_tsi (R : RR σ τ nw nl lm) {a b : Nat} (ha : a < nw) (hb9 : b < nw) (hne : a ≠ b) : RR (uS σ 20 0) (uT (uT τ 1 a (τ 1 a ^^^ ((1 : Int32) <<< (nI b &&& 31)))) 28 a (τ 28 a ^^^ ((1 : Int32) <<< (nI b &&& 31)))) nw nl lm := by
  obtain ⟨I, hb, e1, e2, e3, e4, e5, e6, e7, e8, e9, e10, e11, e12, e13⟩ := R
  obtain ⟨x1, x2, x3, x4, x5, x6, x7, x8, x9, x10, x11, x12, x13⟩ := I
  refine ⟨⟨x1, x2, x3, x4, x5, x6, x7, x8, x9, x10, x11, x12, fun w hw2 => ?_⟩, hb, e1, e2, e3, e4, e5, e6, e7, e8, ?_, e10, e11, e12, e13⟩
  · show ∃ y, upd (τ 1) a (τ 1 a ^^^ sb b) w = nI y ∧ y < 2 ^ nw ∧ y.testBit w = true
    by_cases e : w = a
    · subst e
      obtain ⟨y, h, h2, h3⟩ := x13 w hw2
      refine ⟨y ^^^ 2 ^ b, by rw [upd_eq, h, sb_2 b (by omega), nI_xor], Nat.xor_lt_two_pow h2 (Nat.pow_lt_pow_right (by decide) hb9), ?_⟩
      rw [Nat.testBit_xor, h3, Nat.testBit_two_pow, decide_eq_false (fun z => hne z.symm)]
      rfl
    · rw [upd_ne e]
      exact x13 w hw2
  · show upd (τ 28) a (τ 28 a ^^^ _) = upd (τ 1) a (τ 1 a ^^^ _)
    rw [e9]
theorem RR_tj (R : RR σ τ nw nl lm) {a : Nat} (ha : a < nw) (x : Int32) : RR (uS σ 20 0) (uT (uT τ 2 a (τ 2 a ^^^ x)) 29 a (τ 29 a ^^^ x)) nw nl lm := by
  obtain ⟨I, hb, e1, e2, e3, e4, e5, e6, e7, e8, e9, e10, e11, e12, e13⟩ := R
  refine ⟨I, hb, e1, e2, e3, e4, e5, e6, e7, e8, e9, ?_, e11, e12, fun i hi => ?_⟩
  · show upd (τ 29) a (τ 29 a ^^^ _) = upd (τ 2) a (τ 2 a ^^^ _)
    rw [e10]
  · show upd (τ 2) a _ i = 0
    rw [upd_ne (by omega)]
    exact e13 i hi
theorem RR_wr (R : RR σ τ nw nl lm) {a : Nat} (ha : a < nw) (h16 : nl < 16) : RR (uS (uS (uS σ 9 (nI (nl + 1))) 20 0) 30 (nI (nl + 1))) (uT (uT (uT (uT τ 7 nl (nI a)) 8 nl 0) 31 nl (nI a)) 32 nl 0) nw (nl + 1) lm := by
  obtain ⟨I, hb, e1, e2, e3, e4, e5, e6, e7, e8, e9, e10, e11, e12, e13⟩ := R
  obtain ⟨x1, x2, x3, x4, x5, x6, x7, x8, x9, x10, x11, x12, x13⟩ := I
  refine ⟨⟨x1, rfl, x3, x4, by omega, x6, x7, fun i hi => ?_, upd_01 x9 (Or.inl rfl), x10, fun _ => ?_, x12, x13⟩, hb, e1, e2, e3, e4, rfl, e6, e7, e8, e9, e10, ?_, ?_, e13⟩
  · show ∃ w, w < nw ∧ upd (τ 7) nl (nI a) i = nI w
    by_cases e : i = nl
    · exact ⟨a, ha, by rw [e, upd_eq]⟩
    · rw [upd_ne e]
      exact x8 i (by omega)
  · show upd (τ 8) nl 0 (nl + 1 - 1) = 0
    rw [Nat.add_sub_cancel, upd_eq]
  · show upd (τ 31) nl _ = upd (τ 7) nl _
    rw [e11]
  · show upd (τ 32) nl _ = upd (τ 8) nl _
    rw [e12]
theorem RR_tjd (R : RR σ τ nw nl lm) {p : Nat} (hp : p + 1 < nl) {x : Int32} (hx : x = 0 ∨ x = 1) : RR (uS σ 20 0) (uT (uT τ 8 p x) 32 p x) nw nl lm := by
  obtain ⟨I, hb, e1, e2, e3, e4, e5, e6, e7, e8, e9, e10, e11, e12, e13⟩ := R
  obtain ⟨x1, x2, x3, x4, x5, x6, x7, x8, x9, x10, x11, x12, x13⟩ := I
  refine ⟨⟨x1, x2, x3, x4, x5, x6, x7, x8, upd_01 x9 hx, x10, fun h0 => ?_, x12, x13⟩, hb, e1, e2, e3, e4, e5, e6, e7, e8, e9, e10, e11, ?_, e13⟩
  · show upd (τ 8) p x (nl - 1) = 0
    rw [upd_ne (by omega)]
    exact x11 h0
  · show upd (τ 32) p _ = upd (τ 8) p _
    rw [e12]
theorem SH_fun {p a : Nat} {f g h : Nat → Int32} (h1 : SH p a f g) (h2 : SH p a f h) : g = h := by
  funext q
  rcases Nat.lt_or_ge q p with c | c
  · rw [h1.1 q c, h2.1 q c]
  · rcases Nat.lt_or_ge q a with d | d
    · rw [h1.2.1 q c d, h2.2.1 q c d]
    · rw [h1.2.2 q d, h2.2.2 q d]
theorem IM_sk (R : RR σ τ nw nl lm) {p a : Nat} (h : SK 7 8 p a τ τ') : IM σ τ' nw nl lm := IM_5 (RR_IM R) (h.1 27 (by decide) (by decide)) (h.1 28 (by decide) (by decide)) (h.1 31 (by decide) (by decide)) (h.1 32 (by decide) (by decide)) (h.1 35 (by decide) (by decide))
theorem RR_sk (R : RR σ τ nw nl lm) {p : Nat} {τ2 : gT} (hp : p < nl) (h : SK 7 8 p (nl - 1) τ τ') (h2 : SK 31 32 p (nl - 1) τ' τ2) : RR (uS (uS (uS σ 9 (nI (nl - 1))) 20 0) 30 (nI (nl - 1))) τ2 nw (nl - 1) lm := by
  obtain ⟨I, hb, e1, e2, e3, e4, e5, e6, e7, e8, e9, e10, e11, e12, e13⟩ := R
  obtain ⟨x1, x2, x3, x4, x5, x6, x7, x8, x9, x10, x11, x12, x13⟩ := I
  have k : ∀ c, c ≠ 7 → c ≠ 8 → c ≠ 31 → c ≠ 32 → τ2 c = τ c := fun c c1 c2 c3 c4 => (h2.1 c c3 c4).trans (h.1 c c1 c2)
  have k7 : τ2 7 = τ' 7 := h2.1 7 (by decide) (by decide)
  have k8 : τ2 8 = τ' 8 := h2.1 8 (by decide) (by decide)
  have m1 : SH p (nl - 1) (τ 7) (τ2 7) := by rw [k7]; exact h.2.1
  have m2 : SH p (nl - 1) (jz p (τ 8)) (τ2 8) := by rw [k8]; exact h.2.2.1
  have m3 : SH p (nl - 1) (τ 7) (τ2 31) := by
    have := h2.2.1
    rw [h.1 31 (by decide) (by decide), e11] at this
    exact this
  have m4 : SH p (nl - 1) (jz p (τ 8)) (τ2 32) := by
    have := h2.2.2.1
    rw [h.1 32 (by decide) (by decide), e12] at this
    exact this
  refine ⟨⟨x1, rfl, x3, x4, by omega, x6, x7, fun i hi => ?_, by rw [k8]; exact h.2.2.2, by rw [k 17 (by decide) (by decide) (by decide) (by decide)]; exact x10, fun h0 => ?_, by rw [k 0 (by decide) (by decide) (by decide) (by decide)]; exact x12, by rw [k 1 (by decide) (by decide) (by decide) (by decide)]; exact x13⟩, by rw [k 35 (by decide) (by decide) (by decide) (by decide)]; exact hb, e1, e2, e3, e4, rfl, e6, e7, ?_, ?_, ?_, SH_fun m3 m1, SH_fun m4 m2, ?_⟩
  · rcases Nat.lt_or_ge i p with c | c
    · rw [m1.1 i c]
      exact x8 i (by omega)
    · rw [m1.2.1 i c hi]
      exact x8 (i + 1) (by omega)
  · have hl0 := x11 (by omega)
    have jl : ∀ q, (q = nl - 1 ∨ q + 1 = p) → jz p (τ 8) q = 0 := by
      intro q hq
      unfold jz
      split
      · rcases hq with hq | hq
        · rw [hq]; exact hl0
        · omega
      · by_cases e : q = p - 1
        · rw [e, upd_eq]
        · rw [upd_ne e]
          rcases hq with hq | hq
          · rw [hq]; exact hl0
          · omega
    rcases Nat.lt_or_ge (nl - 1 - 1) p with c | c
    · rw [m2.1 _ c]
      exact jl _ (by omega)
    · rw [m2.2.1 _ c (by omega)]
      exact jl _ (by omega)
  · rw [k 27 (by decide) (by decide) (by decide) (by decide), k 0 (by decide) (by decide) (by decide) (by decide)]; exact e8
  · rw [k 28 (by decide) (by decide) (by decide) (by decide), k 1 (by decide) (by decide) (by decide) (by decide)]; exact e9
  · rw [k 29 (by decide) (by decide) (by decide) (by decide), k 2 (by decide) (by decide) (by decide) (by decide)]; exact e10
  · rw [k 2 (by decide) (by decide) (by decide) (by decide)]; exact e13
theorem RR_send (R : RR σ τ nw nl lm) {x y : Int32} (h : x = y) : RR (uS (uS (uS (uS (uS (uS (uS σ 10 (σ 10 + 1)) 11 (σ 11 + x)) 9 0) 20 0) 25 (σ 25 + 1)) 26 (σ 26 + y)) 30 0) τ nw 0 lm := by
  obtain ⟨I, hb, e1, e2, e3, e4, e5, e6, e7, e8, e9, e10, e11, e12, e13⟩ := R
  obtain ⟨x1, x2, x3, x4, x5, x6, x7, x8, x9, x10, x11, x12, x13⟩ := I
  refine ⟨⟨x1, rfl, x3, x4, by omega, x6, x7, fun i hi => by omega, x9, x10, fun h0 => by omega, x12, x13⟩, hb, e1, e2, e3, e4, rfl, ?_, ?_, e8, e9, e10, e11, e12, e13⟩
  · show σ 25 + 1 = σ 10 + 1
    rw [e6]
  · show σ 26 + y = σ 11 + x
    rw [e7, h]
theorem CWm_4 (h1 : τ' 27 = τ 27) (h2 : τ' 28 = τ 28) (h3 : τ' 29 = τ 29) (h4 : τ' 31 = τ 31) : prm σ τ' nw nl = prm σ τ nw nl ∧ CWm σ τ' nw nl = CWm σ τ nw nl := by
  have b : ∀ p, bpm σ τ' nw nl p = bpm σ τ nw nl p := fun p => by unfold bpm; rw [h1, h2, h3, h4]
  have a : ∀ p, LAm σ τ' nw nl p = LAm σ τ nw nl p := fun p => by unfold LAm; rw [h1, h2, h4]
  have pr : prm σ τ' nw nl = prm σ τ nw nl := by
    funext p
    unfold prm
    rw [b, a, FM_4 h1 h2 h3 h4, FM_4 h1 h2 h3 h4]
  refine ⟨pr, ?_⟩
  unfold CWm
  rw [pr, show Sm σ τ' nw nl = Sm σ τ nw nl from funext (fun p => by unfold Sm; rw [h1, h2, h4]), show Am σ τ' nw nl = Am σ τ nw nl from funext (fun p => by unfold Am; rw [b]), show Bm σ τ' nw nl = Bm σ τ nw nl from funext (fun p => by unfold Bm; rw [b])]
theorem CTm_5 (h1 : τ' 27 = τ 27) (h4 : τ' 31 = τ 31) (h5 : τ' 32 = τ 32) : CTm σ τ' nl = CTm σ τ nl := by
  unfold CTm
  rw [h1, h4, h5]
/-- the class's scratch rows only -/
theorem xs_C {c : Nat} (h : XS τ τ') (hc : c < 12 ∨ 17 < c) : τ' c = τ c := h c hc
theorem XS_CW (h : XS τ τ') : prm σ τ' nw nl = prm σ τ nw nl ∧ CWm σ τ' nw nl = CWm σ τ nw nl := CWm_4 (h 27 (by decide)) (h 28 (by decide)) (h 29 (by decide)) (h 31 (by decide))
theorem XS_CT (h : XS τ τ') : CTm σ τ' nl = CTm σ τ nl := CTm_5 (h 27 (by decide)) (h 31 (by decide)) (h 32 (by decide))
theorem XS_CC (h : XS τ τ') : CCm σ τ' nw nl = CCm σ τ nw nl := by
  unfold CCm
  rw [FM_4 (h 27 (by decide)) (h 28 (by decide)) (h 29 (by decide)) (h 31 (by decide))]
theorem XS_CJ (h : XS τ τ') (a b : Nat) : CJm σ τ' nw nl a b = CJm σ τ nw nl a b := by
  unfold CJm
  have h29 : tj τ' a b 29 = tj τ a b 29 := by
    unfold tj
    rw [uT_eq, uT_eq, h 29 (by decide)]
  rw [FM_4 (show tj τ' a b 27 = tj τ a b 27 from h 27 (by decide)) (show tj τ' a b 28 = tj τ a b 28 from h 28 (by decide)) h29 (show tj τ' a b 31 = tj τ a b 31 from h 31 (by decide))]
theorem XS_DG (h : XS τ τ') : DGm σ τ' nw nl = DGm σ τ nw nl := by
  unfold DGm DNm
  rw [XS_CT h, XS_CC h, (XS_CW h).1, (XS_CW h).2, h 27 (by decide), h 28 (by decide), h 31 (by decide), h 32 (by decide)]
theorem x4_XS (h : ∀ c, c ≠ 12 → c ≠ 13 → c ≠ 14 → c ≠ 15 → τ' c = τ c) : XS τ τ' := fun c hc => h c (by omega) (by omega) (by omega) (by omega)
theorem x3_XS (h : ∀ c, c ≠ 12 → c ≠ 13 → c ≠ 15 → τ' c = τ c) : XS τ τ' := fun c hc => h c (by omega) (by omega) (by omega)
/-- the answer of the reference's bestJoin, on from the class's -/
theorem XS_bj (R : RR σ τ nw nl lm) (h : XS τ τ') : (bj nw (τ' 29) (CJm σ τ' nw nl) (-1, CCm σ τ' nw nl) nw).1 = (bj nw (τ 2) (CJ σ τ nw nl) (-1, CC0 σ τ nw nl) nw).1 := by
  rw [h 29 (by decide), XS_CC h, show CJm σ τ' nw nl = CJm σ τ nw nl from funext (fun a => funext (fun b => XS_CJ h a b))]
  exact RR_bj R
theorem IM_rw (R : RR σ τ nw nl lm) (h : RWx σ τ nw nl τ') : IM σ τ' nw nl lm := IM_5 (RR_IM R) (h.1 27 (by decide) (by decide)) (h.1 28 (by decide) (by decide)) (h.1 31 (by decide) (by decide)) (h.1 32 (by decide) (by decide)) (h.1 35 (by decide) (by decide))
theorem RR_rw (R : RR σ τ nw nl lm) {τ2 : gT} (h : RWx σ τ nw nl τ') (h2 : RWm σ τ' nw nl τ2) : RR (uS σ 20 0) τ2 nw nl lm ∧ CTx σ τ nl - CTx σ τ' nl = CTm σ τ' nl - CTm σ τ2 nl := by
  have R0 := R
  have I2 := RWx_I R.1 h
  obtain ⟨I, hb, e1, e2, e3, e4, e5, e6, e7, e8, e9, e10, e11, e12, e13⟩ := R
  have k : ∀ c, (c < 12 ∧ c ≠ 31 ∧ c ≠ 32) → τ2 c = τ' c := fun c hc => h2.1 c (by omega) (by omega)
  have pm := CWm_4 (σ := σ) (nw := nw) (nl := nl) (h.1 27 (by decide) (by decide)) (h.1 28 (by decide) (by decide)) (h.1 29 (by decide) (by decide)) (h.1 31 (by decide) (by decide))
  have q31 : τ2 31 = τ2 7 := by
    funext q
    rw [k 7 (by decide)]
    rcases Nat.lt_or_ge q nl with c | c
    · rw [(h2.2.2.1 q c).1, (h.2.2.1 q c).1, pm.2, RR_CW R0]
    · rw [(h2.2.2.2 q c).1, (h.2.2.2 q c).1, h.1 31 (by decide) (by decide), e11]
  have q32 : τ2 32 = τ2 8 := by
    funext q
    rw [k 8 (by decide)]
    rcases Nat.lt_or_ge q nl with c | c
    · rw [(h2.2.2.1 q c).2, (h.2.2.1 q c).2, pm.1, RR_pr R0]
    · rw [(h2.2.2.2 q c).2, (h.2.2.2 q c).2, h.1 32 (by decide) (by decide), e12]
  have R2 : RR σ τ2 nw nl lm := by
    refine ⟨?_, h2.2.1, e1, e2, e3, e4, e5, e6, e7, ?_, ?_, ?_, q31, q32, ?_⟩
    · unfold IX
      rw [k 0 (by decide), k 1 (by decide), k 7 (by decide), k 8 (by decide), show τ2 17 = τ' 17 from h2.1 17 (by decide) (by decide)]
      exact I2
    · rw [k 0 (by decide), h2.1 27 (by decide) (by decide), h.1 27 (by decide) (by decide), h.1 0 (by decide) (by decide)]; exact e8
    · rw [k 1 (by decide), h2.1 28 (by decide) (by decide), h.1 28 (by decide) (by decide), h.1 1 (by decide) (by decide)]; exact e9
    · rw [k 2 (by decide), h2.1 29 (by decide) (by decide), h.1 29 (by decide) (by decide), h.1 2 (by decide) (by decide)]; exact e10
    · rw [k 2 (by decide), h.1 2 (by decide) (by decide)]; exact e13
  refine ⟨RR_20 R2 0, ?_⟩
  have c1 : CTm σ τ' nl = CTm σ τ nl := CTm_5 (h.1 27 (by decide) (by decide)) (h.1 31 (by decide) (by decide)) (h.1 32 (by decide) (by decide))
  have c2 : CTx σ τ2 nl = CTx σ τ' nl := by
    unfold CTx
    rw [k 0 (by decide), k 7 (by decide), k 8 (by decide)]
  rw [c1, RR_CT R0, RR_CT R2, c2]
end
