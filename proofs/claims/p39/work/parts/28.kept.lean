/-! the relation is kept -/
theorem hbz {x c : Nat} (hx : x < 2 ^ 31) (hc : c < 32) : hb (nI x) (nI c) = zb (x.testBit c) := by
  cases h : x.testBit c with
  | true => rw [(hb_01 _ _).resolve_left ((hb_tb hx hc).mpr h)]; rfl
  | false =>
    rcases hb_01 (nI x) (nI c) with g | g
    · rw [g]; rfl
    · have := (hb_tb hx hc).mp (by rw [g]; decide)
      rw [h] at this
      exact absurd this (by decide)
theorem hb_hi {x n c : Nat} (hn : n ≤ 12) (hx : x < 2 ^ n) (hc : n ≤ c) (hc2 : c < 32) : hb (nI x) (nI c) = 0 := by
  rw [hbz (Nat.lt_trans (lt12 hn hx) (by decide)) hc2, Nat.testBit_lt_two_pow (Nat.lt_of_lt_of_le hx (Nat.pow_le_pow_right (by decide) hc))]
  rfl
theorem zb_not {x : Int32} {b : Bool} (h : x = zb b) : (if x = 0 then (1 : Int32) else 0) = zb (!b) := by
  subst h
  cases b <;> rfl
/-- a bit turned -/
theorem hb_x {x b c : Nat} (hx : x < 4096) (hb9 : b < 12) (hc : c < 12) : hb (nI x ^^^ sb b) (nI c) = if c = b then zb (!x.testBit c) else hb (nI x) (nI c) := by
  have h1 : x ^^^ 2 ^ b < 2 ^ 12 := Nat.xor_lt_two_pow hx (Nat.pow_lt_pow_right (by decide) hb9)
  rw [sb_2 b hb9, nI_xor, hbz (Nat.lt_trans h1 (by decide)) (by omega), hbz (by omega) (by omega), Nat.testBit_xor, Nat.testBit_two_pow]
  by_cases e : c = b
  · rw [if_pos e, e, decide_eq_true rfl, Bool.xor_true]
  · rw [if_neg e, decide_eq_false (fun z => e z.symm), Bool.xor_false]
section
variable {σ : gS} {τ τ' : gT} {nw nl lm K : Nat} {s : gS} {t : gT}
theorem TS_up {K2 : Nat} (R : TS σ τ nw nl lm K s t) (h : K ≤ K2) : TS σ τ nw nl lm K2 s t := by
  obtain ⟨I, V, n, l, w, b, o, j, r, lc, co, k, hk, hk2⟩ := R
  exact ⟨I, V, n, l, w, b, o, j, r, lc, co, k, hk, by omega⟩
/-- the class's rows for the search do not matter -/
theorem TS_xs (R : TS σ τ nw nl lm K s t) (h : XS τ τ') (h17 : ∀ i, τ' 17 i = 0 ∨ τ' 17 i = 1) : TS σ τ' nw nl lm K s t := by
  obtain ⟨I, V, n, l, w, b, o, j, r, lc, co, k⟩ := R
  refine ⟨IX_cong I h h17, V, n, ?_, ?_, ?_, o, ?_, ?_, lc, co, k⟩
  · rw [h 0 (by decide)]; exact l
  · rw [h 7 (by decide), h 8 (by decide)]; exact w
  · rw [h 1 (by decide), h 2 (by decide)]; exact b
  · rw [h 2 (by decide)]; exact j
  · rw [h 8 (by decide)]; exact r
theorem TS_x4 (R : TS σ τ nw nl lm K s t) (h : ∀ c, c ≠ 12 → c ≠ 13 → c ≠ 14 → c ≠ 15 → τ' c = τ c) : TS σ τ' nw nl lm K s t :=
  TS_xs R (fun c hc => h c (by omega) (by omega) (by omega) (by omega)) (by rw [h 17 (by decide) (by decide) (by decide) (by decide)]; exact Iv_cj R.1)
theorem TS_x3 (R : TS σ τ nw nl lm K s t) (h : ∀ c, c ≠ 12 → c ≠ 13 → c ≠ 15 → τ' c = τ c) : TS σ τ' nw nl lm K s t := TS_x4 R (fun c h1 h2 _ h4 => h c h1 h2 h4)
theorem TS_CH {p : Nat} (R : TS σ τ nw nl lm K s t) (h : CH σ τ nw nl p τ') : TS σ τ' nw nl lm K s t := TS_xs R (CH_xs h) h.2.2.2.1
theorem TS_add (R : TS σ τ nw nl lm K s t) (hw : nw < 12) {k : Nat} (h1 : 1 ≤ k) (h30 : k ≤ 30) : TS (uS σ 3 (nI (nw + 1))) (uT (uT (uT τ 0 nw (nI k)) 1 nw ((1 : Int32) <<< (nI nw &&& 31))) 2 nw 0) (nw + 1) nl lm K (uS s 0 (nI (nw + 1))) (uT t 6 nw (nI k)) := by
  obtain ⟨I, V, n, l, w, b, o, j, r, lc, co, k9⟩ := R
  have I0 := I
  obtain ⟨x1, x2, x3, x4, x5, x6, x7, x8, x9, x10, x11, x12, x13⟩ := I
  obtain ⟨v1, v2, v3, v4, v5, v6, v7, v8, v9, v10⟩ := V
  have t6 : ∀ w9, uT t 6 nw (nI k) 6 w9 = if w9 = nw then nI k else t 6 w9 := fun w9 => by
    rw [uT_eq]
    by_cases e : w9 = nw
    · rw [if_pos e, e, upd_eq]
    · rw [if_neg e, upd_ne e]
  refine ⟨⟨rfl, x2, x3, by omega, x5, x6, x7, fun i hi => ?_, x9, x10, x11, fun w9 hw2 => ?_, fun w9 hw2 => ?_⟩, ⟨rfl, v2, by omega, v4, v5, fun i hi => ?_, fun w9 hw2 => ?_, fun a c => ?_, fun a c => ?_, v10⟩, n, fun w9 hw2 => ?_, w, fun a c ha hc => ?_, fun a c ha hc => ?_, fun a ha => ?_, r, lc, co, k9⟩
  · obtain ⟨w9, h, e⟩ := x8 i hi
    exact ⟨w9, by omega, e⟩
  · show ∃ y, 1 ≤ y ∧ y ≤ 30 ∧ upd (τ 0) nw (nI k) w9 = nI y
    by_cases e : w9 = nw
    · subst e
      exact ⟨k, h1, h30, by rw [upd_eq]⟩
    · rw [upd_ne e]
      exact x12 w9 (by omega)
  · show ∃ y, upd (τ 1) nw ((1 : Int32) <<< (nI nw &&& 31)) w9 = nI y ∧ y < 2 ^ (nw + 1) ∧ y.testBit w9 = true
    by_cases e : w9 = nw
    · subst e
      refine ⟨2 ^ w9, by rw [upd_eq]; exact sb_2 w9 hw, Nat.pow_lt_pow_right (by decide) (by omega), ?_⟩
      rw [Nat.testBit_two_pow]
      exact decide_eq_true rfl
    · rw [upd_ne e]
      obtain ⟨y, h, h2, h3⟩ := x13 w9 (by omega)
      exact ⟨y, h, Nat.lt_of_lt_of_le h2 (Nat.pow_le_pow_right (by decide) (by omega)), h3⟩
  · have h := v6 i hi
    exact ⟨h.1, Nat.lt_succ_of_lt h.2⟩
  · unfold ltF
    rw [t6]
    by_cases e : w9 = nw
    · rw [if_pos e, nI_clamp (by omega)]
      exact ⟨rfl, h1, h30⟩
    · rw [if_neg e]
      exact v7 w9 (by omega)
  · rw [uT_ne (by omega)]
    exact v8 a c
  · rw [uT_ne (by omega)]
    exact v9 a c
  · rw [t6]
    show _ = upd (τ 0) nw (nI k) w9
    by_cases e : w9 = nw
    · rw [if_pos e, e, upd_eq]
    · rw [if_neg e, upd_ne e]
      exact l w9 (by omega)
  · rw [show uT t 6 nw (nI k) (20 + a) = t (20 + a) from uT_ne (by omega), show uT t 6 nw (nI k) (40 + a) = t (40 + a) from uT_ne (by omega)]
    show (a ≠ c → t (20 + a) c = hb (upd (τ 1) nw ((1 : Int32) <<< (nI nw &&& 31)) a) (nI c)) ∧ t (40 + a) c = hb (upd (τ 2) nw 0 a) (nI c)
    by_cases ea : a = nw
    · subst ea
      rw [upd_eq, upd_eq, (o a c (by omega) (Or.inl (Nat.le_refl a))).1, (o a c (by omega) (Or.inl (Nat.le_refl a))).2]
      refine ⟨fun hne => ?_, ?_⟩
      · rw [show ((1 : Int32) <<< (nI a &&& 31)) = nI (2 ^ a) from sb_2 a hw, hbz (Nat.lt_of_lt_of_le (Nat.pow_lt_pow_right (by decide) hw) (by decide)) (by omega), Nat.testBit_two_pow, decide_eq_false hne]
        rfl
      · exact (hb_hi (x := 0) (n := 0) (by decide) (by decide) (Nat.zero_le c) (by omega)).symm
    · rw [upd_ne ea, upd_ne ea]
      by_cases ec : c = nw
      · subst ec
        obtain ⟨y, h, h2, -⟩ := x13 a (by omega)
        obtain ⟨y2, h3, h4⟩ := j a (by omega)
        rw [(o a c (by omega) (Or.inr (Nat.le_refl c))).1, (o a c (by omega) (Or.inr (Nat.le_refl c))).2, h, h3, hb_hi x4 h2 (Nat.le_refl c) (by omega), hb_hi x4 h4 (Nat.le_refl c) (by omega)]
        exact ⟨fun _ => rfl, rfl⟩
      · exact b a c (by omega) (by omega)
  · rw [uT_ne (by omega), uT_ne (by omega)]
    exact o a c ha (by omega)
  · show ∃ y, upd (τ 2) nw 0 a = nI y ∧ y < 2 ^ (nw + 1)
    by_cases e : a = nw
    · exact ⟨0, by rw [e, upd_eq]; rfl, Nat.lt_of_lt_of_le (by decide) (Nat.pow_le_pow_right (by decide) (Nat.zero_le (nw + 1)))⟩
    · rw [upd_ne e]
      obtain ⟨y, h, h2⟩ := j a (by omega)
      exact ⟨y, h, Nat.lt_of_lt_of_le h2 (Nat.pow_le_pow_right (by decide) (by omega))⟩
theorem u_01 {t : gT} {c b : Nat} {v : Int32} (hv : v = 0 ∨ v = 1) {d e : Nat} (h : t d e = 0 ∨ t d e = 1) : uT t c b v d e = 0 ∨ uT t c b v d e = 1 := by
  by_cases q : d = c
  · subst q
    rw [uT_eq]
    by_cases q2 : e = b
    · rw [q2, upd_eq]; exact hv
    · rw [upd_ne q2]; exact h
  · rw [uT_ne q]
    exact h
theorem TS_si (R : TS σ τ nw nl lm K s t) {a b : Nat} (ha : a < nw) (hb9 : b < nw) (hne : a ≠ b) : (if t (20 + a) b = 0 then (1 : Int32) else 0) = hb (τ 1 a ^^^ ((1 : Int32) <<< (nI b &&& 31))) (nI b) ∧ TS σ (uT τ 1 a (τ 1 a ^^^ ((1 : Int32) <<< (nI b &&& 31)))) nw nl lm K s (uT t (20 + a) b (if t (20 + a) b = 0 then 1 else 0)) := by
  obtain ⟨I, V, n, l, w, bb, o, j, r, lc, co, k9⟩ := R
  obtain ⟨x1, x2, x3, x4, x5, x6, x7, x8, x9, x10, x11, x12, x13⟩ := I
  obtain ⟨v1, v2, v3, v4, v5, v6, v7, v8, v9, v10⟩ := V
  obtain ⟨y, hy, hy2, hy3⟩ := x13 a ha
  have hy4 := lt12 x4 hy2
  have e0 : (if t (20 + a) b = 0 then (1 : Int32) else 0) = zb (!y.testBit b) := zb_not (by rw [(bb a b ha hb9).1 hne, hy, hbz (by omega) (by omega)])
  have e1 : hb (τ 1 a ^^^ ((1 : Int32) <<< (nI b &&& 31))) (nI b) = zb (!y.testBit b) := by
    rw [hy]
    exact (hb_x hy4 (by omega) (by omega)).trans (if_pos rfl)
  have hv : (if t (20 + a) b = 0 then (1 : Int32) else 0) = 0 ∨ (if t (20 + a) b = 0 then (1 : Int32) else 0) = 1 := by split <;> simp
  refine ⟨e0.trans e1.symm, ⟨x1, x2, x3, x4, x5, x6, x7, x8, x9, x10, x11, x12, fun w9 hw2 => ?_⟩, ⟨v1, v2, v3, v4, v5, fun i hi => ?_, fun w9 hw2 => ?_, fun c d => u_01 hv (v8 c d), fun c d => u_01 hv (v9 c d), fun i => u_01 hv (v10 i)⟩, n, fun w9 hw2 => ?_, fun i hi => ?_, fun c d hc hd => ?_, fun c d hc hd => ?_, j, r, lc, co, k9⟩
  · show ∃ z, upd (τ 1) a (τ 1 a ^^^ sb b) w9 = nI z ∧ z < 2 ^ nw ∧ z.testBit w9 = true
    by_cases e : w9 = a
    · subst e
      refine ⟨y ^^^ 2 ^ b, by rw [upd_eq, hy, sb_2 b (by omega), nI_xor], Nat.xor_lt_two_pow hy2 (Nat.pow_lt_pow_right (by decide) hb9), ?_⟩
      rw [Nat.testBit_xor, hy3, Nat.testBit_two_pow, decide_eq_false (fun z => hne z.symm)]
      rfl
    · rw [upd_ne e]
      exact x13 w9 hw2
  · unfold tgF
    rw [uT_ne (by omega)]
    exact v6 i hi
  · unfold ltF
    rw [uT_ne (by omega)]
    exact v7 w9 hw2
  · rw [uT_ne (by omega)]
    exact l w9 hw2
  · refine ⟨?_, ?_⟩
    · rw [uT_ne (by omega)]
      exact (w i hi).1
    · rw [uT_ne (by omega)]
      exact (w i hi).2
  · rw [show uT t (20 + a) b (if t (20 + a) b = 0 then 1 else 0) (40 + c) = t (40 + c) from uT_ne (by omega)]
    refine ⟨fun hcd => ?_, (bb c d hc hd).2⟩
    show _ = hb (upd (τ 1) a (τ 1 a ^^^ sb b) c) (nI d)
    by_cases e : c = a
    · subst e
      rw [uT_eq, upd_eq, hy, hb_x hy4 (by omega) (by omega)]
      by_cases e2 : d = b
      · rw [if_pos e2, e2, upd_eq, e0]
      · rw [if_neg e2, upd_ne e2, ← hy]
        exact (bb c d hc hd).1 hcd
    · rw [uT_ne (by omega), upd_ne e]
      exact (bb c d hc hd).1 hcd
  · rw [show uT t (20 + a) b (if t (20 + a) b = 0 then 1 else 0) (40 + c) = t (40 + c) from uT_ne (by omega)]
    refine ⟨?_, (o c d hc hd).2⟩
    by_cases e : c = a
    · subst e
      rw [uT_eq, upd_ne (by omega)]
      exact (o c d hc hd).1
    · rw [uT_ne (by omega)]
      exact (o c d hc hd).1
theorem TS_tj (R : TS σ τ nw nl lm K s t) {a b : Nat} (ha : a < nw) (hb9 : b < nw) : (if t (40 + a) b = 0 then (1 : Int32) else 0) = hb (τ 2 a ^^^ ((1 : Int32) <<< (nI b &&& 31))) (nI b) ∧ TS σ (uT τ 2 a (τ 2 a ^^^ ((1 : Int32) <<< (nI b &&& 31)))) nw nl lm K s (uT t (40 + a) b (if t (40 + a) b = 0 then 1 else 0)) := by
  obtain ⟨I, V, n, l, w, bb, o, j, r, lc, co, k9⟩ := R
  obtain ⟨v1, v2, v3, v4, v5, v6, v7, v8, v9, v10⟩ := V
  obtain ⟨y, hy, hy2⟩ := j a ha
  have x4 := Iv_nw I
  have hy4 := lt12 x4 hy2
  have e0 : (if t (40 + a) b = 0 then (1 : Int32) else 0) = zb (!y.testBit b) := zb_not (by rw [(bb a b ha hb9).2, hy, hbz (by omega) (by omega)])
  have e1 : hb (τ 2 a ^^^ ((1 : Int32) <<< (nI b &&& 31))) (nI b) = zb (!y.testBit b) := by
    rw [hy]
    exact (hb_x hy4 (by omega) (by omega)).trans (if_pos rfl)
  have hv : (if t (40 + a) b = 0 then (1 : Int32) else 0) = 0 ∨ (if t (40 + a) b = 0 then (1 : Int32) else 0) = 1 := by split <;> simp
  refine ⟨e0.trans e1.symm, I, ⟨v1, v2, v3, v4, v5, fun i hi => ?_, fun w9 hw2 => ?_, fun c d => u_01 hv (v8 c d), fun c d => u_01 hv (v9 c d), fun i => u_01 hv (v10 i)⟩, n, fun w9 hw2 => ?_, fun i hi => ?_, fun c d hc hd => ?_, fun c d hc hd => ?_, fun c hc => ?_, r, lc, co, k9⟩
  · unfold tgF
    rw [uT_ne (by omega)]
    exact v6 i hi
  · unfold ltF
    rw [uT_ne (by omega)]
    exact v7 w9 hw2
  · rw [uT_ne (by omega)]
    exact l w9 hw2
  · refine ⟨?_, ?_⟩
    · rw [uT_ne (by omega)]
      exact (w i hi).1
    · rw [uT_ne (by omega)]
      exact (w i hi).2
  · rw [show uT t (40 + a) b (if t (40 + a) b = 0 then 1 else 0) (20 + c) = t (20 + c) from uT_ne (by omega)]
    refine ⟨(bb c d hc hd).1, ?_⟩
    show _ = hb (upd (τ 2) a (τ 2 a ^^^ sb b) c) (nI d)
    by_cases e : c = a
    · subst e
      rw [uT_eq, upd_eq, hy, hb_x hy4 (by omega) (by omega)]
      by_cases e2 : d = b
      · rw [if_pos e2, e2, upd_eq, e0]
      · rw [if_neg e2, upd_ne e2, ← hy]
        exact (bb c d hc hd).2
    · rw [uT_ne (by omega), upd_ne e]
      exact (bb c d hc hd).2
  · rw [show uT t (40 + a) b (if t (40 + a) b = 0 then 1 else 0) (20 + c) = t (20 + c) from uT_ne (by omega)]
    refine ⟨(o c d hc hd).1, ?_⟩
    by_cases e : c = a
    · subst e
      rw [uT_eq, upd_ne (by omega)]
      exact (o c d hc hd).2
    · rw [uT_ne (by omega)]
      exact (o c d hc hd).2
  · show ∃ z, upd (τ 2) a (τ 2 a ^^^ sb b) c = nI z ∧ z < 2 ^ nw
    by_cases e : c = a
    · subst e
      exact ⟨y ^^^ 2 ^ b, by rw [upd_eq, hy, sb_2 b (by omega), nI_xor], Nat.xor_lt_two_pow hy2 (Nat.pow_lt_pow_right (by decide) hb9)⟩
    · rw [upd_ne e]
      exact j c hc
theorem TS_s4 (R : TS σ τ nw nl lm K s t) {k : Nat} (h3 : 3 ≤ k) (h15 : k ≤ 15) : TS (uS σ 4 (nI k)) τ nw nl k K (uS s 1 (nI k)) t := by
  obtain ⟨I, V, n, l, w, bb, o, j, r, lc, co, k9⟩ := R
  obtain ⟨x1, x2, x3, x4, x5, x6, x7, x8, x9, x10, x11, x12, x13⟩ := I
  obtain ⟨v1, v2, v3, v4, v5, v6, v7, v8, v9, v10⟩ := V
  exact ⟨⟨x1, x2, rfl, x4, x5, h3, h15, x8, x9, x10, x11, x12, x13⟩, ⟨v1, rfl, v3, v4, ⟨h3, h15⟩, v6, v7, v8, v9, v10⟩, n, l, w, bb, o, j, r, lc, co, k9⟩
theorem TS_s5 (R : TS σ τ nw nl lm K s t) {k : Nat} (h : k ≤ 20) : TS (uS σ 5 (nI k)) τ nw nl lm K (uS s 2 (nI k)) t := by
  obtain ⟨I, V, n, l, w, bb, o, j, r, lc, co, k9⟩ := R
  exact ⟨I, V, ⟨rfl, n.2⟩, l, w, bb, o, j, r, ⟨k, rfl, h⟩, co, k9⟩
theorem TS_s6 (R : TS σ τ nw nl lm K s t) {k : Nat} (h : 1 ≤ k) (h2 : k ≤ 50) : TS (uS σ 6 (nI k)) τ nw nl lm K (uS s 3 (nI k)) t := by
  obtain ⟨I, V, n, l, w, bb, o, j, r, lc, co, k9⟩ := R
  exact ⟨I, V, ⟨n.1, rfl, n.2.2⟩, l, w, bb, o, j, r, lc, ⟨k, rfl, h, h2⟩, k9⟩
/-- new rows of a Sim -/
theorem SV_new {m2 : Nat} {f g : Nat → Int32} (V : SV nw nl lm s t) (hm : m2 ≤ 16) (hf : ∀ i, i < m2 → ∃ w, w < nw ∧ f i = nI w) (hg : ∀ i, g i = 0 ∨ g i = 1) : SV nw m2 lm s (uA1 (uA1 t 9 f) 10 g) := by
  obtain ⟨v1, v2, v3, v4, v5, v6, v7, v8, v9, v10⟩ := V
  refine ⟨v1, v2, v3, hm, v5, fun i hi => ?_, fun w9 hw2 => ?_, fun c d => ?_, fun c d => ?_, fun i => ?_⟩
  · obtain ⟨w9, h1, h2⟩ := hf i hi
    unfold tgF
    rw [uA1_ne (by decide), uA1_eq, h2, nI_clamp (by omega)]
    exact ⟨rfl, h1⟩
  · unfold ltF
    rw [uA1_ne (by decide), uA1_ne (by decide)]
    exact v7 w9 hw2
  · rw [uA1_ne (by omega), uA1_ne (by omega)]
    exact v8 c d
  · rw [uA1_ne (by omega), uA1_ne (by omega)]
    exact v9 c d
  · rw [uA1_eq]
    exact hg i
/-- the telegram put anew, on both sides -/
theorem TS_new {σ2 : gS} {τ2 : gT} {s2 : gS} {m2 : Nat} {f g : Nat → Int32} (R : TS σ τ nw nl lm K s t) (I2 : IX σ2 τ2 nw m2 lm) (hs : ∀ c, c ≠ 9 → σ2 c = σ c) (hs2 : s2 = s) (hτ : ∀ c, c < 3 → τ2 c = τ c)
    (hf : ∀ i, i < m2 → f i = τ2 7 i ∧ g i = τ2 8 i) (hg : ∀ i, g i = 0 ∨ g i = 1) (hr : ∀ i, i + 1 < m2 → τ2 8 i = 0 ∨ τ2 8 (i + 1) = 0) : TS σ2 τ2 nw m2 lm K s2 (uA1 (uA1 t 9 f) 10 g) := by
  obtain ⟨I, V, n, l, w, bb, o, j, r, lc, co, k9⟩ := R
  subst hs2
  refine ⟨I2, SV_new V (Iv_nl I2) (fun i hi => ?_) hg, ?_, fun w9 hw2 => ?_, fun i hi => ?_, fun c d hc hd => ?_, fun c d hc hd => ?_, fun c hc => ?_, hr, ?_, ?_, ?_⟩
  · obtain ⟨w9, h1, h2⟩ := Iv_tg I2 i hi
    exact ⟨w9, h1, by rw [(hf i hi).1, h2]⟩
  · rw [hs 5 (by decide), hs 6 (by decide), hs 10 (by decide), hs 11 (by decide)]
    exact n
  · rw [uA1_ne (by decide), uA1_ne (by decide), hτ 0 (by decide)]
    exact l w9 hw2
  · rw [uA1_ne (by decide), uA1_eq, uA1_eq]
    exact hf i hi
  · rw [uA1_ne (by omega), uA1_ne (by omega), uA1_ne (by omega), uA1_ne (by omega), hτ 1 (by decide), hτ 2 (by decide)]
    exact bb c d hc hd
  · rw [uA1_ne (by omega), uA1_ne (by omega), uA1_ne (by omega), uA1_ne (by omega)]
    exact o c d hc hd
  · rw [hτ 2 (by decide)]
    exact j c hc
  · rw [hs 5 (by decide)]; exact lc
  · rw [hs 6 (by decide)]; exact co
  · rw [hs 10 (by decide)]; exact k9
theorem TS_write (R : TS σ τ nw nl lm K s t) {a : Nat} {f g : Nat → Int32} (ha : a < nw) (h16 : nl < 16) (hf : ∀ i, i < nl → f i = t 9 i ∧ g i = t 10 i) (h1 : f nl = nI a) (hg : ∀ i, g i = 0 ∨ g i = 1) (h2 : g nl = 0) : TS (uS σ 9 (nI (nl + 1))) (uT (uT τ 7 nl (nI a)) 8 nl 0) nw (nl + 1) lm K s (uA1 (uA1 t 9 f) 10 g) := by
  have R0 := R
  obtain ⟨I, V, n, l, w, bb, o, j, r, lc, co, k9⟩ := R
  obtain ⟨x1, x2, x3, x4, x5, x6, x7, x8, x9, x10, x11, x12, x13⟩ := I
  have e7 : ∀ i, uT (uT τ 7 nl (nI a)) 8 nl 0 7 i = upd (τ 7) nl (nI a) i := fun i => rfl
  have e8 : ∀ i, uT (uT τ 7 nl (nI a)) 8 nl 0 8 i = upd (τ 8) nl 0 i := fun i => rfl
  refine TS_new R0 ⟨x1, rfl, x3, x4, by omega, x6, x7, fun i hi => ?_, upd_01 x9 (Or.inl rfl), x10, fun _ => ?_, x12, x13⟩ (fun c hc => if_neg hc) rfl (fun c hc => by rw [uT_ne (by omega), uT_ne (by omega)]) (fun i hi => ?_) hg (fun i hi => ?_)
  · rw [e7]
    by_cases e : i = nl
    · exact ⟨a, ha, by rw [e, upd_eq]⟩
    · rw [upd_ne e]
      exact x8 i (by omega)
  · rw [e8, Nat.add_sub_cancel, upd_eq]
  · rw [e7, e8]
    by_cases e : i = nl
    · rw [e, upd_eq, upd_eq]
      exact ⟨h1, h2⟩
    · rw [upd_ne e, upd_ne e, (hf i (by omega)).1, (hf i (by omega)).2]
      exact w i (by omega)
  · rw [e8, e8]
    by_cases e : i + 1 = nl
    · exact Or.inr (by rw [e, upd_eq])
    · rw [upd_ne (by omega), upd_ne e]
      exact r i (by omega)
theorem TS_jd (R : TS σ τ nw nl lm K s t) {p : Nat} {v : Int32} (hp : p + 1 < nl) (hv : v = 0 ∨ (v = 1 ∧ τ 8 (p + 1) = 0 ∧ (0 < p → τ 8 (p - 1) = 0))) : TS σ (uT τ 8 p v) nw nl lm K s (uT t 10 p v) := by
  obtain ⟨I, V, n, l, w, bb, o, j, r, lc, co, k9⟩ := R
  obtain ⟨x1, x2, x3, x4, x5, x6, x7, x8, x9, x10, x11, x12, x13⟩ := I
  obtain ⟨v1, v2, v3, v4, v5, v6, v7, v8, v9, v10⟩ := V
  have hv2 : v = 0 ∨ v = 1 := by rcases hv with h | h; exact Or.inl h; exact Or.inr h.1
  refine ⟨⟨x1, x2, x3, x4, x5, x6, x7, x8, upd_01 x9 hv2, x10, fun h0 => ?_, x12, x13⟩, ⟨v1, v2, v3, v4, v5, v6, v7, fun c d => u_01 hv2 (v8 c d), fun c d => u_01 hv2 (v9 c d), fun i => u_01 hv2 (v10 i)⟩, n, l, fun i hi => ?_, fun c d hc hd => ?_, fun c d hc hd => ?_, j, fun i hi => ?_, lc, co, k9⟩
  · show upd (τ 8) p v (nl - 1) = 0
    rw [upd_ne (by omega)]
    exact x11 h0
  · rw [uT_ne (by decide), uT_eq]
    refine ⟨(w i hi).1, ?_⟩
    show upd (t 10) p v i = upd (τ 8) p v i
    by_cases e : i = p
    · rw [e, upd_eq, upd_eq]
    · rw [upd_ne e, upd_ne e]
      exact (w i hi).2
  · rw [show uT t 10 p v (20 + c) = t (20 + c) from uT_ne (by omega), show uT t 10 p v (40 + c) = t (40 + c) from uT_ne (by omega)]
    exact bb c d hc hd
  · rw [show uT t 10 p v (20 + c) = t (20 + c) from uT_ne (by omega), show uT t 10 p v (40 + c) = t (40 + c) from uT_ne (by omega)]
    exact o c d hc hd
  · show upd (τ 8) p v i = 0 ∨ upd (τ 8) p v (i + 1) = 0
    by_cases e : i = p
    · subst e
      rw [upd_eq, upd_ne (by omega)]
      rcases hv with h | ⟨-, h, -⟩
      · exact Or.inl h
      · exact Or.inr h
    · rw [upd_ne e]
      by_cases e2 : i + 1 = p
      · rw [e2, upd_eq]
        rcases hv with h | ⟨-, -, h⟩
        · exact Or.inr h
        · have := h (by omega)
          rw [show p - 1 = i by omega] at this
          exact Or.inl this
      · rw [upd_ne e2]
        exact r i hi
theorem TS_sk (R : TS σ τ nw nl lm K s t) {p : Nat} {f g : Nat → Int32} (hp : p < nl) (h : SK 7 8 p (nl - 1) τ τ') (hf : ∀ i, i < nl - 1 → f i = t 9 (if i < p then i else i + 1) ∧ g i = (if i < p then (if i = p - 1 then 0 else t 10 i) else t 10 (i + 1))) (hg : ∀ i, g i = 0 ∨ g i = 1) : TS (uS σ 9 (nI (nl - 1))) τ' nw (nl - 1) lm K s (uA1 (uA1 t 9 f) 10 g) := by
  have R0 := R
  obtain ⟨I, V, n, l, w, bb, o, j, r, lc, co, k9⟩ := R
  obtain ⟨x1, x2, x3, x4, x5, x6, x7, x8, x9, x10, x11, x12, x13⟩ := I
  have m1 := h.2.1
  have m2 := h.2.2.1
  have hl0 := x11 (by omega)
  have jl : ∀ q, q ≠ p - 1 ∨ p = 0 → jz p (τ 8) q = τ 8 q := by
    intro q hq
    unfold jz
    split
    · rfl
    · exact upd_ne (by omega)
  have j0 : 0 < p → jz p (τ 8) (p - 1) = 0 := by
    intro h0
    unfold jz
    rw [if_neg (by omega), upd_eq]
  have e8 : ∀ i, i < nl - 1 → τ' 8 i = (if i < p then (if i = p - 1 then 0 else τ 8 i) else τ 8 (i + 1)) := by
    intro i hi
    by_cases c : i < p
    · rw [if_pos c, m2.1 i c]
      by_cases e : i = p - 1
      · rw [if_pos e, e]
        exact j0 (by omega)
      · rw [if_neg e]
        exact jl i (Or.inl e)
    · rw [if_neg c, m2.2.1 i (by omega) hi]
      exact jl (i + 1) (by omega)
  have e7 : ∀ i, i < nl - 1 → τ' 7 i = τ 7 (if i < p then i else i + 1) := by
    intro i hi
    by_cases c : i < p
    · rw [if_pos c, m1.1 i c]
    · rw [if_neg c, m1.2.1 i (by omega) hi]
  refine TS_new R0 ⟨x1, rfl, x3, x4, by omega, x6, x7, fun i hi => ?_, h.2.2.2, by rw [h.1 17 (by decide) (by decide)]; exact x10, fun h0 => ?_, by rw [h.1 0 (by decide) (by decide)]; exact x12, by rw [h.1 1 (by decide) (by decide)]; exact x13⟩ (fun c hc => if_neg hc) rfl (fun c hc => h.1 c (by omega) (by omega)) (fun i hi => ?_) hg (fun i hi => ?_)
  · rw [e7 i hi]
    exact x8 _ (by split <;> omega)
  · rw [e8 _ (by omega)]
    by_cases c : nl - 1 - 1 < p
    · rw [if_pos c]
      split
      · rfl
      · omega
    · rw [if_neg c, show nl - 1 - 1 + 1 = nl - 1 by omega]
      exact hl0
  · rw [(hf i hi).1, (hf i hi).2, e7 i hi, e8 i hi, (w _ (show (if i < p then i else i + 1) < nl by split <;> omega)).1, (w i (by omega)).2, (w (i + 1) (by omega)).2]
    exact ⟨rfl, rfl⟩
  · rw [e8 i (by omega), e8 (i + 1) (by omega)]
    by_cases c : i < p
    · rw [if_pos c]
      by_cases e : i = p - 1
      · rw [if_pos e]
        exact Or.inl rfl
      · rw [if_neg e, if_pos (show i + 1 < p by omega)]
        by_cases e2 : i + 1 = p - 1
        · rw [if_pos e2]
          exact Or.inr rfl
        · rw [if_neg e2]
          exact r i (by omega)
    · rw [if_neg c, if_neg (by omega)]
      exact r (i + 1) (by omega)
theorem TS_send (R : TS σ τ nw nl lm K s t) {f g : Nat → Int32} {x : Int32} (hg : ∀ i, g i = 0 ∨ g i = 1) : TS (uS (uS (uS σ 10 (σ 10 + 1)) 11 (σ 11 + x)) 9 0) τ nw 0 lm (K + 1) (uS (uS s 4 (s 4 + 1)) 5 (s 5 + x)) (uA1 (uA1 t 9 f) 10 g) := by
  obtain ⟨I, V, n, l, w, bb, o, j, r, lc, co, k, hk, hk2⟩ := R
  obtain ⟨x1, x2, x3, x4, x5, x6, x7, x8, x9, x10, x11, x12, x13⟩ := I
  refine ⟨⟨x1, rfl, x3, x4, by omega, x6, x7, fun i hi => by omega, x9, x10, fun h0 => by omega, x12, x13⟩, SV_new (s := uS (uS s 4 (s 4 + 1)) 5 (s 5 + x)) (nl := nl) (by obtain ⟨v1, v2, v3⟩ := V; exact ⟨v1, v2, v3⟩) (by decide) (fun i hi => by omega) hg, ⟨n.1, n.2.1, ?_, ?_⟩, fun w9 hw2 => ?_, fun i hi => by omega, fun c d hc hd => ?_, fun c d hc hd => ?_, j, fun i hi => by omega, lc, co, ⟨k + 1, ?_, by omega⟩⟩
  · show s 4 + 1 = σ 10 + 1
    rw [n.2.2.1]
  · show s 5 + x = σ 11 + x
    rw [n.2.2.2]
  · rw [uA1_ne (by decide), uA1_ne (by decide)]
    exact l w9 hw2
  · rw [uA1_ne (by omega), uA1_ne (by omega), uA1_ne (by omega), uA1_ne (by omega)]
    exact bb c d hc hd
  · rw [uA1_ne (by omega), uA1_ne (by omega), uA1_ne (by omega), uA1_ne (by omega)]
    exact o c d hc hd
  · show σ 10 + 1 = nI (k + 1)
    rw [hk, nI_1]
theorem TS_rw (R : TS σ τ nw nl lm K s t) {t2 : gT} (h : RWx σ τ nw nl τ') (hk : ∀ c, c ≠ 9 → c ≠ 10 → t2 c = t c) (hw : ∀ i, i < nl → t2 9 i = cwd (prx σ τ nw nl) (Sx σ τ nw nl) (Ax σ τ nw nl) (Bx σ τ nw nl) i ∧ t2 10 i = cjd (prx σ τ nw nl) i) (hj : ∀ i, t2 10 i = 0 ∨ t2 10 i = 1) : TS σ τ' nw nl lm K s t2 := by
  have I2 := RWx_I R.1 h
  have R0 := R
  have e : t2 = uA1 (uA1 t 9 (t2 9)) 10 (t2 10) := by
    funext c
    by_cases c10 : c = 10
    · rw [c10, uA1_eq]
    · rw [uA1_ne c10]
      by_cases c9 : c = 9
      · rw [c9, uA1_eq]
      · rw [uA1_ne c9, hk c c9 c10]
  rw [e]
  refine TS_new R0 I2 (fun c _ => rfl) rfl (fun c hc => h.1 c (by omega) (by omega)) (fun i hi => ?_) hj (fun i hi => ?_)
  · rw [(h.2.2.1 i hi).1, (h.2.2.1 i hi).2]
    exact hw i hi
  · rw [(h.2.2.1 i (by omega)).2, (h.2.2.1 (i + 1) hi).2]
    unfold cjd
    cases h1 : isSec (prx σ τ nw nl) (i + 1) with
    | false => exact Or.inl rfl
    | true =>
      refine Or.inr ?_
      rw [show isSec (prx σ τ nw nl) (i + 1 + 1) = false by
        show (!isSec (prx σ τ nw nl) (i + 1) && prx σ τ nw nl (i + 1)) = false
        rw [h1]
        rfl]
      rfl
end
