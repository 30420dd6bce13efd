/-! wording -/
theorem uB_cong {x0 : Nat} {c c2 : Nat → Nat} {ok ok2 : Nat → Bool} {m0 : Nat} : ∀ b, (∀ i, i < b → c i = c2 i ∧ ok i = ok2 i) → uB x0 c ok m0 b = uB x0 c2 ok2 m0 b := by
  intro b
  induction b with
  | zero => exact fun _ => rfl
  | succ b ih =>
    intro h
    show (if ok b = true then _ else _) = (if ok2 b = true then _ else _)
    rw [ih (fun i hi => h i (by omega)), (h b (by omega)).1, (h b (by omega)).2]
theorem uA_cong {p u1 u0 N : Nat} {c1 d1 : Nat → Nat} {c2 d2 : Nat → Nat → Nat} {ok k1 : Nat → Bool} {ok2 k2 : Nat → Nat → Bool} : ∀ a, a ≤ N → (∀ i, i < N → c1 i = d1 i ∧ ok i = k1 i) → (∀ i j, i < N → j < N → c2 i j = d2 i j ∧ (¬ p = 0 → ok2 i j = k2 i j)) → uA p u1 u0 N c1 c2 ok ok2 a = uA p u1 u0 N d1 d2 k1 k2 a := by
  intro a
  induction a with
  | zero => exact fun _ _ _ => rfl
  | succ a ih =>
    intro ha h1 h2
    have e := ih (by omega) h1 h2
    cases hk : k1 a with
    | false => rw [uA_no (by rw [(h1 a (by omega)).2, hk]), uA_no hk, e]
    | true =>
      have hk2 : ok a = true := by rw [(h1 a (by omega)).2, hk]
      by_cases h0 : p = 0
      · rw [uA_z hk2 h0, uA_z hk h0, e, (h1 a (by omega)).1]
      · rw [uA_p hk2 h0, uA_p hk h0, e, (h1 a (by omega)).1]
        exact uB_cong N (fun i hi => ⟨(h2 i a hi (by omega)).1, (h2 i a hi (by omega)).2 h0⟩)
theorem uU_cong {lm N : Nat} {lt lt2 : Nat → Nat} {may may2 jn jn2 : Nat → Nat → Bool} {tg tg2 : Nat → Nat} (h1 : ∀ w, w < N → lt w = lt2 w) (h2 : ∀ a b, a < N → b < N → may a b = may2 a b ∧ jn a b = jn2 a b) : ∀ k, (∀ i, i < k → tg i = tg2 i ∧ tg i < N) → uU lm N lt may jn tg k = uU lm N lt2 may2 jn2 tg2 k := by
  intro k
  induction k with
  | zero => exact fun _ => rfl
  | succ p ih =>
    intro h3
    have e := ih (fun i hi => h3 i (by omega))
    show ((uA p _ _ N _ _ _ _ N, _) : Nat × Nat) = (uA p _ _ N _ _ _ _ N, _)
    rw [e]
    refine congrArg (fun v => (v, (uU lm N lt2 may2 jn2 tg2 p).1)) (uA_cong N (Nat.le_refl N) (fun i hi => ⟨by rw [h1 i hi], ?_⟩) (fun i j hi hj => ⟨by rw [h1 i hi, h1 j hj], fun h0 => ?_⟩))
    · rw [(h2 (tg p) i (h3 p (by omega)).2 hi).1, (h3 p (by omega)).1]
    · rw [(h2 (tg (p - 1)) i (h3 (p - 1) (by omega)).2 hi).1, (h3 (p - 1) (by omega)).1, (h2 i j hi hj).2]
/-- what the places from p on count at the least -/
def Lx (lm nw m : Nat) (t : gT) (p : Nat) : Nat := (uU lm nw (ltF t) (mayF t) (jnF t) (fun i => tgF t (p + i)) (m - p)).1
theorem Lx_le {lm nw m : Nat} {t : gT} {p : Nat} : Lx lm nw m t p ≤ 9999 := uU_le _
theorem Lx_m {lm nw m : Nat} {t : gT} : Lx lm nw m t m = 0 := by
  unfold Lx
  rw [Nat.sub_self]
  rfl
theorem Lx_rest {lm nw m mj f : Nat} {s s2 : gS} {t t2 : gT} (I : SV nw m lm s t) (h : RSt nw m lm f t s2 t2) (hf : f < m) : al (m - f) (s2 2) (nI (UUx lm nw t2 (m - f)).1) = nI (Lx lm nw m t f) := by
  obtain ⟨e2, -, hl, hm, ht⟩ := h
  have e : UUx lm nw t2 (m - f) = uU lm nw (ltF t) (mayF t) (jnF t) (fun i => tgF t (f + i)) (m - f) := uU_cong hl hm (m - f) (fun i hi => ⟨ht i hi, by rw [ht i hi]; exact (SV_tg I (by omega)).2⟩)
  have hle := Lx_le (lm := lm) (nw := nw) (m := m) (t := t) (p := f)
  unfold al
  rw [if_neg (by omega), e2, e]
  exact if_neg (nI_nlt (b := 0) (Nat.zero_le _) (by unfold Lx at hle; omega))
/-- a word alone, a pair, that reaches the least -/
def Q1 (lm nw m : Nat) (t : gT) (p a : Nat) : Prop := mayF t (tgF t p) a = true ∧ cN lm (ltF t a) + Lx lm nw m t (p + 1) = Lx lm nw m t p
def Q2 (lm nw m : Nat) (t : gT) (p a b : Nat) : Prop := mayF t (tgF t p) a = true ∧ mayF t (tgF t (p + 1)) b = true ∧ jnF t a b = true ∧ cN lm (ltF t a + ltF t b) + Lx lm nw m t (p + 2) = Lx lm nw m t p
/-- the least of them -/
def WS (lm nw m : Nat) (t : gT) (pr : Nat → Bool) (S A B : Nat → Nat) : Prop := ∀ p, p < m →
  (pr p = false → S p < nw ∧ Q1 lm nw m t p (S p) ∧ ∀ a, a < S p → ¬ Q1 lm nw m t p a) ∧
  (pr p = true → p + 1 < m ∧ (∀ a, a < nw → ¬ Q1 lm nw m t p a) ∧ A p < nw ∧ B p < nw ∧ Q2 lm nw m t p (A p) (B p) ∧ ∀ a b, a < nw → b < nw → Q2 lm nw m t p a b → 12 * A p + B p ≤ 12 * a + b)
/-- what the wording holds -/
def wq (pr : Nat → Bool) (S A B : Nat → Nat) (q : Nat) : Nat := if isSec pr q = true then B (q - 1) else if pr q = true then 100 + A q else S q
/-- its, behind the words from i on -/
def V1 (lm nw m : Nat) (t : gT) (p i : Nat) (v : Int32) : Prop := (v = -1 ∧ ∀ a, i ≤ a → a < nw → ¬ Q1 lm nw m t p a) ∨ ∃ a0, i ≤ a0 ∧ a0 < nw ∧ Q1 lm nw m t p a0 ∧ (∀ a, i ≤ a → a < a0 → ¬ Q1 lm nw m t p a) ∧ v = nI a0
/-- the wording, behind the pairs from K on -/
def V2 (lm nw m : Nat) (t : gT) (p : Nat) (f0 : Nat → Int32) (K : Nat) (f : Nat → Int32) : Prop := (∀ q, q ≠ p → q ≠ p + 1 → f q = f0 q) ∧ ((∀ a b, a < nw → b < nw → K ≤ 12 * a + b → ¬ Q2 lm nw m t p a b) ∨ ∃ a0 b0, a0 < nw ∧ b0 < nw ∧ K ≤ 12 * a0 + b0 ∧ Q2 lm nw m t p a0 b0 ∧ (∀ a b, a < nw → b < nw → K ≤ 12 * a + b → Q2 lm nw m t p a b → 12 * a0 + b0 ≤ 12 * a + b) ∧ f p = nI (100 + a0) ∧ f (p + 1) = nI b0)
section
variable {lm nw m p : Nat} {t : gT}
theorem V1_0 : V1 lm nw m t p nw (-1) := Or.inl ⟨rfl, fun a h1 h2 => by omega⟩
theorem V1_no {i : Nat} {v : Int32} (h : V1 lm nw m t p (i + 1) v) (hq : ¬ Q1 lm nw m t p i) : V1 lm nw m t p i v := by
  have k : ∀ a, i ≤ a → (i + 1 ≤ a ∨ a = i) := fun a h => by omega
  rcases h with ⟨h1, h2⟩ | ⟨a0, h1, h2, h3, h4, h5⟩
  · refine Or.inl ⟨h1, fun a ha hn => ?_⟩
    rcases k a ha with g | g
    · exact h2 a g hn
    · rw [g]; exact hq
  · refine Or.inr ⟨a0, by omega, h2, h3, fun a ha hn => ?_, h5⟩
    rcases k a ha with g | g
    · exact h4 a g hn
    · rw [g]; exact hq
theorem V1_yes {i : Nat} (hi : i < nw) (hq : Q1 lm nw m t p i) : V1 lm nw m t p i (nI i) := Or.inr ⟨i, Nat.le_refl i, hi, hq, fun a h1 h2 => by omega, rfl⟩
theorem V2_0 {f0 : Nat → Int32} (hw : nw ≤ 12) : V2 lm nw m t p f0 (12 * nw) f0 := ⟨fun _ _ _ => rfl, Or.inl fun a b h1 h2 h3 => by omega⟩
theorem V2_sub {f0 f : Nat → Int32} {K K2 : Nat} (h : V2 lm nw m t p f0 K f) (hk : K2 ≤ K) (hs : ∀ a b, a < nw → b < nw → K2 ≤ 12 * a + b → K ≤ 12 * a + b) : V2 lm nw m t p f0 K2 f := by
  refine ⟨h.1, ?_⟩
  rcases h.2 with h1 | ⟨a0, b0, h1, h2, h3, h4, h5, h6⟩
  · exact Or.inl fun a b g1 g2 g3 => h1 a b g1 g2 (hs a b g1 g2 g3)
  · exact Or.inr ⟨a0, b0, h1, h2, by omega, h4, fun a b g1 g2 g3 => h5 a b g1 g2 (hs a b g1 g2 g3), h6⟩
theorem V2_no {f0 f : Nat → Int32} {a9 j : Nat} (hw : nw ≤ 12) (hj : j < nw) (h : V2 lm nw m t p f0 (12 * a9 + (j + 1)) f) (hq : ¬ Q2 lm nw m t p a9 j) : V2 lm nw m t p f0 (12 * a9 + j) f := by
  have k : ∀ a b, b < nw → 12 * a9 + j ≤ 12 * a + b → (12 * a9 + (j + 1) ≤ 12 * a + b ∨ (a = a9 ∧ b = j)) := fun a b hb hl => by omega
  refine ⟨h.1, ?_⟩
  rcases h.2 with h1 | ⟨a0, b0, h1, h2, h3, h4, h5, h6⟩
  · refine Or.inl fun a b g1 g2 g3 => ?_
    rcases k a b g2 g3 with g | ⟨rfl, rfl⟩
    · exact h1 a b g1 g2 g
    · exact hq
  · refine Or.inr ⟨a0, b0, h1, h2, by omega, h4, fun a b g1 g2 g3 g4 => ?_, h6⟩
    rcases k a b g2 g3 with g | ⟨rfl, rfl⟩
    · exact h5 a b g1 g2 g g4
    · exact absurd g4 hq
theorem V2_yes {f0 f : Nat → Int32} {K a9 j : Nat} (ha : a9 < nw) (hj : j < nw) (h : V2 lm nw m t p f0 K f) (hq : Q2 lm nw m t p a9 j) : V2 lm nw m t p f0 (12 * a9 + j) (upd (upd f p (nI (100 + a9))) (p + 1) (nI j)) := by
  refine ⟨fun q h1 h2 => by rw [upd_ne h2, upd_ne h1]; exact h.1 q h1 h2, Or.inr ⟨a9, j, ha, hj, Nat.le_refl _, hq, fun a b _ _ g _ => g, by rw [upd_ne (by omega), upd_eq], upd_eq⟩⟩
theorem V1_S {v : Int32} {S : Nat} (h : V1 lm nw m t p 0 v) (hS : S < nw ∧ Q1 lm nw m t p S ∧ ∀ a, a < S → ¬ Q1 lm nw m t p a) : v = nI S := by
  rcases h with ⟨h1, h2⟩ | ⟨a0, h1, h2, h3, h4, h5⟩
  · exact absurd hS.2.1 (h2 S (Nat.zero_le _) hS.1)
  · rw [h5]
    rcases Nat.lt_trichotomy a0 S with g | g | g
    · exact absurd h3 (hS.2.2 a0 g)
    · rw [g]
    · exact absurd hS.2.1 (h4 S (Nat.zero_le _) g)
theorem V1_N {v : Int32} (h : V1 lm nw m t p 0 v) (hN : ∀ a, a < nw → ¬ Q1 lm nw m t p a) : v = -1 := by
  rcases h with ⟨h1, h2⟩ | ⟨a0, h1, h2, h3, h4, h5⟩
  · exact h1
  · exact absurd h3 (hN a0 h2)
theorem V2_P {f0 f : Nat → Int32} {A B : Nat} (hw : nw ≤ 12) (h : V2 lm nw m t p f0 0 f) (hA : A < nw) (hB : B < nw) (hQ : Q2 lm nw m t p A B) (hm : ∀ a b, a < nw → b < nw → Q2 lm nw m t p a b → 12 * A + B ≤ 12 * a + b) : f p = nI (100 + A) ∧ f (p + 1) = nI B := by
  rcases h.2 with h1 | ⟨a0, b0, h1, h2, h3, h4, h5, h6, h7⟩
  · exact absurd hQ (h1 A B hA hB (Nat.zero_le _))
  · have g1 := hm a0 b0 h1 h2 h4
    have g2 := h5 A B hA hB (Nat.zero_le _) hQ
    have e : a0 = A ∧ b0 = B := by omega
    rw [h6, h7, e.1, e.2]
    exact ⟨rfl, rfl⟩
end
theorem wq_S {pr : Nat → Bool} {S A B : Nat → Nat} {p : Nat} (h1 : isSec pr p = false) (h2 : pr p = false) : wq pr S A B p = S p ∧ isSec pr (p + 1) = false := by simp [wq, isSec, h1, h2]
theorem wq_P {pr : Nat → Bool} {S A B : Nat → Nat} {p : Nat} (h1 : isSec pr p = false) (h2 : pr p = true) : wq pr S A B p = 100 + A p ∧ wq pr S A B (p + 1) = B p ∧ isSec pr (p + 2) = false := by simp [wq, isSec, h1, h2]
theorem i_m1 (x : Int32) : x + Int32.ofInt (-1) = x - 1 := by
  rw [Int32.sub_eq_add_neg]
  rfl
theorem nI_eqN {x y : Nat} (h : nI x = nI y) (hx : x < 2 ^ 31) (hy : y < 2 ^ 31) : x = y := by
  have := congrArg Int32.toNatClampNeg h
  rw [nI_clamp hx, nI_clamp hy] at this
  exact this
set_option maxRecDepth 100000 in
theorem nwX1_wording_f31 : Cond.fieldLink RX1 31 "TelegraphPricesLaw$Sim" "word" "[I" ∈ wsX1_wording := by decide +kernel
set_option maxRecDepth 100000 in
theorem nwX1_wording_in : ∀ w ∈ wsX10, w ∈ wsX1_wording := by decide +kernel
set_option maxRecDepth 100000 in
theorem nwX1_wording_f28 : Cond.fieldLink RX1 28 "TelegraphPricesLaw$Sim" "join" "[[Z" ∈ wsX1_wording := by decide +kernel
set_option maxRecDepth 100000 in
theorem nwX1_wording_f19 : Cond.fieldLink RX1 19 "TelegraphPricesLaw$Sim" "letters" "[I" ∈ wsX1_wording := by decide +kernel
set_option maxRecDepth 100000 in
theorem nwX1_wording_f49 : Cond.fieldLink RX1 49 "TelegraphPricesLaw$Sim" "words" "I" ∈ wsX1_wording := by decide +kernel
set_option maxRecDepth 100000 in
theorem nwX1_wording_arI : Cond.arrayClass .int ∈ wsX1_wording := by decide +kernel
set_option maxHeartbeats 4000000 in
set_option maxRecDepth 100000 in
theorem s_wording {l : Launch} (hl : l.stackTraces = false) (Γ : gG) (a : Nat → Nat) (m mj : Nat) (s : gS) (t : gT) (z : va_W) (nw lm : Nat) (pr : Nat → Bool) (S A B : Nat → Nat) (I : SV nw m lm s t) (hW : WS lm nw m t pr S A B) : CtJ l yX1_wording wsX1_wording 5 160 514 5922 [.ref (a 100)] Γ none (sW Γ a m mj s t ++ z) (fun v w' => ∃ (q : Nat) (f : Nat → Int32), v = some (.ref q) ∧ w' = sW Γ a m mj s t ++ ((q, .inl (Γ.2.2.1, m, .inl f)) :: z) ∧ ∀ i, i < m → f i = nI (wq pr S A B i)) := by
  refine ctj_of (by decide +kernel) rfl (Nat.le_of_ble_eq_true rfl) ?_
  intro E C F N9 hΓ hL R
  subst hΓ
  subst hL
  show J E 0 0 0 [(0, .ref (a 100))] [] (sW (eG E) a m mj s t ++ z)
  have hnw := SV_nw I
  have hm := SV_m I
  have main : ∀ (q q2 : Nat) (g : Nat → Int32), (∀ i, i ≤ m → g i = nI (Lx lm nw m t i)) → ∀ (d p : Nat) (f : Nat → Int32), p ≤ m → m - p ≤ d → isSec pr p = false → (∀ i, i < p → f i = nI (wq pr S A B i)) → J E 514 5922 57 [(4, .int (nI p)), (0, .ref (a 100)), (1, .int (nI m)), (2, .ref q), (3, .ref q2)] [] (sW (eG E) a m mj s t ++ ((q2, .inl (jC0 E, m + 2, .inl g)) :: (q, .inl (jC0 E, m, .inl f)) :: z)) := by
    intro q q2 g hg d
    induction d with
    | zero =>
      intro p f hp hd hs hf
      have ep : p = m := by omega
      subst ep
      refine j_iload C dX1_wording_57 rfl ?_
      refine j_iload_n C dX1_wording_59 rfl rfl ?_
      refine j_icmp_ge (tgt := 291) C dX1_wording_60 (by decide) (fun c_60 => ?_) (fun c_60 => ?_)
      · refine j_aload_n C dX1_wording_291 rfl rfl ?_
        refine j_drop1 ?_
        exact j_aret C F (Or.inr ⟨_, rfl⟩) dX1_wording_292 (Nat.le_of_ble_eq_true rfl) (Nat.le_of_ble_eq_true rfl) ⟨q, f, rfl, rfl, hf⟩
      · exact absurd (i_rf _) c_60
    | succ d ih =>
      intro p f hp hd hs hf
      rcases Nat.lt_or_ge p m with hpm | hpm
      rotate_left
      · have ep : p = m := by omega
        subst ep
        refine j_iload C dX1_wording_57 rfl ?_
        refine j_iload_n C dX1_wording_59 rfl rfl ?_
        refine j_icmp_ge (tgt := 291) C dX1_wording_60 (by decide) (fun c_60 => ?_) (fun c_60 => ?_)
        · refine j_aload_n C dX1_wording_291 rfl rfl ?_
          refine j_drop1 ?_
          exact j_aret C F (Or.inr ⟨_, rfl⟩) dX1_wording_292 (Nat.le_of_ble_eq_true rfl) (Nat.le_of_ble_eq_true rfl) ⟨q, f, rfl, rfl, hf⟩
        · exact absurd (i_rf _) c_60
      obtain ⟨e9, h9⟩ := SV_tg I hpm
      have hnw0 : 0 < nw := by omega
      have hL0 := Lx_le (lm := lm) (nw := nw) (m := m) (t := t) (p := p)
      have hL1 := Lx_le (lm := lm) (nw := nw) (m := m) (t := t) (p := p + 1)
      have hL2 := Lx_le (lm := lm) (nw := nw) (m := m) (t := t) (p := p + 2)
      have fin : ∀ v : Int32, V1 lm nw m t p 0 v → J E 514 5922 130 [(5, .int v), (4, .int (nI p)), (0, .ref (a 100)), (1, .int (nI m)), (2, .ref q), (3, .ref q2)] [] (sW (eG E) a m mj s t ++ ((q2, .inl (jC0 E, m + 2, .inl g)) :: (q, .inl (jC0 E, m, .inl f)) :: z)) := by
        intro v hv
        cases hpr : pr p with
        | false =>
          have ev := V1_S hv ((hW p hpm).1 hpr)
          have hSn := ((hW p hpm).1 hpr).1
          rw [ev]
          obtain ⟨w1, w2⟩ := wq_S (S := S) (A := A) (B := B) hs hpr
          refine j_iload C dX1_wording_130 rfl ?_
          refine j_if_lt (tgt := 147) C dX1_wording_132 (by decide) (fun c_132 => ?_) (fun c_132 => ?_)
          · exact absurd c_132 (nI_nlt (b := 0) (Nat.zero_le _) (by omega))
          · refine j_aload_n C dX1_wording_135 rfl rfl ?_
            refine j_iload C dX1_wording_136 rfl ?_
            refine j_iload C dX1_wording_138 rfl ?_
            refine jT_iast1 C (p) dX1_wording_140 rfl hpm (by omega) ?_
            refine j_iinc C 1 [(4, _), (5, _), (0, _), (1, _), (2, _), (3, _)] dX1_wording_141 rfl (nI_i1 p) (by decide) rfl ?_
            refine j_goto (tgt := 57) C dX1_wording_144 (by decide) ?_
            refine j_lv [0, 2, 3, 4, 5] [(4, _), (0, _), (1, _), (2, _), (3, _)] rfl ?_
            refine ih (p + 1) _ (by omega) (by omega) w2 (fun i hi => ?_)
            rcases (show i < p ∨ i = p by omega) with h | h
            · rw [upd_ne (by omega)]
              exact hf i h
            · rw [h, upd_eq, w1]
        | true =>
          obtain ⟨hp1, hN, hAn, hBn, hQ, hmin⟩ := (hW p hpm).2 hpr
          have ev := V1_N hv hN
          rw [ev]
          obtain ⟨w1, w2, w3⟩ := wq_P (S := S) (A := A) (B := B) hs hpr
          obtain ⟨e9b, h9b⟩ := SV_tg I hp1
          have lo : ∀ (i : Nat) (f2 : Nat → Int32), i ≤ nw → V2 lm nw m t p f (12 * i) f2 → J E 514 5922 155 [(6, .int (nI i - 1)), (4, .int (nI p)), (0, .ref (a 100)), (1, .int (nI m)), (2, .ref q), (3, .ref q2)] [] (sW (eG E) a m mj s t ++ ((q2, .inl (jC0 E, m + 2, .inl g)) :: (q, .inl (jC0 E, m, .inl f2)) :: z)) := by
            intro i
            induction i with
            | zero =>
              intro f2 hi hv2
              obtain ⟨g1, g2⟩ := V2_P hnw hv2 hAn hBn hQ hmin
              refine j_iload C dX1_wording_155 rfl ?_
              refine j_if_lt (tgt := 285) C dX1_wording_157 (by decide) (fun c_157 => ?_) (fun c_157 => ?_)
              · refine j_iinc C 1 [(4, _), (6, _), (0, _), (1, _), (2, _), (3, _)] dX1_wording_285 rfl (nI_i2 p) (by decide) rfl ?_
                refine j_goto (tgt := 57) C dX1_wording_288 (by decide) ?_
                refine j_lv [0, 2, 3, 4, 5] [(4, _), (0, _), (1, _), (2, _), (3, _)] rfl ?_
                refine ih (p + 2) _ (by omega) (by omega) w3 (fun i hi => ?_)
                rcases (show i < p ∨ i = p ∨ i = p + 1 by omega) with h | h | h
                · rw [hv2.1 i (by omega) (by omega)]
                  exact hf i h
                · rw [h, g1, w1]
                · rw [h, g2, w2]
              · exact absurd (show nI 0 - 1 < 0 by decide) c_157
            | succ i iho =>
              intro f2 hi hv2
              have hin : i < nw := by omega
              obtain ⟨e6, h6a, h6b⟩ := SV_lt I hin
              rw [nI_pred]
              have li : ∀ (j : Nat) (f2 : Nat → Int32), j ≤ nw → V2 lm nw m t p f (12 * i + j) f2 → J E 514 5922 168 [(7, .int (nI j - 1)), (6, .int (nI i)), (4, .int (nI p)), (0, .ref (a 100)), (1, .int (nI m)), (2, .ref q), (3, .ref q2)] [] (sW (eG E) a m mj s t ++ ((q2, .inl (jC0 E, m + 2, .inl g)) :: (q, .inl (jC0 E, m, .inl f2)) :: z)) := by
                intro j
                induction j with
                | zero =>
                  intro f2 hj hv3
                  refine j_iload C dX1_wording_168 rfl ?_
                  refine j_if_lt (tgt := 279) C dX1_wording_170 (by decide) (fun c_170 => ?_) (fun c_170 => ?_)
                  · refine j_iinc C 1 [(6, _), (7, _), (4, _), (0, _), (1, _), (2, _), (3, _)] dX1_wording_279 rfl (i_m1 _) (by decide) rfl ?_
                    refine j_goto (tgt := 155) C dX1_wording_282 (by decide) ?_
                    refine j_lv [0, 2, 3, 4, 5, 6] [(6, _), (4, _), (0, _), (1, _), (2, _), (3, _)] rfl ?_
                    exact iho f2 (by omega) hv3
                  · exact absurd (show nI 0 - 1 < 0 by decide) c_170
                | succ j ihj =>
                  intro f2 hj hv3
                  have hjn : j < nw := by omega
                  obtain ⟨e6j, h6c, h6d⟩ := SV_lt I hjn
                  have hc2 := cN_le (x := ltF t i + ltF t j) (SV_lm I)
                  rw [nI_pred]
                  refine j_iload C dX1_wording_168 rfl ?_
                  refine j_if_lt (tgt := 279) C dX1_wording_170 (by decide) (fun c_170 => ?_) (fun c_170 => ?_)
                  · exact absurd c_170 (nI_nlt (b := 0) (Nat.zero_le _) (by omega))
                  · refine j_aload_n C dX1_wording_173 rfl rfl ?_
                    refine j_aload_n C dX1_wording_174 rfl rfl ?_
                    refine j_get C 0 9 dX1_wording_175 nwX1_wording_in (by decide) nwX1_wording_f31 rfl rfl rfl ?_
                    refine j_iload C dX1_wording_178 rfl ?_
                    refine j_iald C 4 (p) dX1_wording_180 rfl rfl hpm (by omega) ?_
                    rw [e9]
                    refine j_iload C dX1_wording_181 rfl ?_
                    refine j_callE (q0 := 0) (na := 2) C dX1_wording_183 (s_may hl (eG E) a m mj s t _ (tgF t p) i (by omega) (by omega)) gX1_wording_X1_may rfl rfl (by decide +kernel) rfl rfl (Nat.le_of_ble_eq_true rfl) (by rw [R]; exact ⟨Nat.le_of_ble_eq_true rfl, Nat.le_of_ble_eq_true rfl⟩) (by rw [R]; exact ⟨Nat.le_of_ble_eq_true rfl, Nat.le_of_ble_eq_true rfl⟩) ?_
                    refine j_if_eq (tgt := 273) C dX1_wording_186 (by decide) (fun c_186 => ?_) (fun c_186 => ?_)
                    · have hno : ¬ Q2 lm nw m t p i j := fun q => absurd ((zb_0 c_186).symm.trans q.1) (by decide)
                      refine j_iinc C 0 [(7, _), (6, _), (4, _), (0, _), (1, _), (2, _), (3, _)] dX1_wording_273 rfl (i_m1 _) (by decide) rfl ?_
                      refine j_goto (tgt := 168) C dX1_wording_276 (by decide) ?_
                      exact ihj f2 (by omega) (V2_no hnw hjn hv3 hno)
                    · have k1 := zb_1 c_186
                      refine j_aload_n C dX1_wording_189 rfl rfl ?_
                      refine j_aload_n C dX1_wording_190 rfl rfl ?_
                      refine j_get C 0 9 dX1_wording_191 nwX1_wording_in (by decide) nwX1_wording_f31 rfl rfl rfl ?_
                      refine j_iload C dX1_wording_194 rfl ?_
                      refine j_iconst (v := 1) C dX1_wording_196 (by decide) ?_
                      refine j_iadd C dX1_wording_197 ?_
                      refine j_iald C 4 (p + 1) dX1_wording_198 rfl (nI_1 p) (by omega) (by omega) ?_
                      rw [e9b]
                      refine j_iload C dX1_wording_199 rfl ?_
                      refine j_callE (q0 := 0) (na := 2) C dX1_wording_201 (s_may hl (eG E) a m mj s t _ (tgF t (p + 1)) j (by omega) (by omega)) gX1_wording_X1_may rfl rfl (by decide +kernel) rfl rfl (Nat.le_of_ble_eq_true rfl) (by rw [R]; exact ⟨Nat.le_of_ble_eq_true rfl, Nat.le_of_ble_eq_true rfl⟩) (by rw [R]; exact ⟨Nat.le_of_ble_eq_true rfl, Nat.le_of_ble_eq_true rfl⟩) ?_
                      refine j_if_eq (tgt := 273) C dX1_wording_204 (by decide) (fun c_204 => ?_) (fun c_204 => ?_)
                      · have hno : ¬ Q2 lm nw m t p i j := fun q => absurd ((zb_0 c_204).symm.trans q.2.1) (by decide)
                        refine j_iinc C 0 [(7, _), (6, _), (4, _), (0, _), (1, _), (2, _), (3, _)] dX1_wording_273 rfl (i_m1 _) (by decide) rfl ?_
                        refine j_goto (tgt := 168) C dX1_wording_276 (by decide) ?_
                        exact ihj f2 (by omega) (V2_no hnw hjn hv3 hno)
                      · have k2 := zb_1 c_204
                        refine j_aload_n C dX1_wording_207 rfl rfl ?_
                        refine j_get C 0 8 dX1_wording_208 nwX1_wording_in (by decide) nwX1_wording_f28 rfl rfl rfl ?_
                        refine j_iload C dX1_wording_211 rfl ?_
                        refine jS_row C 3 8 40 (i) dX1_wording_213 rfl rfl (by omega) ?_
                        refine j_iload C dX1_wording_214 rfl ?_
                        refine jS_jn C [] (i) (j) dX1_wording_216 rfl (by omega) (by omega) ?_
                        refine j_if_eq (tgt := 273) C dX1_wording_217 (by decide) (fun c_217 => ?_) (fun c_217 => ?_)
                        · have hno : ¬ Q2 lm nw m t p i j := fun q => absurd q.2.2.1 (by simp [jnF, c_217])
                          refine j_iinc C 0 [(7, _), (6, _), (4, _), (0, _), (1, _), (2, _), (3, _)] dX1_wording_273 rfl (i_m1 _) (by decide) rfl ?_
                          refine j_goto (tgt := 168) C dX1_wording_276 (by decide) ?_
                          exact ihj f2 (by omega) (V2_no hnw hjn hv3 hno)
                        · have k3 : jnF t i j = true := by simp [jnF, c_217]
                          refine j_aload_n C dX1_wording_220 rfl rfl ?_
                          refine j_aload_n C dX1_wording_221 rfl rfl ?_
                          refine j_get C 0 6 dX1_wording_222 nwX1_wording_in (by decide) nwX1_wording_f19 rfl rfl rfl ?_
                          refine j_iload C dX1_wording_225 rfl ?_
                          refine j_iald C 1 (i) dX1_wording_227 rfl rfl (by omega) (by decide) ?_
                          rw [e6]
                          refine j_aload_n C dX1_wording_228 rfl rfl ?_
                          refine j_get C 0 6 dX1_wording_229 nwX1_wording_in (by decide) nwX1_wording_f19 rfl rfl rfl ?_
                          refine j_iload C dX1_wording_232 rfl ?_
                          refine j_iald C 1 (j) dX1_wording_234 rfl rfl (by omega) (by decide) ?_
                          rw [e6j]
                          refine j_iadd C dX1_wording_235 ?_
                          rw [nI_add]
                          refine j_callE (q0 := 0) (na := 1) C dX1_wording_236 (s_counts hl (eG E) a m mj s t _ lm _ (SV_1 I) (SV_lm I) (by omega)) gX1_wording_X1_counts rfl rfl (by decide +kernel) rfl rfl (Nat.le_of_ble_eq_true rfl) (by rw [R]; exact ⟨Nat.le_of_ble_eq_true rfl, Nat.le_of_ble_eq_true rfl⟩) (by rw [R]; exact ⟨Nat.le_of_ble_eq_true rfl, Nat.le_of_ble_eq_true rfl⟩) ?_
                          refine j_aload_n C dX1_wording_239 rfl rfl ?_
                          refine j_iload C dX1_wording_240 rfl ?_
                          refine j_iconst (v := 2) C dX1_wording_242 (by decide) ?_
                          refine j_iadd C dX1_wording_243 ?_
                          refine j_iald C 30 (p + 2) dX1_wording_244 rfl (nI_add p 2) (by omega) (by omega) ?_
                          rw [hg (p + 2) (by omega)]
                          refine j_iadd C dX1_wording_245 ?_
                          refine j_topi (nI_add _ _) ?_
                          refine j_aload_n C dX1_wording_246 rfl rfl ?_
                          refine j_iload C dX1_wording_247 rfl ?_
                          refine j_iald C 30 (p) dX1_wording_249 rfl rfl (by omega) (by omega) ?_
                          rw [hg p (by omega)]
                          refine j_icmp_eq (tgt := 256) C dX1_wording_250 (by decide) (fun c_250 => ?_) (fun c_250 => ?_)
                          · have hyes : Q2 lm nw m t p i j := ⟨k1, k2, k3, nI_eqN c_250 (by omega) (by omega)⟩
                            refine j_aload_n C dX1_wording_256 rfl rfl ?_
                            refine j_iload C dX1_wording_257 rfl ?_
                            refine j_bipush (v := 100) C dX1_wording_259 (by decide) ?_
                            refine j_iload C dX1_wording_261 rfl ?_
                            refine j_iadd C dX1_wording_263 ?_
                            refine j_topi (nI_add 100 i) ?_
                            refine jT_iast1 C (p) dX1_wording_264 rfl hpm (by omega) ?_
                            refine j_aload_n C dX1_wording_265 rfl rfl ?_
                            refine j_iload C dX1_wording_266 rfl ?_
                            refine j_iconst (v := 1) C dX1_wording_268 (by decide) ?_
                            refine j_iadd C dX1_wording_269 ?_
                            refine j_iload C dX1_wording_270 rfl ?_
                            refine jT_iast1 C (p + 1) dX1_wording_272 (nI_1 p) hp1 (by omega) ?_
                            refine j_iinc C 0 [(7, _), (6, _), (4, _), (0, _), (1, _), (2, _), (3, _)] dX1_wording_273 rfl (i_m1 _) (by decide) rfl ?_
                            refine j_goto (tgt := 168) C dX1_wording_276 (by decide) ?_
                            exact ihj _ (by omega) (V2_yes hin hjn hv3 hyes)
                          · have hno : ¬ Q2 lm nw m t p i j := fun q => c_250 (congrArg nI q.2.2.2)
                            refine j_goto (tgt := 273) C dX1_wording_253 (by decide) ?_
                            refine j_iinc C 0 [(7, _), (6, _), (4, _), (0, _), (1, _), (2, _), (3, _)] dX1_wording_273 rfl (i_m1 _) (by decide) rfl ?_
                            refine j_goto (tgt := 168) C dX1_wording_276 (by decide) ?_
                            exact ihj f2 (by omega) (V2_no hnw hjn hv3 hno)
              refine j_iload C dX1_wording_155 rfl ?_
              refine j_if_lt (tgt := 285) C dX1_wording_157 (by decide) (fun c_157 => ?_) (fun c_157 => ?_)
              · exact absurd c_157 (nI_nlt (b := 0) (Nat.zero_le _) (by omega))
              · refine j_aload_n C dX1_wording_160 rfl rfl ?_
                refine j_get C 0 0 dX1_wording_161 nwX1_wording_in (by decide) nwX1_wording_f49 rfl rfl rfl ?_
                refine j_iconst (v := 1) C dX1_wording_164 (by decide) ?_
                refine j_isub C dX1_wording_165 ?_
                rw [SV_0 I]
                refine j_istore C [(7, _), (6, _), (4, _), (0, _), (1, _), (2, _), (3, _)] dX1_wording_166 (by decide) rfl ?_
                exact li nw f2 (Nat.le_refl _) (V2_sub hv2 (by omega) (fun a b _ hb h => by omega))
          refine j_iload C dX1_wording_130 rfl ?_
          refine j_if_lt (tgt := 147) C dX1_wording_132 (by decide) (fun c_132 => ?_) (fun c_132 => ?_)
          · refine j_aload_n C dX1_wording_147 rfl rfl ?_
            refine j_get C 0 0 dX1_wording_148 nwX1_wording_in (by decide) nwX1_wording_f49 rfl rfl rfl ?_
            refine j_iconst (v := 1) C dX1_wording_151 (by decide) ?_
            refine j_isub C dX1_wording_152 ?_
            rw [SV_0 I]
            refine j_istore C [(6, _), (5, _), (4, _), (0, _), (1, _), (2, _), (3, _)] dX1_wording_153 (by decide) rfl ?_
            refine j_lv [0, 2, 3, 4, 5, 6] [(6, _), (4, _), (0, _), (1, _), (2, _), (3, _)] rfl ?_
            exact lo nw f (Nat.le_refl _) (V2_0 hnw)
          · exact absurd (show (-1 : Int32) < 0 by decide) c_132
      have lw : ∀ (i : Nat) (v : Int32), i ≤ nw → V1 lm nw m t p i v → J E 514 5922 74 [(6, .int (nI i - 1)), (5, .int v), (4, .int (nI p)), (0, .ref (a 100)), (1, .int (nI m)), (2, .ref q), (3, .ref q2)] [] (sW (eG E) a m mj s t ++ ((q2, .inl (jC0 E, m + 2, .inl g)) :: (q, .inl (jC0 E, m, .inl f)) :: z)) := by
        intro i
        induction i with
        | zero =>
          intro v hi hv
          refine j_iload C dX1_wording_74 rfl ?_
          refine j_if_lt (tgt := 130) C dX1_wording_76 (by decide) (fun c_76 => ?_) (fun c_76 => ?_)
          · refine j_lv [1, 2, 3, 4, 5, 6] [(5, _), (4, _), (0, _), (1, _), (2, _), (3, _)] rfl ?_
            exact fin v hv
          · exact absurd (show nI 0 - 1 < 0 by decide) c_76
        | succ i ihw =>
          intro v hi hv
          have hin : i < nw := by omega
          obtain ⟨e6, h6a, h6b⟩ := SV_lt I hin
          have hc1 := cN_le (x := ltF t i) (SV_lm I)
          rw [nI_pred]
          refine j_iload C dX1_wording_74 rfl ?_
          refine j_if_lt (tgt := 130) C dX1_wording_76 (by decide) (fun c_76 => ?_) (fun c_76 => ?_)
          · exact absurd c_76 (nI_nlt (b := 0) (Nat.zero_le _) (by omega))
          · refine j_aload_n C dX1_wording_79 rfl rfl ?_
            refine j_aload_n C dX1_wording_80 rfl rfl ?_
            refine j_get C 0 9 dX1_wording_81 nwX1_wording_in (by decide) nwX1_wording_f31 rfl rfl rfl ?_
            refine j_iload C dX1_wording_84 rfl ?_
            refine j_iald C 4 (p) dX1_wording_86 rfl rfl hpm (by omega) ?_
            rw [e9]
            refine j_iload C dX1_wording_87 rfl ?_
            refine j_callE (q0 := 0) (na := 2) C dX1_wording_89 (s_may hl (eG E) a m mj s t _ (tgF t p) i (by omega) (by omega)) gX1_wording_X1_may rfl rfl (by decide +kernel) rfl rfl (Nat.le_of_ble_eq_true rfl) (by rw [R]; exact ⟨Nat.le_of_ble_eq_true rfl, Nat.le_of_ble_eq_true rfl⟩) (by rw [R]; exact ⟨Nat.le_of_ble_eq_true rfl, Nat.le_of_ble_eq_true rfl⟩) ?_
            refine j_if_eq (tgt := 124) C dX1_wording_92 (by decide) (fun c_92 => ?_) (fun c_92 => ?_)
            · have hno : ¬ Q1 lm nw m t p i := fun q => absurd ((zb_0 c_92).symm.trans q.1) (by decide)
              refine j_iinc C 0 [(6, _), (5, _), (4, _), (0, _), (1, _), (2, _), (3, _)] dX1_wording_124 rfl (i_m1 _) (by decide) rfl ?_
              refine j_goto (tgt := 74) C dX1_wording_127 (by decide) ?_
              exact ihw v (by omega) (V1_no hv hno)
            · have k1 := zb_1 c_92
              refine j_aload_n C dX1_wording_95 rfl rfl ?_
              refine j_aload_n C dX1_wording_96 rfl rfl ?_
              refine j_get C 0 6 dX1_wording_97 nwX1_wording_in (by decide) nwX1_wording_f19 rfl rfl rfl ?_
              refine j_iload C dX1_wording_100 rfl ?_
              refine j_iald C 1 (i) dX1_wording_102 rfl rfl (by omega) (by decide) ?_
              rw [e6]
              refine j_callE (q0 := 0) (na := 1) C dX1_wording_103 (s_counts hl (eG E) a m mj s t _ lm _ (SV_1 I) (SV_lm I) (by omega)) gX1_wording_X1_counts rfl rfl (by decide +kernel) rfl rfl (Nat.le_of_ble_eq_true rfl) (by rw [R]; exact ⟨Nat.le_of_ble_eq_true rfl, Nat.le_of_ble_eq_true rfl⟩) (by rw [R]; exact ⟨Nat.le_of_ble_eq_true rfl, Nat.le_of_ble_eq_true rfl⟩) ?_
              refine j_aload_n C dX1_wording_106 rfl rfl ?_
              refine j_iload C dX1_wording_107 rfl ?_
              refine j_iconst (v := 1) C dX1_wording_109 (by decide) ?_
              refine j_iadd C dX1_wording_110 ?_
              refine j_iald C 30 (p + 1) dX1_wording_111 rfl (nI_1 p) (by omega) (by omega) ?_
              rw [hg (p + 1) (by omega)]
              refine j_iadd C dX1_wording_112 ?_
              refine j_topi (nI_add _ _) ?_
              refine j_aload_n C dX1_wording_113 rfl rfl ?_
              refine j_iload C dX1_wording_114 rfl ?_
              refine j_iald C 30 (p) dX1_wording_116 rfl rfl (by omega) (by omega) ?_
              rw [hg p (by omega)]
              refine j_icmp_ne (tgt := 124) C dX1_wording_117 (by decide) (fun c_117 => ?_) (fun c_117 => ?_)
              · have hno : ¬ Q1 lm nw m t p i := fun q => c_117 (congrArg nI q.2)
                refine j_iinc C 0 [(6, _), (5, _), (4, _), (0, _), (1, _), (2, _), (3, _)] dX1_wording_124 rfl (i_m1 _) (by decide) rfl ?_
                refine j_goto (tgt := 74) C dX1_wording_127 (by decide) ?_
                exact ihw v (by omega) (V1_no hv hno)
              · have hyes : Q1 lm nw m t p i := ⟨k1, nI_eqN c_117 (by omega) (by omega)⟩
                refine j_iload C dX1_wording_120 rfl ?_
                refine j_istore C [(5, _), (6, _), (4, _), (0, _), (1, _), (2, _), (3, _)] dX1_wording_122 (by decide) rfl ?_
                refine j_iinc C 1 [(6, _), (5, _), (4, _), (0, _), (1, _), (2, _), (3, _)] dX1_wording_124 rfl (i_m1 _) (by decide) rfl ?_
                refine j_goto (tgt := 74) C dX1_wording_127 (by decide) ?_
                exact ihw _ (by omega) (V1_yes hin hyes)
      refine j_iload C dX1_wording_57 rfl ?_
      refine j_iload_n C dX1_wording_59 rfl rfl ?_
      refine j_icmp_ge (tgt := 291) C dX1_wording_60 (by decide) (fun c_60 => ?_) (fun c_60 => ?_)
      · exact absurd c_60 (nI_ge (by omega) (by omega))
      · refine j_iconst (v := (-1)) C dX1_wording_63 (by decide) ?_
        refine j_istore C [(5, _), (4, _), (0, _), (1, _), (2, _), (3, _)] dX1_wording_64 (by decide) rfl ?_
        refine j_aload_n C dX1_wording_66 rfl rfl ?_
        refine j_get C 0 0 dX1_wording_67 nwX1_wording_in (by decide) nwX1_wording_f49 rfl rfl rfl ?_
        refine j_iconst (v := 1) C dX1_wording_70 (by decide) ?_
        refine j_isub C dX1_wording_71 ?_
        rw [SV_0 I]
        refine j_istore C [(6, _), (5, _), (4, _), (0, _), (1, _), (2, _), (3, _)] dX1_wording_72 (by decide) rfl ?_
        exact lw nw (-1) (Nat.le_refl _) V1_0
  have ll : ∀ (q q2 : Nat) (d p : Nat) (g : Nat → Int32), p + d = m + 1 → (∀ i, i < p → g i = nI (Lx lm nw m t i)) → J E (2 + 32 * (if p = m + 1 then m else p)) (34 + 368 * (if p = m + 1 then m else p)) 19 [(4, .int (nI p)), (0, .ref (a 100)), (1, .int (nI m)), (2, .ref q), (3, .ref q2)] [] (sW (eG E) a m mj s t ++ ((q2, .inl (jC0 E, m + 2, .inl g)) :: (q, .inl (jC0 E, m, .inl (fun _ => 0))) :: z)) := by
    intro q q2 d
    induction d with
    | zero =>
      intro p g hp hg
      have ep : p = m + 1 := by omega
      rw [if_pos ep]
      refine j_wide 514 5922 (by omega) (by omega) ?_
      refine j_iload C dX1_wording_19 rfl ?_
      refine j_iload_n C dX1_wording_21 rfl rfl ?_
      refine j_icmp_gt (tgt := 54) C dX1_wording_22 (by decide) (fun c_22 => ?_) (fun c_22 => ?_)
      · refine j_iconst (v := 0) C dX1_wording_54 (by decide) ?_
        refine j_istore C [(4, _), (0, _), (1, _), (2, _), (3, _)] dX1_wording_55 (by decide) rfl ?_
        exact main q q2 g (fun i hi => hg i (by omega)) m 0 _ (Nat.zero_le _) (by omega) rfl (fun i hi => absurd hi (Nat.not_lt_zero i))
      · exact absurd ((nI_ltI (by omega) (by omega)).mpr (show m < p by omega)) c_22
    | succ d ih =>
      intro p g hp hg
      rw [if_neg (show ¬ p = m + 1 by omega)]
      refine j_iload C dX1_wording_19 rfl ?_
      refine j_iload_n C dX1_wording_21 rfl rfl ?_
      refine j_icmp_gt (tgt := 54) C dX1_wording_22 (by decide) (fun c_22 => ?_) (fun c_22 => ?_)
      · exact absurd ((nI_ltI (by omega) (by omega)).mp c_22) (by omega)
      · refine j_aload_n C dX1_wording_25 rfl rfl ?_
        refine j_iload C dX1_wording_26 rfl ?_
        refine j_iload C dX1_wording_28 rfl ?_
        refine j_iload_n C dX1_wording_30 rfl rfl ?_
        refine j_icmp_ne (tgt := 38) C dX1_wording_31 (by decide) (fun c_31 => ?_) (fun c_31 => ?_)
        · have hpm : p < m := by
            have c31 : ¬ p = m := fun q => c_31 (by rw [q])
            omega
          refine j_aload_n C dX1_wording_38 rfl rfl ?_
          refine j_iload C dX1_wording_39 rfl ?_
          refine j_callP (q0 := 0) (na := 1) C dX1_wording_41 (s_rest hl (eG E) a m mj s t _ nw lm p I (by omega)) gX1_wording_X1_rest rfl rfl (by decide +kernel) rfl rfl (Nat.le_of_ble_eq_true rfl) (by rw [R]; exact ⟨Nat.le_of_ble_eq_true rfl, Nat.le_of_ble_eq_true rfl⟩) (by rw [R]; exact ⟨(by show _ ≤ 514; omega), (by show _ ≤ 5922; omega)⟩) (fun v w' hq => ?_)
          obtain ⟨a2, s2, t2, rfl, rfl, hR2⟩ := hq
          show J E _ _ _ _ (.ref (a2 100) :: _) _
          refine j_callE (q0 := 0) (na := 0) C dX1_wording_44 (s_cheapest hl (eG E) a2 (m - p) 0 s2 t2 _ nw lm hR2.2.1) gX1_wording_X1_cheapest rfl rfl (by decide +kernel) rfl rfl (Nat.le_of_ble_eq_true rfl) (by rw [R]; exact ⟨Nat.le_of_ble_eq_true rfl, Nat.le_of_ble_eq_true rfl⟩) (by rw [R]; exact ⟨(by show _ ≤ 514; omega), (by show _ ≤ 5922; omega)⟩) ?_
          refine j_dropL _ ?_
          show J E _ _ _ _ (.int (al (m - p) (s2 2) (nI (UUx lm nw t2 (m - p)).1)) :: _) _
          rw [Lx_rest (mj := mj) I hR2 hpm]
          refine jT_iast C (p) dX1_wording_47 rfl (by omega) (by omega) ?_
          refine j_iinc C 0 [(4, _), (0, _), (1, _), (2, _), (3, _)] dX1_wording_48 rfl (nI_i1 p) (by decide) rfl ?_
          refine j_goto (tgt := 19) C dX1_wording_51 (by decide) ?_
          have g2 := ih (p + 1) (upd g p (nI (Lx lm nw m t p))) (by omega) (fun i hi => by
            rcases (show i < p ∨ i = p by omega) with h | h
            · rw [upd_ne (by omega)]; exact hg i h
            · rw [h, upd_eq])
          refine j_wide _ _ ?_ ?_ g2
          · split <;> omega
          · split <;> omega
        · have c31 : p = m := nI_eqN c_31 (by omega) (by omega)
          refine j_iconst (v := 0) C dX1_wording_34 (by decide) ?_
          refine j_goto (tgt := 47) C dX1_wording_35 (by decide) ?_
          refine jT_iast C (p) dX1_wording_47 rfl (by omega) (by omega) ?_
          refine j_iinc C 0 [(4, _), (0, _), (1, _), (2, _), (3, _)] dX1_wording_48 rfl (nI_i1 p) (by decide) rfl ?_
          refine j_goto (tgt := 19) C dX1_wording_51 (by decide) ?_
          have g2 := ih (p + 1) (upd g p 0) (by omega) (fun i hi => by
            rcases (show i < p ∨ i = p by omega) with h | h
            · rw [upd_ne (by omega)]; exact hg i h
            · rw [h, upd_eq]; rw [c31, Lx_m]; rfl)
          refine j_wide _ _ ?_ ?_ g2
          · split <;> omega
          · split <;> omega
  refine j_aload_n C dX1_wording_0 rfl rfl ?_
  refine j_get C 0 9 dX1_wording_1 nwX1_wording_in (by decide) nwX1_wording_f31 rfl rfl rfl ?_
  refine j_alen C 4 0 dX1_wording_4 rfl rfl ?_
  refine j_istore_n C [(1, _), (0, _)] dX1_wording_5 rfl (by decide) rfl ?_
  refine j_iload_n C dX1_wording_6 rfl rfl ?_
  refine j_newI C (m) (16) dX1_wording_7 nwX1_wording_arI rfl (by omega) (by decide) (by rw [R]; exact Nat.le_of_ble_eq_true rfl) (by rw [R]; exact Nat.le_of_ble_eq_true rfl) (fun q => ?_)
  refine j_behind ?_
  refine j_astore_n C [(2, _), (1, _), (0, _)] dX1_wording_9 rfl (by decide) rfl ?_
  refine j_iload_n C dX1_wording_10 rfl rfl ?_
  refine j_iconst (v := 2) C dX1_wording_11 (by decide) ?_
  refine j_iadd C dX1_wording_12 ?_
  rw [show nI m + 2 = nI (m + 2) from nI_add m 2]
  refine j_newI C (m + 2) (18) dX1_wording_13 nwX1_wording_arI rfl (by omega) (by decide) (by rw [R]; exact Nat.le_of_ble_eq_true rfl) (by rw [R]; exact Nat.le_of_ble_eq_true rfl) (fun q2 => ?_)
  refine j_behind ?_
  refine j_astore_n C [(3, _), (2, _), (1, _), (0, _)] dX1_wording_15 rfl (by decide) rfl ?_
  refine j_iconst (v := 0) C dX1_wording_16 (by decide) ?_
  refine j_istore C [(4, _), (3, _), (2, _), (1, _), (0, _)] dX1_wording_17 (by decide) rfl ?_
  refine j_lv [0, 4, 3, 2, 1] [(4, _), (0, _), (1, _), (2, _), (3, _)] rfl ?_
  have g2 := ll q q2 (m + 1) 0 (fun _ => 0) (by omega) (fun i hi => absurd hi (Nat.not_lt_zero i))
  rw [if_neg (by omega)] at g2
  exact g2
