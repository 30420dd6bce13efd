/-! upTo, cheapest -/
def uB (x0 : Nat) (c : Nat → Nat) (ok : Nat → Bool) (m0 : Nat) : Nat → Nat
  | 0 => m0
  | b + 1 => if ok b = true then min (uB x0 c ok m0 b) (x0 + c b) else uB x0 c ok m0 b
theorem uB_no {x0 m0 b : Nat} {c : Nat → Nat} {ok : Nat → Bool} (h : ok b = false) : uB x0 c ok m0 (b + 1) = uB x0 c ok m0 b := by
  show (if ok b = true then _ else _) = _
  rw [if_neg (by rw [h]; decide)]
theorem uB_yes {x0 m0 b : Nat} {c : Nat → Nat} {ok : Nat → Bool} (h : ok b = true) : uB x0 c ok m0 (b + 1) = min (uB x0 c ok m0 b) (x0 + c b) := by
  show (if ok b = true then _ else _) = _
  rw [if_pos h]
theorem uB_le {x0 m0 : Nat} {c : Nat → Nat} {ok : Nat → Bool} : ∀ b, uB x0 c ok m0 b ≤ m0 := by
  intro b
  induction b with
  | zero => exact Nat.le_refl _
  | succ b ih =>
    cases h : ok b with
    | false => rw [uB_no h]; exact ih
    | true => rw [uB_yes h]; omega
def uA (p u1 u0 N : Nat) (c1 : Nat → Nat) (c2 : Nat → Nat → Nat) (ok : Nat → Bool) (ok2 : Nat → Nat → Bool) : Nat → Nat
  | 0 => 9999
  | a + 1 => if ok a = true then (if p = 0 then min (uA p u1 u0 N c1 c2 ok ok2 a) (u1 + c1 a) else uB u0 (fun b => c2 b a) (fun b => ok2 b a) (min (uA p u1 u0 N c1 c2 ok ok2 a) (u1 + c1 a)) N) else uA p u1 u0 N c1 c2 ok ok2 a
section
variable {p u1 u0 N a : Nat} {c1 : Nat → Nat} {c2 : Nat → Nat → Nat} {ok : Nat → Bool} {ok2 : Nat → Nat → Bool}
theorem uA_no (h : ok a = false) : uA p u1 u0 N c1 c2 ok ok2 (a + 1) = uA p u1 u0 N c1 c2 ok ok2 a := by
  show (if ok a = true then _ else _) = _
  rw [if_neg (by rw [h]; decide)]
theorem uA_z (h : ok a = true) (h0 : p = 0) : uA p u1 u0 N c1 c2 ok ok2 (a + 1) = min (uA p u1 u0 N c1 c2 ok ok2 a) (u1 + c1 a) := by
  show (if ok a = true then _ else _) = _
  rw [if_pos h, if_pos h0]
theorem uA_p (h : ok a = true) (h0 : ¬ p = 0) : uA p u1 u0 N c1 c2 ok ok2 (a + 1) = uB u0 (fun b => c2 b a) (fun b => ok2 b a) (min (uA p u1 u0 N c1 c2 ok ok2 a) (u1 + c1 a)) N := by
  show (if ok a = true then _ else _) = _
  rw [if_pos h, if_neg h0]
end
theorem uA_le {p u1 u0 N : Nat} {c1 : Nat → Nat} {c2 : Nat → Nat → Nat} {ok : Nat → Bool} {ok2 : Nat → Nat → Bool} : ∀ a, uA p u1 u0 N c1 c2 ok ok2 a ≤ 9999 := by
  intro a
  induction a with
  | zero => exact Nat.le_refl _
  | succ a ih =>
    cases h : ok a with
    | false => rw [uA_no h]; exact ih
    | true =>
      by_cases h0 : p = 0
      · rw [uA_z h h0]; omega
      · rw [uA_p h h0]
        exact Nat.le_trans (uB_le N) (by omega)
def uU (lm N : Nat) (lt : Nat → Nat) (may jn : Nat → Nat → Bool) (tg : Nat → Nat) : Nat → Nat × Nat
  | 0 => (0, 0)
  | p + 1 => (uA p (uU lm N lt may jn tg p).1 (uU lm N lt may jn tg p).2 N (fun a => cN lm (lt a)) (fun b a => cN lm (lt a + lt b)) (fun a => may (tg p) a) (fun b a => may (tg (p - 1)) b && jn b a) N, (uU lm N lt may jn tg p).1)
theorem uU_le {lm N : Nat} {lt : Nat → Nat} {may jn : Nat → Nat → Bool} {tg : Nat → Nat} : ∀ p, (uU lm N lt may jn tg p).1 ≤ 9999 := by
  intro p
  cases p with
  | zero => exact Nat.zero_le _
  | succ p => exact uA_le _
theorem uU_2 {lm N : Nat} {lt : Nat → Nat} {may jn : Nat → Nat → Bool} {tg : Nat → Nat} {p : Nat} (h : ¬ p = 0) : (uU lm N lt may jn tg p).2 = (uU lm N lt may jn tg (p - 1)).1 := by
  cases p with
  | zero => exact absurd rfl h
  | succ p => rfl
theorem nI_min {x y : Nat} (hx : x < 2 ^ 31) (hy : y < 2 ^ 31) : (if nI y < nI x then nI y else nI x) = nI (min x y) := by
  by_cases q : y < x
  · rw [if_pos ((nI_ltI hy hx).mpr q), show min x y = y by omega]
  · rw [if_neg (fun z => q ((nI_ltI hy hx).mp z)), show min x y = x by omega]
theorem nI_eq0 {x : Nat} (h : nI x = 0) (hx : x < 2 ^ 31) : x = 0 := by
  rcases Nat.eq_zero_or_pos x with q | q
  · exact q
  · exact absurd h (nI_ne0 q hx)
theorem zb_0 {b : Bool} (h : zb b = 0) : b = false := by cases b with | false => rfl | true => exact absurd h (by decide)
theorem zb_1 {b : Bool} (h : ¬ zb b = 0) : b = true := by cases b with | true => rfl | false => exact absurd rfl h
abbrev UUx (lm nw : Nat) (t : gT) : Nat → Nat × Nat := uU lm nw (ltF t) (mayF t) (jnF t) (tgF t)
abbrev UAx (lm nw : Nat) (t : gT) (p : Nat) : Nat → Nat := uA p (UUx lm nw t p).1 (UUx lm nw t p).2 nw (fun a => cN lm (ltF t a)) (fun b a => cN lm (ltF t a + ltF t b)) (fun a => mayF t (tgF t p) a) (fun b a => mayF t (tgF t (p - 1)) b && jnF t b a)
abbrev UBx (lm nw : Nat) (t : gT) (p a m0 : Nat) : Nat → Nat := uB (UUx lm nw t p).2 (fun b => cN lm (ltF t a + ltF t b)) (fun b => mayF t (tgF t (p - 1)) b && jnF t b a) m0
set_option maxRecDepth 100000 in
theorem nwX1_upTo_f31 : Cond.fieldLink RX1 31 "TelegraphPricesLaw$Sim" "word" "[I" ∈ wsX1_upTo := by decide +kernel
set_option maxRecDepth 100000 in
theorem nwX1_upTo_in : ∀ w ∈ wsX10, w ∈ wsX1_upTo := by decide +kernel
set_option maxRecDepth 100000 in
theorem nwX1_upTo_f49 : Cond.fieldLink RX1 49 "TelegraphPricesLaw$Sim" "words" "I" ∈ wsX1_upTo := by decide +kernel
set_option maxRecDepth 100000 in
theorem nwX1_upTo_f28 : Cond.fieldLink RX1 28 "TelegraphPricesLaw$Sim" "join" "[[Z" ∈ wsX1_upTo := by decide +kernel
set_option maxRecDepth 100000 in
theorem nwX1_upTo_f19 : Cond.fieldLink RX1 19 "TelegraphPricesLaw$Sim" "letters" "[I" ∈ wsX1_upTo := by decide +kernel
set_option maxRecDepth 100000 in
theorem nwX1_upTo_l56 : Cond.methodLink RX1 56 Lib.Math.min.name ∈ wsX1_upTo := by decide +kernel
set_option maxRecDepth 100000 in
theorem nwX1_upTo_smin : Cond.static Lib.Math.min.name ∈ wsX1_upTo := by decide +kernel
set_option maxRecDepth 100000 in
theorem nwX1_upTo_iMath : Cond.initialized "java/lang/Math" ∈ wsX1_upTo := by decide +kernel
set_option maxRecDepth 100000 in
theorem nwX1_upTo_kmin : Cond.code Lib.Math.min.name Lib.Math.min.code 2 (some .int) ∈ wsX1_upTo := by decide +kernel
set_option maxRecDepth 100000 in
theorem nwX1_upTo_arI : Cond.arrayClass .int ∈ wsX1_upTo := by decide +kernel
set_option maxHeartbeats 4000000 in
set_option maxRecDepth 100000 in
theorem s_upTo {l : Launch} (hl : l.stackTraces = false) (Γ : gG) (a : Nat → Nat) (m mj : Nat) (s : gS) (t : gT) (z : va_W) (nw lm : Nat) (I : SV nw m lm s t) : CtJ l yX1_upTo wsX1_upTo 3 96 1 17 [.ref (a 100)] Γ none (sW Γ a m mj s t ++ z) (fun v w' => ∃ (q : Nat) (f : Nat → Int32), v = some (.ref q) ∧ w' = sW Γ a m mj s t ++ ((q, .inl (Γ.2.2.1, m + 1, .inl f)) :: z) ∧ ∀ j, j ≤ m → f j = nI (UUx lm nw t j).1) := by
  refine ctj_of (by decide +kernel) rfl (Nat.le_of_ble_eq_true rfl) ?_
  intro E C F N9 hΓ hL R
  subst hΓ
  subst hL
  show J E 0 0 0 [(0, .ref (a 100))] [] (sW (eG E) a m mj s t ++ z)
  have hnw := SV_nw I
  have hm := SV_m I
  have loop : ∀ (q d p : Nat) (f : Nat → Int32), p + d = m → (∀ j, j ≤ p → f j = nI (UUx lm nw t j).1) → J E (0 + 1) (0 + 17) 12 [(2, .int (nI p)), (0, .ref (a 100)), (1, .ref q)] [] (sW (eG E) a m mj s t ++ ((q, .inl (jC0 E, m + 1, .inl f)) :: z)) := by
    intro q d
    induction d with
    | zero =>
      intro p f hp hf
      refine j_iload_n C dX1_upTo_12 rfl rfl ?_
      refine j_aload_n C dX1_upTo_13 rfl rfl ?_
      refine j_get C 0 9 dX1_upTo_14 nwX1_upTo_in (by decide) nwX1_upTo_f31 rfl rfl rfl ?_
      refine j_alen C 4 0 dX1_upTo_17 rfl rfl ?_
      refine j_icmp_ge (tgt := 183) C dX1_upTo_18 (by decide) (fun c_18 => ?_) (fun c_18 => ?_)
      · refine j_aload_n C dX1_upTo_183 rfl rfl ?_
        exact j_aret C F (Or.inr ⟨_, rfl⟩) dX1_upTo_184 (Nat.le_of_ble_eq_true rfl) (Nat.le_of_ble_eq_true rfl) ⟨q, f, rfl, rfl, fun j hj => hf j (by omega)⟩
      · exact absurd (nI_le (by omega) (by omega)) c_18
    | succ d ih =>
      intro p f hp hf
      have hpm : p < m := by omega
      obtain ⟨e9, h9⟩ := SV_tg I hpm
      have hU1 : (UUx lm nw t p).1 ≤ 9999 := uU_le p
      have hU0 : (UUx lm nw t p).2 ≤ 9999 := by
        by_cases h0 : p = 0
        · subst h0
          exact Nat.zero_le _
        · rw [uU_2 h0]
          exact uU_le _
      have la : ∀ (e a9 : Nat) (f : Nat → Int32), a9 + e = nw → (∀ j, j ≤ p → f j = nI (UUx lm nw t j).1) → f (p + 1) = nI (UAx lm nw t p a9) → J E (0 + 1) (0 + 17) 31 [(3, .int (nI a9)), (2, .int (nI p)), (0, .ref (a 100)), (1, .ref q)] [] (sW (eG E) a m mj s t ++ ((q, .inl (jC0 E, m + 1, .inl f)) :: z)) := by
        intro e
        induction e with
        | zero =>
          intro a9 f ha hf hv
          rw [show a9 = nw by omega] at hv ⊢
          refine j_iload_n C dX1_upTo_31 rfl rfl ?_
          refine j_aload_n C dX1_upTo_32 rfl rfl ?_
          refine j_get C 0 0 dX1_upTo_33 nwX1_upTo_in (by decide) nwX1_upTo_f49 rfl rfl rfl ?_
          refine j_icmp_ge (tgt := 177) C dX1_upTo_36 (by decide) (fun c_36 => ?_) (fun c_36 => ?_)
          · refine j_iinc C 1 [(2, _), (3, _), (0, _), (1, _)] dX1_upTo_177 rfl (nI_i1 p) (by decide) rfl ?_
            refine j_goto (tgt := 12) C dX1_upTo_180 (by decide) ?_
            refine j_lv [0, 2, 3] [(2, _), (0, _), (1, _)] rfl ?_
            exact ih (p + 1) f (by omega) (fun j hj => by
              rcases (show j ≤ p ∨ j = p + 1 by omega) with h | h
              · exact hf j h
              · rw [h]; exact hv)
          · exact absurd (by rw [SV_0 I]; exact i_rf _) c_36
        | succ e ih2 =>
          intro a9 f ha hf hv
          have han : a9 < nw := by omega
          obtain ⟨e6, h6a, h6b⟩ := SV_lt I han
          have hA : UAx lm nw t p a9 ≤ 9999 := uA_le a9
          have hc1 := cN_le (x := ltF t a9) (SV_lm I)
          have nxt : ∀ f : Nat → Int32, (∀ j, j ≤ p → f j = nI (UUx lm nw t j).1) → f (p + 1) = nI (UAx lm nw t p (a9 + 1)) → J E (0 + 1) (0 + 17) 171 [(3, .int (nI a9)), (2, .int (nI p)), (0, .ref (a 100)), (1, .ref q)] [] (sW (eG E) a m mj s t ++ ((q, .inl (jC0 E, m + 1, .inl f)) :: z)) := by
            intro f hf hv
            refine j_iinc C 0 [(3, _), (2, _), (0, _), (1, _)] dX1_upTo_171 rfl (nI_i1 a9) (by decide) rfl ?_
            refine j_goto (tgt := 31) C dX1_upTo_174 (by decide) ?_
            exact ih2 (a9 + 1) f (by omega) hf hv
          have lb : ∀ (m0 : Nat), m0 ≤ 9999 → ¬ p = 0 → (∀ f : Nat → Int32, (∀ j, j ≤ p → f j = nI (UUx lm nw t j).1) → f (p + 1) = nI (UBx lm nw t p a9 m0 nw) → J E (0 + 1) (0 + 17) 171 [(3, .int (nI a9)), (2, .int (nI p)), (0, .ref (a 100)), (1, .ref q)] [] (sW (eG E) a m mj s t ++ ((q, .inl (jC0 E, m + 1, .inl f)) :: z))) → ∀ (g b : Nat) (f : Nat → Int32), b + g = nw → (∀ j, j ≤ p → f j = nI (UUx lm nw t j).1) → f (p + 1) = nI (UBx lm nw t p a9 m0 b) → J E (0 + 1) (0 + 17) 86 [(4, .int (nI b)), (3, .int (nI a9)), (2, .int (nI p)), (0, .ref (a 100)), (1, .ref q)] [] (sW (eG E) a m mj s t ++ ((q, .inl (jC0 E, m + 1, .inl f)) :: z)) := by
            intro m0 hm0 h0 fin g
            induction g with
            | zero =>
              intro b f hb hf hv
              refine j_iload_n C dX1_upTo_86 rfl rfl ?_
              refine j_if_le (tgt := 171) C dX1_upTo_87 (by decide) (fun c_87 => ?_) (fun c_87 => ?_)
              · exact absurd c_87 (show ¬ nI p ≤ nI 0 from nI_ge (by omega) (by omega))
              · refine j_iload C dX1_upTo_90 rfl ?_
                refine j_aload_n C dX1_upTo_92 rfl rfl ?_
                refine j_get C 0 0 dX1_upTo_93 nwX1_upTo_in (by decide) nwX1_upTo_f49 rfl rfl rfl ?_
                refine j_icmp_ge (tgt := 171) C dX1_upTo_96 (by decide) (fun c_96 => ?_) (fun c_96 => ?_)
                · refine j_lv [1, 2, 3, 4] [(3, _), (2, _), (0, _), (1, _)] rfl ?_
                  exact fin f hf (by rw [hv, show b = nw by omega])
                · exact absurd (by rw [SV_0 I, show b = nw by omega]; exact i_rf _) c_96
            | succ g ih3 =>
              intro b f hb hf hv
              have hbn : b < nw := by omega
              obtain ⟨e6b, h6c, h6d⟩ := SV_lt I hbn
              obtain ⟨e9b, h9b⟩ := SV_tg I (show p - 1 < m by omega)
              have hB : UBx lm nw t p a9 m0 b ≤ m0 := uB_le b
              have hc2 := cN_le (x := ltF t a9 + ltF t b) (SV_lm I)
              have f0 : f (p - 1) = nI (UUx lm nw t p).2 := by rw [hf (p - 1) (by omega), uU_2 h0]
              refine j_iload_n C dX1_upTo_86 rfl rfl ?_
              refine j_if_le (tgt := 171) C dX1_upTo_87 (by decide) (fun c_87 => ?_) (fun c_87 => ?_)
              · exact absurd c_87 (show ¬ nI p ≤ nI 0 from nI_ge (by omega) (by omega))
              · refine j_iload C dX1_upTo_90 rfl ?_
                refine j_aload_n C dX1_upTo_92 rfl rfl ?_
                refine j_get C 0 0 dX1_upTo_93 nwX1_upTo_in (by decide) nwX1_upTo_f49 rfl rfl rfl ?_
                refine j_icmp_ge (tgt := 171) C dX1_upTo_96 (by decide) (fun c_96 => ?_) (fun c_96 => ?_)
                · exact absurd (by rw [SV_0 I] at c_96; exact c_96) (nI_ge (by omega) (by omega))
                · refine j_aload_n C dX1_upTo_99 rfl rfl ?_
                  refine j_aload_n C dX1_upTo_100 rfl rfl ?_
                  refine j_get C 0 9 dX1_upTo_101 nwX1_upTo_in (by decide) nwX1_upTo_f31 rfl rfl rfl ?_
                  refine j_iload_n C dX1_upTo_104 rfl rfl ?_
                  refine j_iconst (v := 1) C dX1_upTo_105 (by decide) ?_
                  refine j_isub C dX1_upTo_106 ?_
                  refine j_iald C 4 (p - 1) dX1_upTo_107 rfl (nI_m1 h0) (by omega) (by omega) ?_
                  rw [e9b]
                  refine j_iload C dX1_upTo_108 rfl ?_
                  refine j_callE (q0 := 0) (na := 2) C dX1_upTo_110 (s_may hl (eG E) a m mj s t _ (tgF t (p - 1)) b (by omega) (by omega)) gX1_upTo_X1_may rfl rfl (by decide +kernel) rfl rfl (Nat.le_of_ble_eq_true rfl) (by rw [R]; exact ⟨Nat.le_of_ble_eq_true rfl, Nat.le_of_ble_eq_true rfl⟩) (by rw [R]; exact ⟨Nat.le_of_ble_eq_true rfl, Nat.le_of_ble_eq_true rfl⟩) ?_
                  refine j_if_eq (tgt := 165) C dX1_upTo_113 (by decide) (fun c_113 => ?_) (fun c_113 => ?_)
                  · have hno : (mayF t (tgF t (p - 1)) b && jnF t b a9) = false := by rw [zb_0 c_113]; rfl
                    have eB : UBx lm nw t p a9 m0 (b + 1) = UBx lm nw t p a9 m0 b := uB_no hno
                    refine j_iinc C 0 [(4, _), (3, _), (2, _), (0, _), (1, _)] dX1_upTo_165 rfl (nI_i1 b) (by decide) rfl ?_
                    refine j_goto (tgt := 86) C dX1_upTo_168 (by decide) ?_
                    exact ih3 (b + 1) f (by omega) hf (by rw [hv, eB])
                  · have hm1 := zb_1 c_113
                    refine j_aload_n C dX1_upTo_116 rfl rfl ?_
                    refine j_get C 0 8 dX1_upTo_117 nwX1_upTo_in (by decide) nwX1_upTo_f28 rfl rfl rfl ?_
                    refine j_iload C dX1_upTo_120 rfl ?_
                    refine jS_row C 3 8 40 (b) dX1_upTo_122 rfl rfl (by omega) ?_
                    refine j_iload_n C dX1_upTo_123 rfl rfl ?_
                    refine jS_jn C [] (b) (a9) dX1_upTo_124 rfl (by omega) (by omega) ?_
                    refine j_if_eq (tgt := 165) C dX1_upTo_125 (by decide) (fun c_125 => ?_) (fun c_125 => ?_)
                    · have hno : (mayF t (tgF t (p - 1)) b && jnF t b a9) = false := by simp [jnF, c_125]
                      have eB : UBx lm nw t p a9 m0 (b + 1) = UBx lm nw t p a9 m0 b := uB_no hno
                      refine j_iinc C 0 [(4, _), (3, _), (2, _), (0, _), (1, _)] dX1_upTo_165 rfl (nI_i1 b) (by decide) rfl ?_
                      refine j_goto (tgt := 86) C dX1_upTo_168 (by decide) ?_
                      exact ih3 (b + 1) f (by omega) hf (by rw [hv, eB])
                    · have hyes : (mayF t (tgF t (p - 1)) b && jnF t b a9) = true := by simp [jnF, c_125, hm1]
                      have eB : UBx lm nw t p a9 m0 (b + 1) = min (UBx lm nw t p a9 m0 b) ((UUx lm nw t p).2 + cN lm (ltF t a9 + ltF t b)) := uB_yes hyes
                      refine j_aload_n C dX1_upTo_128 rfl rfl ?_
                      refine j_iload_n C dX1_upTo_129 rfl rfl ?_
                      refine j_iconst (v := 1) C dX1_upTo_130 (by decide) ?_
                      refine j_iadd C dX1_upTo_131 ?_
                      refine j_aload_n C dX1_upTo_132 rfl rfl ?_
                      refine j_iload_n C dX1_upTo_133 rfl rfl ?_
                      refine j_iconst (v := 1) C dX1_upTo_134 (by decide) ?_
                      refine j_iadd C dX1_upTo_135 ?_
                      refine j_iald C 30 (p + 1) dX1_upTo_136 rfl (nI_1 p) (by omega) (by omega) ?_
                      rw [hv]
                      refine j_aload_n C dX1_upTo_137 rfl rfl ?_
                      refine j_iload_n C dX1_upTo_138 rfl rfl ?_
                      refine j_iconst (v := 1) C dX1_upTo_139 (by decide) ?_
                      refine j_isub C dX1_upTo_140 ?_
                      refine j_iald C 30 (p - 1) dX1_upTo_141 rfl (nI_m1 h0) (by omega) (by omega) ?_
                      rw [f0]
                      refine j_aload_n C dX1_upTo_142 rfl rfl ?_
                      refine j_aload_n C dX1_upTo_143 rfl rfl ?_
                      refine j_get C 0 6 dX1_upTo_144 nwX1_upTo_in (by decide) nwX1_upTo_f19 rfl rfl rfl ?_
                      refine j_iload_n C dX1_upTo_147 rfl rfl ?_
                      refine j_iald C 1 (a9) dX1_upTo_148 rfl rfl (by omega) (by decide) ?_
                      rw [e6]
                      refine j_aload_n C dX1_upTo_149 rfl rfl ?_
                      refine j_get C 0 6 dX1_upTo_150 nwX1_upTo_in (by decide) nwX1_upTo_f19 rfl rfl rfl ?_
                      refine j_iload C dX1_upTo_153 rfl ?_
                      refine j_iald C 1 (b) dX1_upTo_155 rfl rfl (by omega) (by decide) ?_
                      rw [e6b]
                      refine j_iadd C dX1_upTo_156 ?_
                      rw [nI_add]
                      refine j_callE (q0 := 0) (na := 1) C dX1_upTo_157 (s_counts hl (eG E) a m mj s t _ lm _ (SV_1 I) (SV_lm I) (by omega)) gX1_upTo_X1_counts rfl rfl (by decide +kernel) rfl rfl (Nat.le_of_ble_eq_true rfl) (by rw [R]; exact ⟨Nat.le_of_ble_eq_true rfl, Nat.le_of_ble_eq_true rfl⟩) (by rw [R]; exact ⟨Nat.le_of_ble_eq_true rfl, Nat.le_of_ble_eq_true rfl⟩) ?_
                      refine j_iadd C dX1_upTo_160 ?_
                      refine j_topi (nI_add _ _) ?_
                      refine j_mmin C dX1_upTo_161 nwX1_upTo_l56 nwX1_upTo_smin nwX1_upTo_iMath nwX1_upTo_kmin (by rw [R]; exact ⟨by decide, Nat.le_of_ble_eq_true rfl, Nat.le_of_ble_eq_true rfl, Nat.le_of_ble_eq_true rfl⟩) ?_
                      refine j_topi (nI_min (by omega) (by omega)) ?_
                      refine jT_iast C (p + 1) dX1_upTo_164 (nI_1 p) (by omega) (by omega) ?_
                      refine j_iinc C 0 [(4, _), (3, _), (2, _), (0, _), (1, _)] dX1_upTo_165 rfl (nI_i1 b) (by decide) rfl ?_
                      refine j_goto (tgt := 86) C dX1_upTo_168 (by decide) ?_
                      exact ih3 (b + 1) (upd f (p + 1) (nI (min (UBx lm nw t p a9 m0 b) ((UUx lm nw t p).2 + cN lm (ltF t a9 + ltF t b))))) (by omega) (fun j hj => by rw [upd_ne (by omega)]; exact hf j hj) (by rw [upd_eq, eB])
          refine j_iload_n C dX1_upTo_31 rfl rfl ?_
          refine j_aload_n C dX1_upTo_32 rfl rfl ?_
          refine j_get C 0 0 dX1_upTo_33 nwX1_upTo_in (by decide) nwX1_upTo_f49 rfl rfl rfl ?_
          refine j_icmp_ge (tgt := 177) C dX1_upTo_36 (by decide) (fun c_36 => ?_) (fun c_36 => ?_)
          · exact absurd (by rw [SV_0 I] at c_36; exact c_36) (nI_ge (by omega) (by omega))
          · refine j_aload_n C dX1_upTo_39 rfl rfl ?_
            refine j_aload_n C dX1_upTo_40 rfl rfl ?_
            refine j_get C 0 9 dX1_upTo_41 nwX1_upTo_in (by decide) nwX1_upTo_f31 rfl rfl rfl ?_
            refine j_iload_n C dX1_upTo_44 rfl rfl ?_
            refine j_iald C 4 (p) dX1_upTo_45 rfl rfl hpm (by omega) ?_
            rw [e9]
            refine j_iload_n C dX1_upTo_46 rfl rfl ?_
            refine j_callE (q0 := 0) (na := 2) C dX1_upTo_47 (s_may hl (eG E) a m mj s t _ (tgF t p) a9 (by omega) (by omega)) gX1_upTo_X1_may rfl rfl (by decide +kernel) rfl rfl (Nat.le_of_ble_eq_true rfl) (by rw [R]; exact ⟨Nat.le_of_ble_eq_true rfl, Nat.le_of_ble_eq_true rfl⟩) (by rw [R]; exact ⟨Nat.le_of_ble_eq_true rfl, Nat.le_of_ble_eq_true rfl⟩) ?_
            refine j_if_ne (tgt := 56) C dX1_upTo_50 (by decide) (fun c_50 => ?_) (fun c_50 => ?_)
            · have hok := zb_1 c_50
              refine j_aload_n C dX1_upTo_56 rfl rfl ?_
              refine j_iload_n C dX1_upTo_57 rfl rfl ?_
              refine j_iconst (v := 1) C dX1_upTo_58 (by decide) ?_
              refine j_iadd C dX1_upTo_59 ?_
              refine j_aload_n C dX1_upTo_60 rfl rfl ?_
              refine j_iload_n C dX1_upTo_61 rfl rfl ?_
              refine j_iconst (v := 1) C dX1_upTo_62 (by decide) ?_
              refine j_iadd C dX1_upTo_63 ?_
              refine j_iald C 30 (p + 1) dX1_upTo_64 rfl (nI_1 p) (by omega) (by omega) ?_
              rw [hv]
              refine j_aload_n C dX1_upTo_65 rfl rfl ?_
              refine j_iload_n C dX1_upTo_66 rfl rfl ?_
              refine j_iald C 30 (p) dX1_upTo_67 rfl rfl (by omega) (by omega) ?_
              rw [hf p (Nat.le_refl p)]
              refine j_aload_n C dX1_upTo_68 rfl rfl ?_
              refine j_aload_n C dX1_upTo_69 rfl rfl ?_
              refine j_get C 0 6 dX1_upTo_70 nwX1_upTo_in (by decide) nwX1_upTo_f19 rfl rfl rfl ?_
              refine j_iload_n C dX1_upTo_73 rfl rfl ?_
              refine j_iald C 1 (a9) dX1_upTo_74 rfl rfl (by omega) (by decide) ?_
              rw [e6]
              refine j_callE (q0 := 0) (na := 1) C dX1_upTo_75 (s_counts hl (eG E) a m mj s t _ lm _ (SV_1 I) (SV_lm I) (by omega)) gX1_upTo_X1_counts rfl rfl (by decide +kernel) rfl rfl (Nat.le_of_ble_eq_true rfl) (by rw [R]; exact ⟨Nat.le_of_ble_eq_true rfl, Nat.le_of_ble_eq_true rfl⟩) (by rw [R]; exact ⟨Nat.le_of_ble_eq_true rfl, Nat.le_of_ble_eq_true rfl⟩) ?_
              refine j_iadd C dX1_upTo_78 ?_
              refine j_topi (nI_add _ _) ?_
              refine j_mmin C dX1_upTo_79 nwX1_upTo_l56 nwX1_upTo_smin nwX1_upTo_iMath nwX1_upTo_kmin (by rw [R]; exact ⟨by decide, Nat.le_of_ble_eq_true rfl, Nat.le_of_ble_eq_true rfl, Nat.le_of_ble_eq_true rfl⟩) ?_
              refine j_topi (nI_min (by omega) (by omega)) ?_
              refine jT_iast C (p + 1) dX1_upTo_82 (nI_1 p) (by omega) (by omega) ?_
              refine j_iconst (v := 0) C dX1_upTo_83 (by decide) ?_
              refine j_istore C [(4, _), (3, _), (2, _), (0, _), (1, _)] dX1_upTo_84 (by decide) rfl ?_
              by_cases h0 : p = 0
              · have nx := nxt (upd f (p + 1) (nI (min (UAx lm nw t p a9) ((UUx lm nw t p).1 + cN lm (ltF t a9))))) (fun j hj => by rw [upd_ne (by omega)]; exact hf j hj) (by rw [upd_eq, show UAx lm nw t p (a9 + 1) = (min (UAx lm nw t p a9) ((UUx lm nw t p).1 + cN lm (ltF t a9))) from uA_z hok h0])
                refine j_iload_n C dX1_upTo_86 rfl rfl ?_
                refine j_if_le (tgt := 171) C dX1_upTo_87 (by decide) (fun c_87 => ?_) (fun c_87 => ?_)
                · refine j_lv [1, 2, 3, 4] [(3, _), (2, _), (0, _), (1, _)] rfl ?_
                  exact nx
                · exact absurd (by rw [h0]; exact i_rf _) c_87
              · exact lb (min (UAx lm nw t p a9) ((UUx lm nw t p).1 + cN lm (ltF t a9))) (by omega) h0 (fun f2 hf2 hv2 => nxt f2 hf2 (by rw [hv2, show UAx lm nw t p (a9 + 1) = UBx lm nw t p a9 (min (UAx lm nw t p a9) ((UUx lm nw t p).1 + cN lm (ltF t a9))) nw from uA_p hok h0])) nw 0 _ (Nat.zero_add _) (fun j hj => by rw [upd_ne (by omega)]; exact hf j hj) (by rw [upd_eq]; rfl)
            · have hno : mayF t (tgF t p) a9 = false := zb_0 c_50
              refine j_goto (tgt := 171) C dX1_upTo_53 (by decide) ?_
              exact nxt f hf (by rw [hv, show UAx lm nw t p (a9 + 1) = UAx lm nw t p a9 from uA_no hno])
      refine j_iload_n C dX1_upTo_12 rfl rfl ?_
      refine j_aload_n C dX1_upTo_13 rfl rfl ?_
      refine j_get C 0 9 dX1_upTo_14 nwX1_upTo_in (by decide) nwX1_upTo_f31 rfl rfl rfl ?_
      refine j_alen C 4 0 dX1_upTo_17 rfl rfl ?_
      refine j_icmp_ge (tgt := 183) C dX1_upTo_18 (by decide) (fun c_18 => ?_) (fun c_18 => ?_)
      · exact absurd c_18 (nI_ge (by omega) (by omega))
      · refine j_aload_n C dX1_upTo_21 rfl rfl ?_
        refine j_iload_n C dX1_upTo_22 rfl rfl ?_
        refine j_iconst (v := 1) C dX1_upTo_23 (by decide) ?_
        refine j_iadd C dX1_upTo_24 ?_
        refine j_sipush (v := 9999) C dX1_upTo_25 (by decide) ?_
        refine jT_iast C (p + 1) dX1_upTo_28 (nI_1 p) (by omega) (by omega) ?_
        refine j_iconst (v := 0) C dX1_upTo_29 (by decide) ?_
        refine j_istore_n C [(3, _), (2, _), (0, _), (1, _)] dX1_upTo_30 rfl (by decide) rfl ?_
        exact la nw 0 _ (Nat.zero_add _) (fun j hj => by rw [upd_ne (by omega)]; exact hf j hj) (by rw [upd_eq]; rfl)
  refine j_aload_n C dX1_upTo_0 rfl rfl ?_
  refine j_get C 0 9 dX1_upTo_1 nwX1_upTo_in (by decide) nwX1_upTo_f31 rfl rfl rfl ?_
  refine j_alen C 4 0 dX1_upTo_4 rfl rfl ?_
  refine j_iconst (v := 1) C dX1_upTo_5 (by decide) ?_
  refine j_iadd C dX1_upTo_6 ?_
  refine j_newI C (m + 1) (17) dX1_upTo_7 nwX1_upTo_arI (nI_1 m) (by omega) (by decide) (by rw [R]; exact Nat.le_of_ble_eq_true rfl) (by rw [R]; exact Nat.le_of_ble_eq_true rfl) (fun q => ?_)
  refine j_behind ?_
  refine j_astore_n C [(1, _), (0, _)] dX1_upTo_9 rfl (by decide) rfl ?_
  refine j_iconst (v := 0) C dX1_upTo_10 (by decide) ?_
  refine j_istore_n C [(2, _), (1, _), (0, _)] dX1_upTo_11 rfl (by decide) rfl ?_
  refine j_lv [0, 2, 1] [(2, _), (0, _), (1, _)] rfl ?_
  exact loop q m 0 _ (Nat.zero_add _) (fun j hj => by rw [show j = 0 by omega]; rfl)
set_option maxRecDepth 100000 in
theorem nwX1_cheapest_f31 : Cond.fieldLink RX1 31 "TelegraphPricesLaw$Sim" "word" "[I" ∈ wsX1_cheapest := by decide +kernel
set_option maxRecDepth 100000 in
theorem nwX1_cheapest_in : ∀ w ∈ wsX10, w ∈ wsX1_cheapest := by decide +kernel
set_option maxHeartbeats 4000000 in
set_option maxRecDepth 100000 in
theorem s_cheapest {l : Launch} (hl : l.stackTraces = false) (Γ : gG) (a : Nat → Nat) (m mj : Nat) (s : gS) (t : gT) (z : va_W) (nw lm : Nat) (I : SV nw m lm s t) : CtJ l yX1_cheapest wsX1_cheapest 4 128 1 17 [.ref (a 100)] Γ none (sW Γ a m mj s t ++ z) (jE (some (.int (al m (s 2) (nI (UUx lm nw t m).1)))) (sW Γ a m mj s t ++ z)) := by
  refine ctj_of (by decide +kernel) rfl (Nat.le_of_ble_eq_true rfl) ?_
  intro E C F N9 hΓ hL R
  subst hΓ
  subst hL
  show J E 0 0 0 [(0, .ref (a 100))] [] (sW (eG E) a m mj s t ++ z)
  have hm := SV_m I
  refine j_aload_n C dX1_cheapest_0 rfl rfl ?_
  refine j_aload_n C dX1_cheapest_1 rfl rfl ?_
  refine j_callP (q0 := 0) (na := 0) C dX1_cheapest_2 (s_upTo hl (eG E) a m mj s t z nw lm I) gX1_cheapest_X1_upTo rfl rfl (by decide +kernel) rfl rfl (Nat.le_of_ble_eq_true rfl) (by rw [R]; exact ⟨Nat.le_of_ble_eq_true rfl, Nat.le_of_ble_eq_true rfl⟩) (by rw [R]; exact ⟨Nat.le_of_ble_eq_true rfl, Nat.le_of_ble_eq_true rfl⟩) (fun v w' hq => ?_)
  obtain ⟨q, f, rfl, rfl, hf⟩ := hq
  show J E _ _ _ _ (.ref q :: _) _
  refine j_aload_n C dX1_cheapest_5 rfl rfl ?_
  refine j_get C 0 9 dX1_cheapest_6 nwX1_cheapest_in (by decide) nwX1_cheapest_f31 rfl rfl rfl ?_
  refine j_alen C 4 0 dX1_cheapest_9 rfl rfl ?_
  refine j_iald C 30 (m) dX1_cheapest_10 rfl rfl (by omega) (by omega) ?_
  rw [hf m (Nat.le_refl m)]
  refine j_callE (q0 := 0) (na := 1) C dX1_cheapest_11 (s_lifted hl (eG E) a m mj s t _ _ hm) gX1_cheapest_X1_lifted rfl rfl (by decide +kernel) rfl rfl (Nat.le_of_ble_eq_true rfl) (by rw [R]; exact ⟨Nat.le_of_ble_eq_true rfl, Nat.le_of_ble_eq_true rfl⟩) (by rw [R]; exact ⟨Nat.le_of_ble_eq_true rfl, Nat.le_of_ble_eq_true rfl⟩) ?_
  refine j_drop1 ?_
  exact j_iret C F dX1_cheapest_14 (Nat.le_of_ble_eq_true rfl) (Nat.le_of_ble_eq_true rfl) ⟨rfl, rfl⟩
