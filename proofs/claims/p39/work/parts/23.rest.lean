/-! rest -/
/-- copied: letters below l, rows of stand and join below a, of the row a below b -/
def CP (nw : Nat) (t : gT) (l a b : Nat) (t2 : gT) : Prop := (∀ w, w < l → t2 6 w = t 6 w) ∧ (∀ w c, (w < a ∧ c < nw) ∨ (w = a ∧ c < b) → t2 (20 + w) c = t (20 + w) c ∧ t2 (40 + w) c = t (40 + w) c) ∧ (∀ w c, t2 (20 + w) c = 0 ∨ t2 (20 + w) c = 1) ∧ (∀ w c, t2 (40 + w) c = 0 ∨ t2 (40 + w) c = 1) ∧ ∀ i, t2 10 i = 0
section
variable {nw l a b : Nat} {t t2 : gT}
theorem CP_0 : CP nw t 0 0 0 zT := ⟨fun w h => absurd h (Nat.not_lt_zero w), fun w c h => by omega, fun _ _ => Or.inl rfl, fun _ _ => Or.inl rfl, fun _ => rfl⟩
theorem CP_l (h : CP nw t a a 0 t2) : CP nw t (a + 1) a 0 (uT t2 6 a (t 6 a)) := by
  obtain ⟨h1, h2, h3, h4, h5⟩ := h
  refine ⟨fun w hw => ?_, fun w c hc => by rw [uT_ne (by omega), uT_ne (by omega)]; exact h2 w c hc, fun w c => by rw [uT_ne (by omega)]; exact h3 w c, fun w c => by rw [uT_ne (by omega)]; exact h4 w c, fun i => by rw [uT_ne (by omega)]; exact h5 i⟩
  rw [uT_eq]
  by_cases q : w = a
  · rw [q, upd_eq]
  · rw [upd_ne q]
    exact h1 w (by omega)
theorem CP_b (ha : a < 12) (h : CP nw t l a b t2) (s1 : t (20 + a) b = 0 ∨ t (20 + a) b = 1) (s2 : t (40 + a) b = 0 ∨ t (40 + a) b = 1) : CP nw t l a (b + 1) (uT (uT t2 (20 + a) b (t (20 + a) b)) (40 + a) b (t (40 + a) b)) := by
  obtain ⟨h1, h2, h3, h4, h5⟩ := h
  have k1 : ∀ w c, uT (uT t2 (20 + a) b (t (20 + a) b)) (40 + a) b (t (40 + a) b) (20 + w) c = (if 20 + w = 40 + a then upd (t2 (40 + a)) b (t (40 + a) b) c else if w = a then upd (t2 (20 + a)) b (t (20 + a) b) c else t2 (20 + w) c) := by
    intro w c
    by_cases q : 20 + w = 40 + a
    · rw [if_pos q, q, uT_eq, uT_ne (by omega)]
    · rw [if_neg q, uT_ne q]
      by_cases q2 : w = a
      · rw [if_pos q2, q2, uT_eq]
      · rw [if_neg q2, uT_ne (by omega)]
  have k2 : ∀ w c, uT (uT t2 (20 + a) b (t (20 + a) b)) (40 + a) b (t (40 + a) b) (40 + w) c = (if w = a then upd (t2 (40 + a)) b (t (40 + a) b) c else t2 (40 + w) c) := by
    intro w c
    by_cases q : w = a
    · rw [if_pos q, q, uT_eq, uT_ne (by omega)]
    · rw [if_neg q, uT_ne (by omega), uT_ne (by omega)]
  have u : ∀ (f : Nat → Int32) (v : Int32) (c : Nat), (∀ c, f c = 0 ∨ f c = 1) → (v = 0 ∨ v = 1) → upd f b v c = 0 ∨ upd f b v c = 1 := by
    intro f v c hf hv
    by_cases q : c = b
    · rw [q, upd_eq]; exact hv
    · rw [upd_ne q]; exact hf c
  refine ⟨fun w hw => by rw [uT_ne (by omega), uT_ne (by omega)]; exact h1 w hw, fun w c hc => ?_, fun w c => ?_, fun w c => ?_, fun i => by rw [uT_ne (by omega), uT_ne (by omega)]; exact h5 i⟩
  · rw [k1, k2, if_neg (show ¬ 20 + w = 40 + a by omega)]
    by_cases q : w = a
    · rw [if_pos q, if_pos q, q]
      by_cases q2 : c = b
      · rw [q2, upd_eq, upd_eq]
        exact ⟨rfl, rfl⟩
      · rw [upd_ne q2, upd_ne q2]
        exact h2 a c (Or.inr ⟨rfl, by omega⟩)
    · rw [if_neg q, if_neg q]
      exact h2 w c (Or.inl ⟨by omega, by omega⟩)
  · rw [k1]
    by_cases q : 20 + w = 40 + a
    · rw [if_pos q]
      exact u _ _ _ (h4 a) s2
    · rw [if_neg q]
      by_cases q2 : w = a
      · rw [if_pos q2]
        exact u _ _ _ (h3 a) s1
      · rw [if_neg q2]
        exact h3 w c
  · rw [k2]
    by_cases q : w = a
    · rw [if_pos q]
      exact u _ _ _ (h4 a) s2
    · rw [if_neg q]
      exact h4 w c
theorem CP_n (h : CP nw t l a nw t2) : CP nw t l (a + 1) 0 t2 := ⟨h.1, fun w c hc => h.2.1 w c (by omega), h.2.2⟩
end
/-- what the rest of a Sim holds -/
def RSt (nw m lm f : Nat) (t : gT) (s2 : gS) (t2 : gT) : Prop := s2 2 = 0 ∧ SV nw (m - f) lm s2 t2 ∧ (∀ w, w < nw → ltF t2 w = ltF t w) ∧ (∀ a b, a < nw → b < nw → mayF t2 a b = mayF t a b ∧ jnF t2 a b = jnF t a b) ∧ ∀ i, i < m - f → tgF t2 i = tgF t (f + i)
theorem uA1_ne {τ : gT} {c a : Nat} {f : Nat → Int32} (h : a ≠ c) : uA1 τ c f a = τ a := by
  unfold uA1
  rw [if_neg h]
theorem uA1_eq {τ : gT} {c : Nat} {f : Nat → Int32} : uA1 τ c f c = f := by
  unfold uA1
  rw [if_pos rfl]
set_option maxRecDepth 100000 in
theorem nwX1_rest_f31 : Cond.fieldLink RX1 31 "TelegraphPricesLaw$Sim" "word" "[I" ∈ wsX1_rest := by decide +kernel
set_option maxRecDepth 100000 in
theorem nwX1_rest_in : ∀ w ∈ wsX10, w ∈ wsX1_rest := by decide +kernel
set_option maxRecDepth 100000 in
theorem nwX1_rest_f49 : Cond.fieldLink RX1 49 "TelegraphPricesLaw$Sim" "words" "I" ∈ wsX1_rest := by decide +kernel
set_option maxRecDepth 100000 in
theorem nwX1_rest_arI : Cond.arrayClass .int ∈ wsX1_rest := by decide +kernel
set_option maxRecDepth 100000 in
theorem nwX1_rest_f25 : Cond.fieldLink RX1 25 "TelegraphPricesLaw$Sim" "stand" "[[Z" ∈ wsX1_rest := by decide +kernel
set_option maxRecDepth 100000 in
theorem nwX1_rest_f28 : Cond.fieldLink RX1 28 "TelegraphPricesLaw$Sim" "join" "[[Z" ∈ wsX1_rest := by decide +kernel
set_option maxRecDepth 100000 in
theorem nwX1_rest_f19 : Cond.fieldLink RX1 19 "TelegraphPricesLaw$Sim" "letters" "[I" ∈ wsX1_rest := by decide +kernel
set_option maxRecDepth 100000 in
theorem nwX1_rest_k8 : Cond.classLink RX1 8 RX1 ∈ wsX1_rest := by decide +kernel
set_option maxRecDepth 100000 in
theorem nwX1_rest_ins : Cond.instantiable RX1 11 ∈ wsX1_rest := by decide +kernel
set_option maxRecDepth 100000 in
theorem nwX1_rest_ini : Cond.initialized RX1 ∈ wsX1_rest := by decide +kernel
set_option maxRecDepth 100000 in
theorem nwX1_rest_iin : Cond.instanceMethod yX1_init ∈ wsX1_rest := by decide +kernel
set_option maxRecDepth 100000 in
theorem nwX1_rest_lin : Cond.methodLink RX1 66 yX1_init ∈ wsX1_rest := by decide +kernel
set_option maxRecDepth 100000 in
theorem nwX1_rest_f7 : Cond.fieldLink RX1 7 "TelegraphPricesLaw$Sim" "limit" "I" ∈ wsX1_rest := by decide +kernel
set_option maxRecDepth 100000 in
theorem nwX1_rest_f13 : Cond.fieldLink RX1 13 "TelegraphPricesLaw$Sim" "least" "I" ∈ wsX1_rest := by decide +kernel
set_option maxHeartbeats 4000000 in
set_option maxRecDepth 100000 in
theorem s_rest {l : Launch} (hl : l.stackTraces = false) (Γ : gG) (a : Nat → Nat) (m mj : Nat) (s : gS) (t : gT) (z : va_W) (nw lm f : Nat) (I : SV nw m lm s t) (hf : f ≤ m) : CtJ l yX1_rest wsX1_rest 3 96 31 351 [.ref (a 100), .int (nI f)] Γ none (sW Γ a m mj s t ++ z) (fun v w' => ∃ (a2 : Nat → Nat) (s2 : gS) (t2 : gT), v = some (.ref (a2 100)) ∧ w' = sW Γ a2 (m - f) 0 s2 t2 ++ (sW Γ a m mj s t ++ z) ∧ RSt nw m lm f t s2 t2) := by
  refine ctj_of (by decide +kernel) rfl (Nat.le_of_ble_eq_true rfl) ?_
  intro E C F N9 hΓ hL R
  subst hΓ
  subst hL
  show J E 0 0 0 [(0, .ref (a 100)), (1, .int (nI f))] [] (sW (eG E) a m mj s t ++ z)
  have hnw := SV_nw I
  have hm := SV_m I
  have rst : ∀ t2 : gT, CP nw t nw nw 0 t2 → (∀ i, i < m - f → t2 9 i = t 9 (f + i)) → RSt nw m lm f t (uS (uS (uS s0 0 (s 0)) 1 (s 1)) 2 0) t2 := by
    intro t2 hc hw
    have e6 : ∀ w, w < nw → t2 6 w = t 6 w := hc.1
    have e9 : ∀ i, i < m - f → tgF t2 i = tgF t (f + i) := fun i hi => by unfold tgF; rw [hw i hi]
    have el : ∀ w, w < nw → ltF t2 w = ltF t w := fun w h => by unfold ltF; rw [e6 w h]
    have e2 : ∀ a b, a < nw → b < nw → t2 (20 + a) b = t (20 + a) b ∧ t2 (40 + a) b = t (40 + a) b := fun a b h1 h2 => hc.2.1 a b (Or.inl ⟨h1, h2⟩)
    refine ⟨rfl, ⟨SV_0 I, SV_1 I, hnw, by omega, SV_lm I, fun i hi => ?_, fun w h => ?_, hc.2.2.1, hc.2.2.2.1, fun i => Or.inl (hc.2.2.2.2 i)⟩, el, fun a b h1 h2 => ?_, e9⟩
    · rw [e9 i hi, hw i hi]
      exact SV_tg I (by omega)
    · rw [el w h, e6 w h]
      exact SV_lt I h
    · unfold mayF jnF
      rw [(e2 a b h1 h2).1, (e2 a b h1 h2).2]
      exact ⟨rfl, rfl⟩
  have rst := fun {t2 : gT} => rst t2
  have lw : ∀ (a2 : Nat → Nat) (q : Nat) (d p : Nat) (t2 : gT), p + d = m - f → CP nw t nw nw 0 t2 → (∀ i, i < p → t2 9 i = t 9 (f + i)) → J E (0 + 1 + 29 + 1) (0 + 11 + 324 + 16) 126 [(3, .int (nI p)), (2, .ref (a2 100)), (1, .int (nI f)), (0, .ref (a 100))] [] (sW (eG E) (aU a2 9 q) (m - f) 0 (uS (uS (uS s0 0 (s 0)) 1 (s 1)) 2 0) t2 ++ (sW (eG E) a m mj s t ++ z)) := by
    intro a2 q d
    induction d with
    | zero =>
      intro p t2 hp hc hw
      refine j_iload_n C dX1_rest_126 rfl rfl ?_
      refine j_aload_n C dX1_rest_127 rfl rfl ?_
      refine j_get C 0 9 dX1_rest_128 nwX1_rest_in (by decide) nwX1_rest_f31 rfl rfl rfl ?_
      refine j_alen C 4 0 dX1_rest_131 rfl rfl ?_
      refine j_icmp_ge (tgt := 155) C dX1_rest_132 (by decide) (fun c_132 => ?_) (fun c_132 => ?_)
      · refine j_aload_n C dX1_rest_155 rfl rfl ?_
        exact j_aret C F (Or.inl ⟨_, rfl⟩) dX1_rest_156 (Nat.le_of_ble_eq_true rfl) (Nat.le_of_ble_eq_true rfl) ⟨aU a2 9 q, (uS (uS (uS s0 0 (s 0)) 1 (s 1)) 2 0), t2, rfl, rfl, rst hc (fun i hi => hw i (by omega))⟩
      · exact absurd (nI_le (by omega) (by omega)) c_132
    | succ d ih =>
      intro p t2 hp hc hw
      have hpm : p < m - f := by omega
      refine j_iload_n C dX1_rest_126 rfl rfl ?_
      refine j_aload_n C dX1_rest_127 rfl rfl ?_
      refine j_get C 0 9 dX1_rest_128 nwX1_rest_in (by decide) nwX1_rest_f31 rfl rfl rfl ?_
      refine j_alen C 4 0 dX1_rest_131 rfl rfl ?_
      refine j_icmp_ge (tgt := 155) C dX1_rest_132 (by decide) (fun c_132 => ?_) (fun c_132 => ?_)
      · exact absurd c_132 (nI_ge (by omega) (by omega))
      · refine j_aload_n C dX1_rest_135 rfl rfl ?_
        refine j_get C 0 9 dX1_rest_136 nwX1_rest_in (by decide) nwX1_rest_f31 rfl rfl rfl ?_
        refine j_iload_n C dX1_rest_139 rfl rfl ?_
        refine j_aload_n C dX1_rest_140 rfl rfl ?_
        refine j_get C 30 9 dX1_rest_141 nwX1_rest_in (by decide) nwX1_rest_f31 rfl rfl rfl ?_
        refine j_iload_n C dX1_rest_144 rfl rfl ?_
        refine j_iload_n C dX1_rest_145 rfl rfl ?_
        refine j_iadd C dX1_rest_146 ?_
        refine j_iald C 34 (f + p) dX1_rest_147 rfl (nI_add f p) (by omega) (by omega) ?_
        refine jS_iast C [] 4 9 (p) dX1_rest_148 rfl rfl hpm (by omega) rfl ?_
        refine j_iinc C 0 [(3, _), (2, _), (1, _), (0, _)] dX1_rest_149 rfl (nI_i1 p) (by decide) rfl ?_
        refine j_goto (tgt := 126) C dX1_rest_152 (by decide) ?_
        refine ih (p + 1) _ (by omega) ?_ ?_
        · exact ⟨fun w h => by rw [uT_ne (by omega)]; exact hc.1 w h, fun w c h => by rw [uT_ne (by omega), uT_ne (by omega)]; exact hc.2.1 w c h, fun w c => by rw [uT_ne (by omega)]; exact hc.2.2.1 w c, fun w c => by rw [uT_ne (by omega)]; exact hc.2.2.2.1 w c, fun i => by rw [uT_ne (by omega)]; exact hc.2.2.2.2 i⟩
        · intro i hi
          rw [uT_eq]
          by_cases e : i = p
          · rw [e, upd_eq]
          · rw [upd_ne e]
            exact hw i (by omega)
  have la : ∀ (a2 : Nat → Nat) (d a9 : Nat) (t2 : gT), a9 + d = nw → CP nw t a9 a9 0 t2 → J E (0 + 1 + 29) (0 + 11 + 324) 31 [(3, .int (nI a9)), (2, .ref (a2 100)), (1, .int (nI f)), (0, .ref (a 100))] [] (sW (eG E) a2 0 0 (uS (uS (uS s0 0 (s 0)) 1 (s 1)) 2 0) t2 ++ (sW (eG E) a m mj s t ++ z)) := by
    intro a2 d
    induction d with
    | zero =>
      intro a9 t2 ha hc
      refine j_iload_n C dX1_rest_31 rfl rfl ?_
      refine j_aload_n C dX1_rest_32 rfl rfl ?_
      refine j_get C 30 0 dX1_rest_33 nwX1_rest_in (by decide) nwX1_rest_f49 rfl rfl rfl ?_
      refine j_icmp_ge (tgt := 111) C dX1_rest_36 (by decide) (fun c_36 => ?_) (fun c_36 => ?_)
      · refine j_aload_n C dX1_rest_111 rfl rfl ?_
        refine j_aload_n C dX1_rest_112 rfl rfl ?_
        refine j_get C 30 9 dX1_rest_113 nwX1_rest_in (by decide) nwX1_rest_f31 rfl rfl rfl ?_
        refine j_alen C 34 0 dX1_rest_116 rfl rfl ?_
        refine j_iload_n C dX1_rest_117 rfl rfl ?_
        refine j_isub C dX1_rest_118 ?_
        rw [pk_sub hf]
        refine j_newI C (m - f) (16) dX1_rest_119 nwX1_rest_arI rfl (by omega) (by decide) (by rw [R]; exact Nat.le_of_ble_eq_true rfl) (by rw [R]; exact Nat.le_of_ble_eq_true rfl) (fun q => ?_)
        refine j_behind ?_
        refine jS_word C dX1_rest_121 nwX1_rest_in nwX1_rest_f31 ?_
        refine j_iconst (v := 0) C dX1_rest_124 (by decide) ?_
        refine j_istore_n C [(3, _), (2, _), (1, _), (0, _)] dX1_rest_125 rfl (by decide) rfl ?_
        refine lw a2 q (m - f) 0 _ (Nat.zero_add _) ?_ (fun i hi => absurd hi (Nat.not_lt_zero i))
        have e : a9 = nw := by omega
        subst e
        exact ⟨fun w h => by rw [uA1_ne (by omega)]; exact hc.1 w h, fun w c h => by rw [uA1_ne (by omega), uA1_ne (by omega)]; exact hc.2.1 w c h, fun w c => by rw [uA1_ne (by omega)]; exact hc.2.2.1 w c, fun w c => by rw [uA1_ne (by omega)]; exact hc.2.2.2.1 w c, fun i => by rw [uA1_ne (by omega)]; exact hc.2.2.2.2 i⟩
      · exact absurd (by rw [SV_0 I]; exact nI_le (by omega) (by omega)) c_36
    | succ d ih =>
      intro a9 t2 ha hc
      have han : a9 < nw := by omega
      have lb : ∀ (e b : Nat) (t2 : gT), b + e = nw → CP nw t (a9 + 1) a9 b t2 → J E (0 + 1 + 29) (0 + 11 + 324) 54 [(4, .int (nI b)), (3, .int (nI a9)), (2, .ref (a2 100)), (1, .int (nI f)), (0, .ref (a 100))] [] (sW (eG E) a2 0 0 (uS (uS (uS s0 0 (s 0)) 1 (s 1)) 2 0) t2 ++ (sW (eG E) a m mj s t ++ z)) := by
        intro e
        induction e with
        | zero =>
          intro b t2 hb hc
          refine j_iload C dX1_rest_54 rfl ?_
          refine j_aload_n C dX1_rest_56 rfl rfl ?_
          refine j_get C 30 0 dX1_rest_57 nwX1_rest_in (by decide) nwX1_rest_f49 rfl rfl rfl ?_
          refine j_icmp_ge (tgt := 105) C dX1_rest_60 (by decide) (fun c_60 => ?_) (fun c_60 => ?_)
          · refine j_iinc C 1 [(3, _), (4, _), (2, _), (1, _), (0, _)] dX1_rest_105 rfl (nI_i1 a9) (by decide) rfl ?_
            refine j_goto (tgt := 31) C dX1_rest_108 (by decide) ?_
            refine j_lv [0, 2, 3, 4] [(3, _), (2, _), (1, _), (0, _)] rfl ?_
            rw [show b = nw by omega] at hc
            exact ih (a9 + 1) t2 (by omega) (CP_n hc)
          · exact absurd (by rw [SV_0 I, show b = nw by omega]; exact i_rf _) c_60
        | succ e ih2 =>
          intro b t2 hb hc
          have hbn : b < nw := by omega
          refine j_iload C dX1_rest_54 rfl ?_
          refine j_aload_n C dX1_rest_56 rfl rfl ?_
          refine j_get C 30 0 dX1_rest_57 nwX1_rest_in (by decide) nwX1_rest_f49 rfl rfl rfl ?_
          refine j_icmp_ge (tgt := 105) C dX1_rest_60 (by decide) (fun c_60 => ?_) (fun c_60 => ?_)
          · exact absurd (by rw [SV_0 I] at c_60; exact c_60) (nI_ge (by omega) (by omega))
          · refine j_aload_n C dX1_rest_63 rfl rfl ?_
            refine j_get C 0 7 dX1_rest_64 nwX1_rest_in (by decide) nwX1_rest_f25 rfl rfl rfl ?_
            refine j_iload_n C dX1_rest_67 rfl rfl ?_
            refine jS_row C 2 7 20 (a9) dX1_rest_68 rfl rfl (by omega) ?_
            refine j_iload C dX1_rest_69 rfl ?_
            refine j_aload_n C dX1_rest_71 rfl rfl ?_
            refine j_get C 30 7 dX1_rest_72 nwX1_rest_in (by decide) nwX1_rest_f25 rfl rfl rfl ?_
            refine j_iload_n C dX1_rest_75 rfl rfl ?_
            refine jS_row C 32 7 20 (a9) dX1_rest_76 rfl rfl (by omega) ?_
            refine j_iload C dX1_rest_77 rfl ?_
            refine jS_st C (sW _ _ _ _ _ _) (a9) (b) dX1_rest_79 rfl (by omega) (by omega) ?_
            refine jS_stput C [] (a9) (b) dX1_rest_80 rfl (by omega) (by omega) (SV_st I a9 b) ?_
            refine j_aload_n C dX1_rest_81 rfl rfl ?_
            refine j_get C 0 8 dX1_rest_82 nwX1_rest_in (by decide) nwX1_rest_f28 rfl rfl rfl ?_
            refine j_iload_n C dX1_rest_85 rfl rfl ?_
            refine jS_row C 3 8 40 (a9) dX1_rest_86 rfl rfl (by omega) ?_
            refine j_iload C dX1_rest_87 rfl ?_
            refine j_aload_n C dX1_rest_89 rfl rfl ?_
            refine j_get C 30 8 dX1_rest_90 nwX1_rest_in (by decide) nwX1_rest_f28 rfl rfl rfl ?_
            refine j_iload_n C dX1_rest_93 rfl rfl ?_
            refine jS_row C 33 8 40 (a9) dX1_rest_94 rfl rfl (by omega) ?_
            refine j_iload C dX1_rest_95 rfl ?_
            refine jS_jn C (sW _ _ _ _ _ _) (a9) (b) dX1_rest_97 rfl (by omega) (by omega) ?_
            refine jS_jnput C [] (a9) (b) dX1_rest_98 rfl (by omega) (by omega) (SV_jn I a9 b) ?_
            refine j_iinc C 0 [(4, _), (3, _), (2, _), (1, _), (0, _)] dX1_rest_99 rfl (nI_i1 b) (by decide) rfl ?_
            refine j_goto (tgt := 54) C dX1_rest_102 (by decide) ?_
            exact ih2 (b + 1) _ (by omega) (CP_b (by omega) hc (SV_st I a9 b) (SV_jn I a9 b))
      refine j_iload_n C dX1_rest_31 rfl rfl ?_
      refine j_aload_n C dX1_rest_32 rfl rfl ?_
      refine j_get C 30 0 dX1_rest_33 nwX1_rest_in (by decide) nwX1_rest_f49 rfl rfl rfl ?_
      refine j_icmp_ge (tgt := 111) C dX1_rest_36 (by decide) (fun c_36 => ?_) (fun c_36 => ?_)
      · exact absurd (by rw [SV_0 I] at c_36; exact c_36) (nI_ge (by omega) (by omega))
      · refine j_aload_n C dX1_rest_39 rfl rfl ?_
        refine j_get C 0 6 dX1_rest_40 nwX1_rest_in (by decide) nwX1_rest_f19 rfl rfl rfl ?_
        refine j_iload_n C dX1_rest_43 rfl rfl ?_
        refine j_aload_n C dX1_rest_44 rfl rfl ?_
        refine j_get C 30 6 dX1_rest_45 nwX1_rest_in (by decide) nwX1_rest_f19 rfl rfl rfl ?_
        refine j_iload_n C dX1_rest_48 rfl rfl ?_
        refine j_iald C 31 (a9) dX1_rest_49 rfl rfl (by omega) (by decide) ?_
        refine jS_iast C [] 1 6 (a9) dX1_rest_50 rfl rfl (by omega) (by decide) rfl ?_
        refine j_iconst (v := 0) C dX1_rest_51 (by decide) ?_
        refine j_istore C [(4, _), (3, _), (2, _), (1, _), (0, _)] dX1_rest_52 (by decide) rfl ?_
        exact lb nw 0 _ (Nat.zero_add _) (CP_l hc)
  refine j_new C dX1_rest_0 nwX1_rest_in nwX1_rest_k8 nwX1_rest_ins nwX1_rest_ini (by rw [R]; exact Nat.le_of_ble_eq_true rfl) (by rw [R]; exact Nat.le_of_ble_eq_true rfl) (fun b2 => ?_)
  refine j_dup C dX1_rest_3 rfl ?_
  refine j_callI C dX1_rest_4 (s_init hl (eG E) b2 _) gX1_rest_X1_init rfl nwX1_rest_ini nwX1_rest_lin nwX1_rest_iin rfl (Nat.le_of_ble_eq_true rfl) (by rw [R]; exact ⟨Nat.le_of_ble_eq_true rfl, Nat.le_of_ble_eq_true rfl⟩) (by rw [R]; exact ⟨Nat.le_of_ble_eq_true rfl, Nat.le_of_ble_eq_true rfl⟩) (fun v w' hq => ?_)
  obtain ⟨rfl, a2, rfl, rfl⟩ := hq
  show J E _ _ _ _ [.ref (a2 100)] _
  refine j_astore_n C [(2, _), (0, _), (1, _)] dX1_rest_7 rfl (by decide) rfl ?_
  refine j_aload_n C dX1_rest_8 rfl rfl ?_
  refine j_aload_n C dX1_rest_9 rfl rfl ?_
  refine j_get C 30 0 dX1_rest_10 nwX1_rest_in (by decide) nwX1_rest_f49 rfl rfl rfl ?_
  refine jS_put C [] 0 0 dX1_rest_13 nwX1_rest_in (by decide) nwX1_rest_f49 rfl rfl (by decide +kernel) rfl (Nat.le_of_ble_eq_true rfl) rfl ?_
  refine j_aload_n C dX1_rest_16 rfl rfl ?_
  refine j_aload_n C dX1_rest_17 rfl rfl ?_
  refine j_get C 30 1 dX1_rest_18 nwX1_rest_in (by decide) nwX1_rest_f7 rfl rfl rfl ?_
  refine jS_put C [] 0 1 dX1_rest_21 nwX1_rest_in (by decide) nwX1_rest_f7 rfl rfl (by decide +kernel) rfl (Nat.le_of_ble_eq_true rfl) rfl ?_
  refine j_aload_n C dX1_rest_24 rfl rfl ?_
  refine j_iconst (v := 0) C dX1_rest_25 (by decide) ?_
  refine jS_put C [] 0 2 dX1_rest_26 nwX1_rest_in (by decide) nwX1_rest_f13 rfl rfl (by decide +kernel) rfl (Nat.le_of_ble_eq_true rfl) rfl ?_
  refine j_iconst (v := 0) C dX1_rest_29 (by decide) ?_
  refine j_istore_n C [(3, _), (2, _), (0, _), (1, _)] dX1_rest_30 rfl (by decide) rfl ?_
  refine j_lv [0, 1, 3, 2] [(3, _), (2, _), (1, _), (0, _)] rfl ?_
  exact la a2 nw 0 zT (Nat.zero_add _) CP_0
