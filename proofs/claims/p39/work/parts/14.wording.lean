/-! the cheapest wording of the class -/
theorem fw_cong {A A' J J' : Nat → Int32} {nl : Nat} (hA : ∀ q, q < nl → A q = A' q) (hJ : ∀ q, q < nl → J q = J' q) : ∀ m, m ≤ nl → fw A J nl m = fw A' J' nl m := by
  intro m
  induction m with
  | zero => exact fun _ => rfl
  | succ m ih =>
    intro hm
    have e := ih (by omega)
    unfold fw
    rw [e, hA (nl - (m + 1)) (by omega), hJ (nl - (m + 1)) (by omega)]
def FX (σ : gS) (τ : gT) (nw nl m : Nat) : Int32 := (fw (LAx σ τ nw nl) (LJx σ τ nw nl) nl m).1
/-- which places are the second of a pair; what stands at a place, whether it is joined -/
def isSec (pr : Nat → Bool) : Nat → Bool
  | 0 => false
  | q + 1 => !isSec pr q && pr q
def cwd (pr : Nat → Bool) (S A B : Nat → Int32) (q : Nat) : Int32 := if isSec pr q = true then B (q - 1) else if pr q = true then A q else S q
def cjd (pr : Nat → Bool) (q : Nat) : Int32 := if isSec pr (q + 1) = true then 1 else 0
theorem cw_S {pr : Nat → Bool} {S A B : Nat → Int32} {p : Nat} (h1 : isSec pr p = false) (h2 : pr p = false) : cwd pr S A B p = S p ∧ cjd pr p = 0 ∧ isSec pr (p + 1) = false := by simp [cwd, cjd, isSec, h1, h2]
theorem cw_P {pr : Nat → Bool} {S A B : Nat → Int32} {p : Nat} (h1 : isSec pr p = false) (h2 : pr p = true) : cwd pr S A B p = A p ∧ cjd pr p = 1 ∧ cwd pr S A B (p + 1) = B p ∧ cjd pr (p + 1) = 0 ∧ isSec pr (p + 2) = false := by simp [cwd, cjd, isSec, h1, h2]
def bpx (σ : gS) (τ : gT) (nw nl p : Nat) : Int32 := (bp (σ 4) nw nl (τ 0) (τ 1) (τ 2) (τ 7) p nw).1
def Sx (σ : gS) (τ : gT) (nw nl p : Nat) : Int32 := (bw (σ 4) nl (τ 0) (τ 1) (τ 7) p nw).1
def Ax (σ : gS) (τ : gT) (nw nl p : Nat) : Int32 := bpx σ τ nw nl p / 100
def Bx (σ : gS) (τ : gT) (nw nl p : Nat) : Int32 := bpx σ τ nw nl p - bpx σ τ nw nl p / 100 * 100
def prx (σ : gS) (τ : gT) (nw nl p : Nat) : Bool := decide (¬ (bpx σ τ nw nl p = -1 ∨ LAx σ τ nw nl p + FX σ τ nw nl (nl - (p + 1)) = FX σ τ nw nl (nl - p)))
theorem bpx_s {σ : gS} {τ τ' : gT} {nw nl p : Nat} (h : XS τ τ') : bpx σ τ' nw nl p = bpx σ τ nw nl p := by
  unfold bpx
  rw [h 0 (by decide), h 1 (by decide), h 2 (by decide), h 7 (by decide)]
theorem Sx_s {σ : gS} {τ τ' : gT} {nw nl p : Nat} (h : XS τ τ') : Sx σ τ' nw nl p = Sx σ τ nw nl p := by
  unfold Sx
  rw [h 0 (by decide), h 1 (by decide), h 7 (by decide)]
def CH (σ : gS) (τ : gT) (nw nl p : Nat) (τ' : gT) : Prop := (∀ c, (c < 12 ∨ c = 14 ∨ 17 < c) → τ' c = τ c) ∧ (∀ q, q < nl → τ' 12 q = LAx σ τ nw nl q ∧ τ' 13 q = LJx σ τ nw nl q) ∧ (∀ q, q ≤ nl → τ' 15 q = FX σ τ nw nl (nl - q)) ∧ (∀ i, τ' 17 i = 0 ∨ τ' 17 i = 1) ∧
  ∀ q, q < p → τ' 16 q = cwd (prx σ τ nw nl) (Sx σ τ nw nl) (Ax σ τ nw nl) (Bx σ τ nw nl) q ∧ τ' 17 q = cjd (prx σ τ nw nl) q
theorem CH_xs {σ : gS} {τ τ' : gT} {nw nl p : Nat} (h : CH σ τ nw nl p τ') : XS τ τ' := fun c hc => h.1 c (by omega)
theorem CH_put {σ : gS} {τ τ' : gT} {nw nl p : Nat} {w x : Int32} (h : CH σ τ nw nl p τ') (hw : w = cwd (prx σ τ nw nl) (Sx σ τ nw nl) (Ax σ τ nw nl) (Bx σ τ nw nl) p) (hx : x = cjd (prx σ τ nw nl) p) : CH σ τ nw nl (p + 1) (uT (uT τ' 16 p w) 17 p x) := by
  obtain ⟨h1, h2, h3, h4, h5⟩ := h
  refine ⟨fun c hc => by rw [uT_ne (by omega), uT_ne (by omega), h1 c hc], fun q hq => by rw [uT_ne (by omega), uT_ne (by omega), uT_ne (by omega), uT_ne (by omega)]; exact h2 q hq, fun q hq => by rw [uT_ne (by omega), uT_ne (by omega)]; exact h3 q hq, fun i => ?_, fun q hq => ?_⟩
  · rw [uT_eq, uT_ne (show (17 : Nat) ≠ 16 by decide)]
    by_cases e : i = p
    · subst e
      rw [upd_eq, hx]
      unfold cjd
      split
      · exact Or.inr rfl
      · exact Or.inl rfl
    · rw [upd_ne e]
      exact h4 i
  · rw [uT_ne (show (16 : Nat) ≠ 17 by decide), uT_eq, uT_eq, uT_ne (show (17 : Nat) ≠ 16 by decide)]
    by_cases e : q = p
    · subst e
      rw [upd_eq, upd_eq]
      exact ⟨hw, hx⟩
    · rw [upd_ne e, upd_ne e]
      exact h5 q (by omega)
set_option maxRecDepth 100000 in
theorem mwX0_noteCheapestWording_inX : ∀ w ∈ wsX00, w ∈ wsX0_noteCheapestWording := by decide +kernel
set_option maxRecDepth 100000 in
theorem mwX0_noteCheapestWording_f39 : Cond.fieldLink RX0 39 "TelegraphPrices" "length" "I" ∈ wsX0_noteCheapestWording := by decide +kernel
set_option maxRecDepth 100000 in
theorem mwX0_noteCheapestWording_f48 : Cond.fieldLink RX0 48 "TelegraphPrices" "leastAlone" "[I" ∈ wsX0_noteCheapestWording := by decide +kernel
set_option maxRecDepth 100000 in
theorem mwX0_noteCheapestWording_f57 : Cond.fieldLink RX0 57 "TelegraphPrices" "leastFrom" "[I" ∈ wsX0_noteCheapestWording := by decide +kernel
set_option maxRecDepth 100000 in
theorem mwX0_noteCheapestWording_f51 : Cond.fieldLink RX0 51 "TelegraphPrices" "leastJoined" "[I" ∈ wsX0_noteCheapestWording := by decide +kernel
set_option maxHeartbeats 4000000 in
set_option maxRecDepth 100000 in
theorem c_noteWording {l : Launch} (hl : l.stackTraces = false) (Γ : gG) (σ : gS) (τ : gT) (o : gO) (nw nl lm : Nat) (I : IX σ τ nw nl lm) : Ct l yX0_noteCheapestWording wsX0_noteCheapestWording 5 160 0 0 [.ref (Γ.2.1 100)] Γ σ τ o (pV (fun σ' τ' o' => σ' = σ ∧ o' = o ∧ CH σ τ nw nl nl τ')) (noX) := by
  refine ct_of hl (by decide +kernel) rfl (Nat.le_of_ble_eq_true rfl) ?_
  intro E C F T hΓ hL R
  subst hΓ
  subst hL
  show G E 0 0 0 [(0, .ref ((eG E).2.1 100))] [] σ τ o
  have hnw := Iv_nw I
  have hnl := Iv_nl I
  have h3 : σ 3 = nI nw := Iv_h3 I
  have h9 : σ 9 = nI nl := Iv_h9 I
  have h4 : ¬ σ 4 = 0 := Iv_ne I
  have fin : ∀ τ' : gT, CH σ τ nw nl nl τ' → G E (0 + 0 + 0) (0 + 0 + 0) 15 [(1, .int (nI nl)), (0, .ref ((eG E).2.1 100))] [] σ τ' o := by
    intro τ' hN
    refine g_iload_n C dX0_noteCheapestWording_15 rfl rfl ?_
    refine g_aload_n C dX0_noteCheapestWording_16 rfl rfl ?_
    refine g_getX C 9 dX0_noteCheapestWording_17 mwX0_noteCheapestWording_inX (by decide) mwX0_noteCheapestWording_f39 rfl rfl ?_
    refine g_icmp_ge (tgt := 103) C dX0_noteCheapestWording_20 (by decide) (fun c_20 => ?_) (fun c_20 => ?_)
    · exact g_vret C F dX0_noteCheapestWording_103 (by decide) (by decide) ⟨rfl, rfl, rfl, hN⟩
    · exact absurd (by rw [h9]; exact i_rf _) c_20
  have loop : ∀ m p : Nat, ∀ τ' : gT, p ≤ nl → nl - p ≤ m → isSec (prx σ τ nw nl) p = false → CH σ τ nw nl p τ' → G E (0 + 0 + 0) (0 + 0 + 0) 15 [(1, .int (nI p)), (0, .ref ((eG E).2.1 100))] [] σ τ' o := by
    intro m
    induction m with
    | zero =>
      intro p τ' hp hm hs hN
      have e : p = nl := by omega
      subst e
      exact fin τ' hN
    | succ m ih =>
      intro p τ' hp hm hs hN
      rcases Nat.lt_or_ge p nl with hpl | hpl
      rotate_left
      · have e : p = nl := by omega
        subst e
        exact fin τ' hN
      have I1 : IX σ τ' nw nl lm := IX_cong I (CH_xs hN) hN.2.2.2.1
      refine g_iload_n C dX0_noteCheapestWording_15 rfl rfl ?_
      refine g_aload_n C dX0_noteCheapestWording_16 rfl rfl ?_
      refine g_getX C 9 dX0_noteCheapestWording_17 mwX0_noteCheapestWording_inX (by decide) mwX0_noteCheapestWording_f39 rfl rfl ?_
      refine g_icmp_ge (tgt := 103) C dX0_noteCheapestWording_20 (by decide) (fun c_20 => ?_) (fun c_20 => ?_)
      · exact absurd (by rw [h9] at c_20; exact c_20) (nI_ge (by omega) (by omega))
      · refine g_aload_n C dX0_noteCheapestWording_23 rfl rfl ?_
        refine g_iload_n C dX0_noteCheapestWording_24 rfl rfl ?_
        refine g_callVEi (Cl := RX0) (T := TX0) (N := 18) (ci := 0) (q0 := 0) (na := 1) C dX0_noteCheapestWording_25 (c_bestPairAt hl (eG E) σ τ' o nw nl lm p I1 hpl) gX0_noteCheapestWording_X0_bestPairAt rfl rfl (by decide +kernel) rfl rfl rfl (Nat.le_of_ble_eq_true rfl) (by rw [R]; exact ⟨by decide, by decide⟩) (by rw [R]; exact ⟨by decide, by decide⟩) ?_
        refine g_topi (show _ = bpx σ τ nw nl p from bpx_s (CH_xs hN)) ?_
        refine g_istore_n C [(2, _), (1, _), (0, _)] dX0_noteCheapestWording_28 rfl (by decide) rfl ?_
        refine g_iload_n C dX0_noteCheapestWording_29 rfl rfl ?_
        refine g_iconst (v := (-1)) C dX0_noteCheapestWording_30 (by decide) ?_
        refine g_icmp_eq (tgt := 58) C dX0_noteCheapestWording_31 (by decide) (fun c_31 => ?_) (fun c_31 => ?_)
        · have hpr : prx σ τ nw nl p = false := decide_eq_false (fun z => z (Or.inl c_31))
          refine g_aload_n C dX0_noteCheapestWording_58 rfl rfl ?_
          refine g_iload_n C dX0_noteCheapestWording_59 rfl rfl ?_
          refine g_aload_n C dX0_noteCheapestWording_60 rfl rfl ?_
          refine g_iload_n C dX0_noteCheapestWording_61 rfl rfl ?_
          refine g_callVEi (Cl := RX0) (T := TX0) (N := 18) (ci := 0) (q0 := 0) (na := 1) C dX0_noteCheapestWording_62 (c_bestWordAt hl (eG E) σ τ' o nw nl lm p I1 hpl) gX0_noteCheapestWording_X0_bestWordAt rfl rfl (by decide +kernel) rfl rfl rfl (Nat.le_of_ble_eq_true rfl) (by rw [R]; exact ⟨by decide, by decide⟩) (by rw [R]; exact ⟨by decide, by decide⟩) ?_
          refine g_topi (show _ = Sx σ τ nw nl p from Sx_s (CH_xs hN)) ?_
          refine g_iconst (v := 0) C dX0_noteCheapestWording_65 (by decide) ?_
          refine g_callVEv (Cl := RX0) (T := TX0) (N := 18) (ci := 0) (q0 := 0) (na := 3) C dX0_noteCheapestWording_66 (c_noteAt hl (eG E) σ τ' o p (Sx σ τ nw nl p) 0 (by omega) (Or.inl rfl)) gX0_noteCheapestWording_X0_noteCheapestAt rfl rfl (by decide +kernel) rfl rfl rfl (Nat.le_of_ble_eq_true rfl) (by rw [R]; exact ⟨by decide, by decide⟩) (by rw [R]; exact ⟨by decide, by decide⟩) ?_
          refine g_iinc C 1 [(1, _), (2, _), (0, _)] dX0_noteCheapestWording_69 rfl (nI_i1 p) (by decide) rfl ?_
          refine g_goto (tgt := 100) C dX0_noteCheapestWording_72 (by decide) ?_
          refine g_goto (tgt := 15) C dX0_noteCheapestWording_100 (by decide) ?_
          refine g_lv [0, 2] [(1, _), (0, _)] rfl ?_
          obtain ⟨g1, g2, g3⟩ := cw_S (S := Sx σ τ nw nl) (A := Ax σ τ nw nl) (B := Bx σ τ nw nl) hs hpr
          exact ih (p + 1) _ (by omega) (by omega) g3 (CH_put hN g1.symm g2.symm)
        · refine g_aload_n C dX0_noteCheapestWording_34 rfl rfl ?_
          refine g_getX C 12 dX0_noteCheapestWording_35 mwX0_noteCheapestWording_inX (by decide) mwX0_noteCheapestWording_f48 rfl rfl ?_
          refine g_iload_n C dX0_noteCheapestWording_38 rfl rfl ?_
          refine g_ialdN C (p) dX0_noteCheapestWording_39 rfl rfl (show p < 16 by omega) (by decide) ?_
          refine g_aload_n C dX0_noteCheapestWording_40 rfl rfl ?_
          refine g_getX C 15 dX0_noteCheapestWording_41 mwX0_noteCheapestWording_inX (by decide) mwX0_noteCheapestWording_f57 rfl rfl ?_
          refine g_iload_n C dX0_noteCheapestWording_44 rfl rfl ?_
          refine g_iconst (v := 1) C dX0_noteCheapestWording_45 (by decide) ?_
          refine g_iadd C dX0_noteCheapestWording_46 ?_
          refine g_ialdN C (p + 1) dX0_noteCheapestWording_47 rfl (nI_1 p) (show p + 1 < 18 by omega) (by decide) ?_
          refine g_iadd C dX0_noteCheapestWording_48 ?_
          refine g_aload_n C dX0_noteCheapestWording_49 rfl rfl ?_
          refine g_getX C 15 dX0_noteCheapestWording_50 mwX0_noteCheapestWording_inX (by decide) mwX0_noteCheapestWording_f57 rfl rfl ?_
          refine g_iload_n C dX0_noteCheapestWording_53 rfl rfl ?_
          refine g_ialdN C (p) dX0_noteCheapestWording_54 rfl rfl (show p < 18 by omega) (by decide) ?_
          rw [(hN.2.1 p hpl).1, hN.2.2.1 (p + 1) (by omega), hN.2.2.1 p hp]
          refine g_icmp_ne (tgt := 75) C dX0_noteCheapestWording_55 (by decide) (fun c_55 => ?_) (fun c_55 => ?_)
          · have hpr : prx σ τ nw nl p = true := decide_eq_true (fun z => z.elim c_31 c_55)
            obtain ⟨g1, g2, g3, g4, g5⟩ := cw_P (S := Sx σ τ nw nl) (A := Ax σ τ nw nl) (B := Bx σ τ nw nl) hs hpr
            have hp1 : p + 1 < nl := by
              rcases bp_fin (p := p) (J := τ 2) I with ⟨-, e⟩ | ⟨a, b, -, -, hq, -⟩
              · exact absurd (by unfold bpx; rw [e]) c_31
              · have z := hq.2.1
                unfold mh at z
                by_cases y : p + 1 < nl
                · exact y
                · rw [if_neg y] at z; exact absurd rfl z
            refine g_aload_n C dX0_noteCheapestWording_75 rfl rfl ?_
            refine g_iload_n C dX0_noteCheapestWording_76 rfl rfl ?_
            refine g_iload_n C dX0_noteCheapestWording_77 rfl rfl ?_
            refine g_bipush (v := 100) C dX0_noteCheapestWording_78 (by decide) ?_
            refine g_idiv C dX0_noteCheapestWording_80 (by decide) ?_
            refine g_iconst (v := 1) C dX0_noteCheapestWording_81 (by decide) ?_
            refine g_callVEv (Cl := RX0) (T := TX0) (N := 18) (ci := 0) (q0 := 0) (na := 3) C dX0_noteCheapestWording_82 (c_noteAt hl (eG E) σ τ' o p (Ax σ τ nw nl p) 1 (by omega) (Or.inr rfl)) gX0_noteCheapestWording_X0_noteCheapestAt rfl rfl (by decide +kernel) rfl rfl rfl (Nat.le_of_ble_eq_true rfl) (by rw [R]; exact ⟨by decide, by decide⟩) (by rw [R]; exact ⟨by decide, by decide⟩) ?_
            refine g_aload_n C dX0_noteCheapestWording_85 rfl rfl ?_
            refine g_iload_n C dX0_noteCheapestWording_86 rfl rfl ?_
            refine g_iconst (v := 1) C dX0_noteCheapestWording_87 (by decide) ?_
            refine g_iadd C dX0_noteCheapestWording_88 ?_
            refine g_topi (nI_1 p) ?_
            refine g_iload_n C dX0_noteCheapestWording_89 rfl rfl ?_
            refine g_bipush (v := 100) C dX0_noteCheapestWording_90 (by decide) ?_
            refine g_irem C dX0_noteCheapestWording_92 (by decide) ?_
            refine g_iconst (v := 0) C dX0_noteCheapestWording_93 (by decide) ?_
            refine g_callVEv (Cl := RX0) (T := TX0) (N := 18) (ci := 0) (q0 := 0) (na := 3) C dX0_noteCheapestWording_94 (c_noteAt hl (eG E) σ (uT (uT τ' 16 p (Ax σ τ nw nl p)) 17 p 1) o (p + 1) (Bx σ τ nw nl p) 0 (by omega) (Or.inl rfl)) gX0_noteCheapestWording_X0_noteCheapestAt rfl rfl (by decide +kernel) rfl rfl rfl (Nat.le_of_ble_eq_true rfl) (by rw [R]; exact ⟨by decide, by decide⟩) (by rw [R]; exact ⟨by decide, by decide⟩) ?_
            refine g_iinc C 1 [(1, _), (2, _), (0, _)] dX0_noteCheapestWording_97 rfl (nI_i2 p) (by decide) rfl ?_
            refine g_goto (tgt := 15) C dX0_noteCheapestWording_100 (by decide) ?_
            refine g_lv [0, 2] [(1, _), (0, _)] rfl ?_
            exact ih (p + 2) _ (by omega) (by omega) g5 (CH_put (CH_put hN g1.symm g2.symm) g3.symm g4.symm)
          · have hpr : prx σ τ nw nl p = false := decide_eq_false (fun z => z (Or.inr c_55))
            refine g_aload_n C dX0_noteCheapestWording_58 rfl rfl ?_
            refine g_iload_n C dX0_noteCheapestWording_59 rfl rfl ?_
            refine g_aload_n C dX0_noteCheapestWording_60 rfl rfl ?_
            refine g_iload_n C dX0_noteCheapestWording_61 rfl rfl ?_
            refine g_callVEi (Cl := RX0) (T := TX0) (N := 18) (ci := 0) (q0 := 0) (na := 1) C dX0_noteCheapestWording_62 (c_bestWordAt hl (eG E) σ τ' o nw nl lm p I1 hpl) gX0_noteCheapestWording_X0_bestWordAt rfl rfl (by decide +kernel) rfl rfl rfl (Nat.le_of_ble_eq_true rfl) (by rw [R]; exact ⟨by decide, by decide⟩) (by rw [R]; exact ⟨by decide, by decide⟩) ?_
            refine g_topi (show _ = Sx σ τ nw nl p from Sx_s (CH_xs hN)) ?_
            refine g_iconst (v := 0) C dX0_noteCheapestWording_65 (by decide) ?_
            refine g_callVEv (Cl := RX0) (T := TX0) (N := 18) (ci := 0) (q0 := 0) (na := 3) C dX0_noteCheapestWording_66 (c_noteAt hl (eG E) σ τ' o p (Sx σ τ nw nl p) 0 (by omega) (Or.inl rfl)) gX0_noteCheapestWording_X0_noteCheapestAt rfl rfl (by decide +kernel) rfl rfl rfl (Nat.le_of_ble_eq_true rfl) (by rw [R]; exact ⟨by decide, by decide⟩) (by rw [R]; exact ⟨by decide, by decide⟩) ?_
            refine g_iinc C 1 [(1, _), (2, _), (0, _)] dX0_noteCheapestWording_69 rfl (nI_i1 p) (by decide) rfl ?_
            refine g_goto (tgt := 100) C dX0_noteCheapestWording_72 (by decide) ?_
            refine g_goto (tgt := 15) C dX0_noteCheapestWording_100 (by decide) ?_
            refine g_lv [0, 2] [(1, _), (0, _)] rfl ?_
            obtain ⟨g1, g2, g3⟩ := cw_S (S := Sx σ τ nw nl) (A := Ax σ τ nw nl) (B := Bx σ τ nw nl) hs hpr
            exact ih (p + 1) _ (by omega) (by omega) g3 (CH_put hN g1.symm g2.symm)
  refine g_aload_n C dX0_noteCheapestWording_0 rfl rfl ?_
  refine g_callVv (Cl := RX0) (T := TX0) (N := 18) (ci := 0) (q0 := 0) (na := 0) C dX0_noteCheapestWording_1 (c_noteLeast hl (eG E) σ τ o nw nl lm I) gX0_noteCheapestWording_X0_noteLeastCounts rfl rfl (by decide +kernel) rfl rfl rfl (Nat.le_of_ble_eq_true rfl) (by rw [R]; exact ⟨by decide, by decide⟩) (by rw [R]; exact ⟨by decide, by decide⟩) noX_kx (fun σ1 τ1 o1 hN1 => ?_)
  obtain ⟨e1, e2, hN⟩ := hN1
  rw [e1, e2]
  refine g_aload_n C dX0_noteCheapestWording_4 rfl rfl ?_
  refine g_aload_n C dX0_noteCheapestWording_5 rfl rfl ?_
  refine g_getX C 13 dX0_noteCheapestWording_6 mwX0_noteCheapestWording_inX (by decide) mwX0_noteCheapestWording_f51 rfl rfl ?_
  refine g_callVi (Cl := RX0) (T := TX0) (N := 18) (ci := 0) (q0 := 0) (na := 1) C dX0_noteCheapestWording_9 (c_leastInJ hl (eG E) σ τ1 o nl h9 hnl) gX0_noteCheapestWording_X0_leastInAll rfl rfl (by decide +kernel) rfl rfl rfl (Nat.le_of_ble_eq_true rfl) (by rw [R]; exact ⟨by decide, by decide⟩) (by rw [R]; exact ⟨by decide, by decide⟩) noX_kx (fun r2 σ2 τ2 o2 hN2 => ?_)
  obtain ⟨-, e3, e4, e5, e6⟩ := hN2
  rw [e3, e4]
  refine g_pop C dX0_noteCheapestWording_12 rfl ?_
  refine g_iconst (v := 0) C dX0_noteCheapestWording_13 (by decide) ?_
  refine g_istore_n C [(1, _), (0, _)] dX0_noteCheapestWording_14 rfl (by decide) rfl ?_
  refine loop nl 0 τ2 (Nat.zero_le _) (by omega) rfl ⟨fun c hc => by rw [e5 c (by omega), hN.1 c (by omega) (by omega)], fun q hq => by rw [e5 12 (by decide), e5 13 (by decide)]; exact hN.2 q hq, fun q hq => ?_, fun i => by rw [e5 17 (by decide), hN.1 17 (by decide) (by decide)]; exact Iv_cj I i, fun q hq => absurd hq (Nat.not_lt_zero q)⟩
  rw [e6 q hq, fw_cong (fun q hq => (hN.2 q hq).1) (fun q hq => (hN.2 q hq).2) (nl - q) (by omega)]
  rfl
set_option maxRecDepth 100000 in
theorem mwX0_cheapestCount_inX : ∀ w ∈ wsX00, w ∈ wsX0_cheapestCount := by decide +kernel
set_option maxRecDepth 100000 in
theorem mwX0_cheapestCount_f51 : Cond.fieldLink RX0 51 "TelegraphPrices" "leastJoined" "[I" ∈ wsX0_cheapestCount := by decide +kernel
set_option maxHeartbeats 4000000 in
set_option maxRecDepth 100000 in
theorem c_cheapestCount {l : Launch} (hl : l.stackTraces = false) (Γ : gG) (σ : gS) (τ : gT) (o : gO) (nw nl lm : Nat) (I : IX σ τ nw nl lm) : Ct l yX0_cheapestCount wsX0_cheapestCount 5 160 0 0 [.ref (Γ.2.1 100)] Γ σ τ o (pI (fun r σ' τ' o' => r = al nl (σ 5) (FX σ τ nw nl nl) ∧ σ' = σ ∧ o' = o ∧ (∀ c, c ≠ 12 → c ≠ 13 → c ≠ 15 → τ' c = τ c) ∧ ∀ q, q < nl → τ' 12 q = LAx σ τ nw nl q ∧ τ' 13 q = LJx σ τ nw nl q)) (noX) := by
  refine ct_of hl (by decide +kernel) rfl (Nat.le_of_ble_eq_true rfl) ?_
  intro E C F T hΓ hL R
  subst hΓ
  subst hL
  show G E 0 0 0 [(0, .ref ((eG E).2.1 100))] [] σ τ o
  have hnw := Iv_nw I
  have hnl := Iv_nl I
  have h3 : σ 3 = nI nw := Iv_h3 I
  have h9 : σ 9 = nI nl := Iv_h9 I
  have h4 : ¬ σ 4 = 0 := Iv_ne I
  refine g_aload_n C dX0_cheapestCount_0 rfl rfl ?_
  refine g_callVv (Cl := RX0) (T := TX0) (N := 18) (ci := 0) (q0 := 0) (na := 0) C dX0_cheapestCount_1 (c_noteLeast hl (eG E) σ τ o nw nl lm I) gX0_cheapestCount_X0_noteLeastCounts rfl rfl (by decide +kernel) rfl rfl rfl (Nat.le_of_ble_eq_true rfl) (by rw [R]; exact ⟨by decide, by decide⟩) (by rw [R]; exact ⟨by decide, by decide⟩) noX_kx (fun σ1 τ1 o1 hN1 => ?_)
  obtain ⟨e1, e2, hN⟩ := hN1
  rw [e1, e2]
  refine g_aload_n C dX0_cheapestCount_4 rfl rfl ?_
  refine g_aload_n C dX0_cheapestCount_5 rfl rfl ?_
  refine g_aload_n C dX0_cheapestCount_6 rfl rfl ?_
  refine g_getX C 13 dX0_cheapestCount_7 mwX0_cheapestCount_inX (by decide) mwX0_cheapestCount_f51 rfl rfl ?_
  refine g_callVi (Cl := RX0) (T := TX0) (N := 18) (ci := 0) (q0 := 0) (na := 1) C dX0_cheapestCount_10 (c_leastInJ hl (eG E) σ τ1 o nl h9 hnl) gX0_cheapestCount_X0_leastInAll rfl rfl (by decide +kernel) rfl rfl rfl (Nat.le_of_ble_eq_true rfl) (by rw [R]; exact ⟨by decide, by decide⟩) (by rw [R]; exact ⟨by decide, by decide⟩) noX_kx (fun r2 σ2 τ2 o2 hN2 => ?_)
  obtain ⟨e7, e3, e4, e5, e6⟩ := hN2
  rw [e3, e4]
  refine g_topi (y := FX σ τ nw nl nl) (by rw [e7, fw_cong (fun q hq => (hN.2 q hq).1) (fun q hq => (hN.2 q hq).2) (nl - 0) (by omega)]; rfl) ?_
  refine g_callVEi (Cl := RX0) (T := TX0) (N := 18) (ci := 0) (q0 := 0) (na := 1) C dX0_cheapestCount_13 (c_alc hl (eG E) σ τ2 o nl _ h9 hnl) gX0_cheapestCount_X0_atLeastTheLeastCount rfl rfl (by decide +kernel) rfl rfl rfl (Nat.le_of_ble_eq_true rfl) (by rw [R]; exact ⟨by decide, by decide⟩) (by rw [R]; exact ⟨by decide, by decide⟩) ?_
  exact g_iret C F dX0_cheapestCount_16 (by decide) (by decide) ⟨_, rfl, rfl, rfl, rfl, fun c h1 h2 h3 => by rw [e5 c h3, hN.1 c h1 h2], fun q hq => by rw [e5 12 (by decide), e5 13 (by decide)]; exact hN.2 q hq⟩
/-- the row with a join more: does the pair fit at the place -/
def ft (nl : Nat) (S Tg : Nat → Int32) (a b p : Nat) : Prop := mh nl S Tg p (nI a) ≠ 0 ∧ mh nl S Tg (p + 1) (nI b) ≠ 0
def mn (x y : Int32) : Int32 := if x < y then x else y
noncomputable def LTx (σ : gS) (τ : gT) (nw nl a b p : Nat) : Int32 := haveI := Classical.propDecidable; if ft nl (τ 1) (τ 7) a b p then mn (cn (σ 4) (τ 0 a + τ 0 b)) (LJx σ τ nw nl p) else LJx σ τ nw nl p
theorem LTx_y {σ : gS} {τ : gT} {nw nl a b p : Nat} (h : ft nl (τ 1) (τ 7) a b p) : LTx σ τ nw nl a b p = (if cn (σ 4) (τ 0 a + τ 0 b) < LJx σ τ nw nl p then cn (σ 4) (τ 0 a + τ 0 b) else LJx σ τ nw nl p) := by
  unfold LTx
  rw [if_pos h]
  rfl
theorem LTx_n {σ : gS} {τ : gT} {nw nl a b p : Nat} (h : ¬ ft nl (τ 1) (τ 7) a b p) : LTx σ τ nw nl a b p = LJx σ τ nw nl p := by
  unfold LTx
  rw [if_neg h]
noncomputable def FT (σ : gS) (τ : gT) (nw nl a b : Nat) : Int32 := (fw (LAx σ τ nw nl) (LTx σ τ nw nl a b) nl nl).1
/-- the search's rows 12, 13 are noted; 14 up to p -/
def TR (σ : gS) (τ : gT) (nw nl a b p : Nat) (τ' : gT) : Prop := (∀ c, c ≠ 12 → c ≠ 13 → c ≠ 14 → c ≠ 15 → τ' c = τ c) ∧ (∀ q, q < nl → τ' 12 q = LAx σ τ nw nl q ∧ τ' 13 q = LJx σ τ nw nl q) ∧ ∀ q, q < p → τ' 14 q = LTx σ τ nw nl a b q
theorem TR_put {σ : gS} {τ τ' : gT} {nw nl a b p : Nat} {x : Int32} (h : TR σ τ nw nl a b p τ') (hx : x = LTx σ τ nw nl a b p) : TR σ τ nw nl a b (p + 1) (uT τ' 14 p x) := by
  obtain ⟨h1, h2, h3⟩ := h
  refine ⟨fun c c1 c2 c3 c4 => by rw [uT_ne c3, h1 c c1 c2 c3 c4], fun q hq => by rw [uT_ne (by decide), uT_ne (by decide)]; exact h2 q hq, fun q hq => ?_⟩
  rw [uT_eq]
  by_cases e : q = p
  · subst e
    rw [upd_eq, hx]
  · rw [upd_ne e]
    exact h3 q (by omega)
theorem TR_xs {σ : gS} {τ τ' : gT} {nw nl a b p : Nat} (h : TR σ τ nw nl a b p τ') : XS τ τ' := fun c hc => h.1 c (by omega) (by omega) (by omega) (by omega)