/-! the class's leaves: contracts -/
/-- hasBit -/
def hb (x y : Int32) : Int32 := if (x >>> (y &&& 31)) &&& 1 = 1 then 1 else 0
theorem hb_01 (x y : Int32) : hb x y = 0 ∨ hb x y = 1 := by unfold hb; split <;> simp
/-- countOfLetters -/
def cn (lm L : Int32) : Int32 := (L + lm - 1) / lm
/-- mayHold -/
def mh (nl : Nat) (S Tg : Nat → Int32) (p : Nat) (w : Int32) : Int32 := if p < nl then hb (S (Tg p).toNatClampNeg) w else 0
/-- the least count, where there is a word -/
def al (nl : Nat) (lc x : Int32) : Int32 := if nl = 0 then 0 else if x < lc then lc else x
set_option maxHeartbeats 4000000 in
set_option maxRecDepth 100000 in
theorem c_hasBit {l : Launch} (hl : l.stackTraces = false) (Γ : gG) (σ : gS) (τ : gT) (o : gO) (x y : Int32) : Ct l yX0_hasBit wsX0_hasBit 1 32 0 0 [.int x, .int y] Γ σ τ o (pE (some (.int (hb x y))) σ τ o) (noX) := by
  refine ct_of hl (by decide +kernel) rfl (Nat.le_of_ble_eq_true rfl) ?_
  intro E C F T hΓ hL R
  subst hΓ
  subst hL
  show G E 0 0 0 [(0, .int x), (1, .int y)] [] σ τ o
  refine g_iload_n C dX0_hasBit_0 rfl rfl ?_
  refine g_iload_n C dX0_hasBit_1 rfl rfl ?_
  refine g_ishr C dX0_hasBit_2 ?_
  refine g_iconst (v := 1) C dX0_hasBit_3 (by decide) ?_
  refine g_iand C dX0_hasBit_4 ?_
  refine g_iconst (v := 1) C dX0_hasBit_5 (by decide) ?_
  refine g_icmp_ne (tgt := 13) C dX0_hasBit_6 (by decide) (fun c_6 => ?_) (fun c_6 => ?_)
  · have e : hb x y = 0 := by simp [hb, c_6]
    refine g_iconst (v := 0) C dX0_hasBit_13 (by decide) ?_
    exact g_zret C F dX0_hasBit_14 (by first | exact Or.inl rfl | exact Or.inr rfl) (by decide) (by decide) ⟨by rw [e], rfl, rfl, rfl⟩
  · have e : hb x y = 1 := by simp [hb, c_6]
    refine g_iconst (v := 1) C dX0_hasBit_9 (by decide) ?_
    refine g_goto (tgt := 14) C dX0_hasBit_10 (by decide) ?_
    exact g_zret C F dX0_hasBit_14 (by first | exact Or.inl rfl | exact Or.inr rfl) (by decide) (by decide) ⟨by rw [e], rfl, rfl, rfl⟩
set_option maxRecDepth 100000 in
theorem mwX0_countOfLetters_inX : ∀ w ∈ wsX00, w ∈ wsX0_countOfLetters := by decide +kernel
set_option maxRecDepth 100000 in
theorem mwX0_countOfLetters_f23 : Cond.fieldLink RX0 23 "TelegraphPrices" "limit" "I" ∈ wsX0_countOfLetters := by decide +kernel
set_option maxHeartbeats 4000000 in
set_option maxRecDepth 100000 in
theorem c_cnt {l : Launch} (hl : l.stackTraces = false) (Γ : gG) (σ : gS) (τ : gT) (o : gO) (x : Int32) (h4 : ¬ σ 4 = 0) : Ct l yX0_countOfLetters wsX0_countOfLetters 1 32 0 0 [.ref (Γ.2.1 100), .int x] Γ σ τ o (pE (some (.int (cn (σ 4) x))) σ τ o) (noX) := by
  refine ct_of hl (by decide +kernel) rfl (Nat.le_of_ble_eq_true rfl) ?_
  intro E C F T hΓ hL R
  subst hΓ
  subst hL
  show G E 0 0 0 [(0, .ref ((eG E).2.1 100)), (1, .int x)] [] σ τ o
  refine g_iload_n C dX0_countOfLetters_0 rfl rfl ?_
  refine g_aload_n C dX0_countOfLetters_1 rfl rfl ?_
  refine g_getX C 4 dX0_countOfLetters_2 mwX0_countOfLetters_inX (by decide) mwX0_countOfLetters_f23 rfl rfl ?_
  refine g_iadd C dX0_countOfLetters_5 ?_
  refine g_iconst (v := 1) C dX0_countOfLetters_6 (by decide) ?_
  refine g_isub C dX0_countOfLetters_7 ?_
  refine g_aload_n C dX0_countOfLetters_8 rfl rfl ?_
  refine g_getX C 4 dX0_countOfLetters_9 mwX0_countOfLetters_inX (by decide) mwX0_countOfLetters_f23 rfl rfl ?_
  refine g_idiv C dX0_countOfLetters_12 h4 ?_
  exact g_iret C F dX0_countOfLetters_13 (by decide) (by decide) ⟨rfl, rfl, rfl, rfl⟩
set_option maxRecDepth 100000 in
theorem mwX0_countOfPair_inX : ∀ w ∈ wsX00, w ∈ wsX0_countOfPair := by decide +kernel
set_option maxRecDepth 100000 in
theorem mwX0_countOfPair_f9 : Cond.fieldLink RX0 9 "TelegraphPrices" "letters" "[I" ∈ wsX0_countOfPair := by decide +kernel
set_option maxHeartbeats 4000000 in
set_option maxRecDepth 100000 in
theorem c_cntPair {l : Launch} (hl : l.stackTraces = false) (Γ : gG) (σ : gS) (τ : gT) (o : gO) (x y : Int32) (h4 : ¬ σ 4 = 0) (hx : vp_in x 12) (hy : vp_in y 12) : Ct l yX0_countOfPair wsX0_countOfPair 2 64 0 0 [.ref (Γ.2.1 100), .int x, .int y] Γ σ τ o (pE (some (.int (cn (σ 4) (τ 0 x.toNatClampNeg + τ 0 y.toNatClampNeg)))) σ τ o) (noX) := by
  refine ct_of hl (by decide +kernel) rfl (Nat.le_of_ble_eq_true rfl) ?_
  intro E C F T hΓ hL R
  subst hΓ
  subst hL
  show G E 0 0 0 [(0, .ref ((eG E).2.1 100)), (1, .int x), (2, .int y)] [] σ τ o
  refine g_aload_n C dX0_countOfPair_0 rfl rfl ?_
  refine g_aload_n C dX0_countOfPair_1 rfl rfl ?_
  refine g_getX C 0 dX0_countOfPair_2 mwX0_countOfPair_inX (by decide) mwX0_countOfPair_f9 rfl rfl ?_
  refine g_iload_n C dX0_countOfPair_5 rfl rfl ?_
  refine g_iald C dX0_countOfPair_6 rfl hx ?_
  refine g_aload_n C dX0_countOfPair_7 rfl rfl ?_
  refine g_getX C 0 dX0_countOfPair_8 mwX0_countOfPair_inX (by decide) mwX0_countOfPair_f9 rfl rfl ?_
  refine g_iload_n C dX0_countOfPair_11 rfl rfl ?_
  refine g_iald C dX0_countOfPair_12 rfl hy ?_
  refine g_iadd C dX0_countOfPair_13 ?_
  refine g_callVEi (Cl := RX0) (T := TX0) (N := 18) (ci := 0) (q0 := 0) (na := 1) C dX0_countOfPair_14 (c_cnt hl (eG E) σ τ o _ h4) gX0_countOfPair_X0_countOfLetters rfl rfl (by decide +kernel) rfl rfl rfl (Nat.le_of_ble_eq_true rfl) (by rw [R]; exact ⟨by decide, by decide⟩) (by rw [R]; exact ⟨by decide, by decide⟩) ?_
  exact g_iret C F dX0_countOfPair_17 (by decide) (by decide) ⟨rfl, rfl, rfl, rfl⟩
set_option maxRecDepth 100000 in
theorem mwX0_atLeastTheLeastCount_inX : ∀ w ∈ wsX00, w ∈ wsX0_atLeastTheLeastCount := by decide +kernel
set_option maxRecDepth 100000 in
theorem mwX0_atLeastTheLeastCount_f39 : Cond.fieldLink RX0 39 "TelegraphPrices" "length" "I" ∈ wsX0_atLeastTheLeastCount := by decide +kernel
set_option maxRecDepth 100000 in
theorem mwX0_atLeastTheLeastCount_f26 : Cond.fieldLink RX0 26 "TelegraphPrices" "leastCount" "I" ∈ wsX0_atLeastTheLeastCount := by decide +kernel
set_option maxRecDepth 100000 in
theorem mwX0_atLeastTheLeastCount_l175 : Cond.methodLink RX0 175 Lib.Math.max.name ∈ wsX0_atLeastTheLeastCount := by decide +kernel
set_option maxRecDepth 100000 in
theorem mwX0_atLeastTheLeastCount_smax : Cond.static Lib.Math.max.name ∈ wsX0_atLeastTheLeastCount := by decide +kernel
set_option maxRecDepth 100000 in
theorem mwX0_atLeastTheLeastCount_iMath : Cond.initialized "java/lang/Math" ∈ wsX0_atLeastTheLeastCount := by decide +kernel
set_option maxRecDepth 100000 in
theorem mwX0_atLeastTheLeastCount_kmax : Cond.code Lib.Math.max.name Lib.Math.max.code 2 (some .int) ∈ wsX0_atLeastTheLeastCount := by decide +kernel
set_option maxHeartbeats 4000000 in
set_option maxRecDepth 100000 in
theorem c_alc {l : Launch} (hl : l.stackTraces = false) (Γ : gG) (σ : gS) (τ : gT) (o : gO) (nl : Nat) (x : Int32) (h9 : σ 9 = nI nl) (hn : nl ≤ 16) : Ct l yX0_atLeastTheLeastCount wsX0_atLeastTheLeastCount 1 32 0 0 [.ref (Γ.2.1 100), .int x] Γ σ τ o (pE (some (.int (al nl (σ 5) x))) σ τ o) (noX) := by
  refine ct_of hl (by decide +kernel) rfl (Nat.le_of_ble_eq_true rfl) ?_
  intro E C F T hΓ hL R
  subst hΓ
  subst hL
  show G E 0 0 0 [(0, .ref ((eG E).2.1 100)), (1, .int x)] [] σ τ o
  refine g_aload_n C dX0_atLeastTheLeastCount_0 rfl rfl ?_
  refine g_getX C 9 dX0_atLeastTheLeastCount_1 mwX0_atLeastTheLeastCount_inX (by decide) mwX0_atLeastTheLeastCount_f39 rfl rfl ?_
  refine g_if_ne (tgt := 11) C dX0_atLeastTheLeastCount_4 (by decide) (fun c_4 => ?_) (fun c_4 => ?_)
  · have e : al nl (σ 5) x = (if x < σ 5 then σ 5 else x) := by
      unfold al
      rw [if_neg (fun z => c_4 (by rw [h9, z]; rfl))]
    refine g_iload_n C dX0_atLeastTheLeastCount_11 rfl rfl ?_
    refine g_aload_n C dX0_atLeastTheLeastCount_12 rfl rfl ?_
    refine g_getX C 5 dX0_atLeastTheLeastCount_13 mwX0_atLeastTheLeastCount_inX (by decide) mwX0_atLeastTheLeastCount_f26 rfl rfl ?_
    refine g_mmax C dX0_atLeastTheLeastCount_16 mwX0_atLeastTheLeastCount_l175 mwX0_atLeastTheLeastCount_smax mwX0_atLeastTheLeastCount_iMath mwX0_atLeastTheLeastCount_kmax (by rw [R]; exact ⟨by decide, Nat.le_of_ble_eq_true rfl, by decide, by decide⟩) ?_
    exact g_iret C F dX0_atLeastTheLeastCount_19 (by decide) (by decide) ⟨by rw [e], rfl, rfl, rfl⟩
  · have e : al nl (σ 5) x = 0 := by
      unfold al
      rw [h9] at c_4
      rw [if_pos (by rcases Nat.eq_zero_or_pos nl with z | z
                     · exact z
                     · exact absurd c_4 (nI_ne0 z (by omega)))]
    refine g_iconst (v := 0) C dX0_atLeastTheLeastCount_7 (by decide) ?_
    refine g_goto (tgt := 19) C dX0_atLeastTheLeastCount_8 (by decide) ?_
    exact g_iret C F dX0_atLeastTheLeastCount_19 (by decide) (by decide) ⟨by rw [e], rfl, rfl, rfl⟩
set_option maxRecDepth 100000 in
theorem mwX0_mayHold_inX : ∀ w ∈ wsX00, w ∈ wsX0_mayHold := by decide +kernel
set_option maxRecDepth 100000 in
theorem mwX0_mayHold_f39 : Cond.fieldLink RX0 39 "TelegraphPrices" "length" "I" ∈ wsX0_mayHold := by decide +kernel
set_option maxRecDepth 100000 in
theorem mwX0_mayHold_f13 : Cond.fieldLink RX0 13 "TelegraphPrices" "standIns" "[I" ∈ wsX0_mayHold := by decide +kernel
set_option maxRecDepth 100000 in
theorem mwX0_mayHold_f32 : Cond.fieldLink RX0 32 "TelegraphPrices" "telegram" "[I" ∈ wsX0_mayHold := by decide +kernel
set_option maxHeartbeats 4000000 in
set_option maxRecDepth 100000 in
theorem c_mayHold {l : Launch} (hl : l.stackTraces = false) (Γ : gG) (σ : gS) (τ : gT) (o : gO) (nl p : Nat) (w : Int32) (h9 : σ 9 = nI nl) (hn : nl ≤ 16) (hp : p < 2 ^ 30) (ht : p < nl → vp_in (τ 7 p) 12) : Ct l yX0_mayHold wsX0_mayHold 2 64 0 0 [.ref (Γ.2.1 100), .int (nI p), .int w] Γ σ τ o (pE (some (.int (mh nl (τ 1) (τ 7) p w))) σ τ o) (noX) := by
  refine ct_of hl (by decide +kernel) rfl (Nat.le_of_ble_eq_true rfl) ?_
  intro E C F T hΓ hL R
  subst hΓ
  subst hL
  show G E 0 0 0 [(0, .ref ((eG E).2.1 100)), (1, .int (nI p)), (2, .int w)] [] σ τ o
  refine g_iload_n C dX0_mayHold_0 rfl rfl ?_
  refine g_aload_n C dX0_mayHold_1 rfl rfl ?_
  refine g_getX C 9 dX0_mayHold_2 mwX0_mayHold_inX (by decide) mwX0_mayHold_f39 rfl rfl ?_
  refine g_icmp_ge (tgt := 30) C dX0_mayHold_5 (by decide) (fun c_5 => ?_) (fun c_5 => ?_)
  · have hge : nl ≤ p := by
      rw [h9] at c_5
      exact (nI_leI (by omega) (by omega)).mp c_5
    have e : mh nl (τ 1) (τ 7) p w = 0 := by
      unfold mh
      rw [if_neg (by omega)]
    refine g_iconst (v := 0) C dX0_mayHold_30 (by decide) ?_
    exact g_zret C F dX0_mayHold_31 (by first | exact Or.inl rfl | exact Or.inr rfl) (by decide) (by decide) ⟨by rw [e], rfl, rfl, rfl⟩
  · have hlt : p < nl := by
      rw [h9] at c_5
      exact Nat.not_le.mp (fun q => c_5 ((nI_leI (by omega) (by omega)).mpr q))
    have e0 : mh nl (τ 1) (τ 7) p w = hb (τ 1 (τ 7 p).toNatClampNeg) w := by
      unfold mh
      rw [if_pos hlt]
    refine g_aload_n C dX0_mayHold_8 rfl rfl ?_
    refine g_getX C 1 dX0_mayHold_9 mwX0_mayHold_inX (by decide) mwX0_mayHold_f13 rfl rfl ?_
    refine g_aload_n C dX0_mayHold_12 rfl rfl ?_
    refine g_getX C 7 dX0_mayHold_13 mwX0_mayHold_inX (by decide) mwX0_mayHold_f32 rfl rfl ?_
    refine g_iload_n C dX0_mayHold_16 rfl rfl ?_
    refine g_ialdN C (p) dX0_mayHold_17 rfl rfl (show p < 16 by omega) (by decide) ?_
    refine g_iald C dX0_mayHold_18 rfl (ht hlt) ?_
    refine g_iload_n C dX0_mayHold_19 rfl rfl ?_
    refine g_callSEi (na := 2) C dX0_mayHold_20 (c_hasBit hl (eG E) σ τ o _ _) gX0_mayHold_X0_hasBit rfl rfl (by decide +kernel) rfl (Nat.le_of_ble_eq_true rfl) (by rw [R]; exact ⟨by decide, by decide⟩) (by rw [R]; exact ⟨by decide, by decide⟩) ?_
    refine g_if_eq (tgt := 30) C dX0_mayHold_23 (by decide) (fun c_23 => ?_) (fun c_23 => ?_)
    · have e : mh nl (τ 1) (τ 7) p w = 0 := by rw [e0]; exact c_23
      refine g_iconst (v := 0) C dX0_mayHold_30 (by decide) ?_
      exact g_zret C F dX0_mayHold_31 (by first | exact Or.inl rfl | exact Or.inr rfl) (by decide) (by decide) ⟨by rw [e], rfl, rfl, rfl⟩
    · have e : mh nl (τ 1) (τ 7) p w = 1 := by rw [e0]; exact (hb_01 _ _).resolve_left c_23
      refine g_iconst (v := 1) C dX0_mayHold_26 (by decide) ?_
      refine g_goto (tgt := 31) C dX0_mayHold_27 (by decide) ?_
      exact g_zret C F dX0_mayHold_31 (by first | exact Or.inl rfl | exact Or.inr rfl) (by decide) (by decide) ⟨by rw [e], rfl, rfl, rfl⟩
set_option maxRecDepth 100000 in
theorem mwX0_needWord_inX : ∀ w ∈ wsX00, w ∈ wsX0_needWord := by decide +kernel
set_option maxRecDepth 100000 in
theorem mwX0_needWord_f19 : Cond.fieldLink RX0 19 "TelegraphPrices" "words" "I" ∈ wsX0_needWord := by decide +kernel
set_option maxHeartbeats 4000000 in
set_option maxRecDepth 100000 in
theorem c_needWord {l : Launch} (hl : l.stackTraces = false) (Γ : gG) (σ : gS) (τ : gT) (o : gO) (w : Int32) (h0 : ¬ w < 0) (h1 : w < σ 3) : Ct l yX0_needWord wsX0_needWord 1 32 0 0 [.ref (Γ.2.1 100), .int w] Γ σ τ o (pE (none) σ τ o) (noX) := by
  refine ct_of hl (by decide +kernel) rfl (Nat.le_of_ble_eq_true rfl) ?_
  intro E C F T hΓ hL R
  subst hΓ
  subst hL
  show G E 0 0 0 [(0, .ref ((eG E).2.1 100)), (1, .int w)] [] σ τ o
  refine g_iload_n C dX0_needWord_0 rfl rfl ?_
  refine g_if_lt (tgt := 12) C dX0_needWord_1 (by decide) (fun c_1 => ?_) (fun c_1 => ?_)
  · exact absurd c_1 h0
  · refine g_iload_n C dX0_needWord_4 rfl rfl ?_
    refine g_aload_n C dX0_needWord_5 rfl rfl ?_
    refine g_getX C 3 dX0_needWord_6 mwX0_needWord_inX (by decide) mwX0_needWord_f19 rfl rfl ?_
    refine g_icmp_lt (tgt := 22) C dX0_needWord_9 (by decide) (fun c_9 => ?_) (fun c_9 => ?_)
    · exact g_vret C F dX0_needWord_22 (by decide) (by decide) ⟨rfl, rfl, rfl, rfl⟩
    · exact absurd h1 c_9
set_option maxRecDepth 100000 in
theorem mwX0_needWord_k133 : Cond.classLink RX0 133 "java/lang/IndexOutOfBoundsException" ∈ wsX0_needWord := by decide +kernel
set_option maxRecDepth 100000 in
theorem mwX0_needWord_n133 : Cond.initialized "java/lang/IndexOutOfBoundsException" ∈ wsX0_needWord := by decide +kernel
set_option maxRecDepth 100000 in
theorem mwX0_needWord_a133 : ∀ w ∈ (vx_atS RX0 137 "java/lang/IndexOutOfBoundsException" ["java/lang/RuntimeException", "java/lang/Exception"]).filter goodWord, w ∈ wsX0_needWord := by decide +kernel
set_option maxRecDepth 100000 in
theorem mwX0_needPlace_inX : ∀ w ∈ wsX00, w ∈ wsX0_needPlace := by decide +kernel
set_option maxRecDepth 100000 in
theorem mwX0_needPlace_f39 : Cond.fieldLink RX0 39 "TelegraphPrices" "length" "I" ∈ wsX0_needPlace := by decide +kernel
set_option maxHeartbeats 4000000 in
set_option maxRecDepth 100000 in
theorem c_needPlace {l : Launch} (hl : l.stackTraces = false) (Γ : gG) (σ : gS) (τ : gT) (o : gO) (w : Int32) (h0 : ¬ w < 0) (h1 : w < σ 9) : Ct l yX0_needPlace wsX0_needPlace 1 32 0 0 [.ref (Γ.2.1 100), .int w] Γ σ τ o (pE (none) σ τ o) (noX) := by
  refine ct_of hl (by decide +kernel) rfl (Nat.le_of_ble_eq_true rfl) ?_
  intro E C F T hΓ hL R
  subst hΓ
  subst hL
  show G E 0 0 0 [(0, .ref ((eG E).2.1 100)), (1, .int w)] [] σ τ o
  refine g_iload_n C dX0_needPlace_0 rfl rfl ?_
  refine g_if_lt (tgt := 12) C dX0_needPlace_1 (by decide) (fun c_1 => ?_) (fun c_1 => ?_)
  · exact absurd c_1 h0
  · refine g_iload_n C dX0_needPlace_4 rfl rfl ?_
    refine g_aload_n C dX0_needPlace_5 rfl rfl ?_
    refine g_getX C 9 dX0_needPlace_6 mwX0_needPlace_inX (by decide) mwX0_needPlace_f39 rfl rfl ?_
    refine g_icmp_lt (tgt := 22) C dX0_needPlace_9 (by decide) (fun c_9 => ?_) (fun c_9 => ?_)
    · exact g_vret C F dX0_needPlace_22 (by decide) (by decide) ⟨rfl, rfl, rfl, rfl⟩
    · exact absurd h1 c_9
set_option maxRecDepth 100000 in
theorem mwX0_needPlace_k133 : Cond.classLink RX0 133 "java/lang/IndexOutOfBoundsException" ∈ wsX0_needPlace := by decide +kernel
set_option maxRecDepth 100000 in
theorem mwX0_needPlace_n133 : Cond.initialized "java/lang/IndexOutOfBoundsException" ∈ wsX0_needPlace := by decide +kernel
set_option maxRecDepth 100000 in
theorem mwX0_needPlace_a133 : ∀ w ∈ (vx_atS RX0 137 "java/lang/IndexOutOfBoundsException" ["java/lang/RuntimeException", "java/lang/Exception"]).filter goodWord, w ∈ wsX0_needPlace := by decide +kernel