/-! bits (a family of kit/laws/BITS.to-paste), and the reference's bestJoin -/
def bt (x : Int32) (i : Nat) : Bool := x.toBitVec.getLsbD i
theorem b_ext {x y : Int32} (h : ∀ i, i < 32 → bt x i = bt y i) : x = y := Int32.toBitVec_inj.mp (BitVec.eq_of_getLsbD_eq (fun i hi => h i hi))
theorem b_or (x y : Int32) (i : Nat) : bt (x ||| y) i = (bt x i || bt y i) := by unfold bt; rw [Int32.toBitVec_or, BitVec.getLsbD_or]
theorem b_and (x y : Int32) (i : Nat) : bt (x &&& y) i = (bt x i && bt y i) := by unfold bt; rw [Int32.toBitVec_and, BitVec.getLsbD_and]
theorem b_xor (x y : Int32) (i : Nat) : bt (x ^^^ y) i = (bt x i ^^ bt y i) := by unfold bt; rw [Int32.toBitVec_xor, BitVec.getLsbD_xor]
theorem b_big {x : Int32} {i : Nat} (h : 32 ≤ i) : bt x i = false := BitVec.getLsbD_of_ge _ _ h
theorem b_m1 : ∀ i, i < 32 → bt (-1) i = true := by decide +kernel
theorem b_0 (i : Nat) : bt 0 i = false := BitVec.getLsbD_zero
theorem s_l : ∀ n, n < 32 → ((nI n &&& 31).toBitVec.smod 32).toNat = n := by decide +kernel
theorem s_u : ∀ n, n < 32 → (((nI n).toUInt32 &&& Int32.toUInt32 31).toBitVec % 32).toNat = n := by decide +kernel
theorem b_shl (n : Nat) (hn : n < 32) (x : Int32) {i : Nat} (hi : i < 32) : bt (x <<< (nI n &&& 31)) i = (decide (n ≤ i) && bt x (i - n)) := by
  unfold bt
  rw [Int32.toBitVec_shiftLeft]
  show (x.toBitVec <<< ((nI n &&& 31).toBitVec.smod 32).toNat).getLsbD i = _
  rw [s_l n hn, BitVec.getLsbD_shiftLeft]
  rcases Nat.lt_or_ge i n with h | h
  · simp [h, Nat.not_le.mpr h]
  · simp [hi, h, Nat.not_lt.mpr h]
theorem b_ushr (n : Nat) (hn : n < 32) (x : Int32) (i : Nat) : bt ((x.toUInt32 >>> ((nI n).toUInt32 &&& Int32.toUInt32 31)).toInt32) i = bt x (n + i) := by
  show (x.toUInt32 >>> ((nI n).toUInt32 &&& Int32.toUInt32 31)).toBitVec.getLsbD i = x.toUInt32.toBitVec.getLsbD (n + i)
  rw [UInt32.toBitVec_shiftRight]
  show (x.toUInt32.toBitVec >>> (((nI n).toUInt32 &&& Int32.toUInt32 31).toBitVec % 32).toNat).getLsbD i = _
  rw [s_u n hn, BitVec.getLsbD_ushiftRight]
theorem b_sshr (n : Nat) (hn : n < 32) (x : Int32) {i : Nat} (hi : i < 32) : bt (x >>> (nI n &&& 31)) i = if n + i < 32 then bt x (n + i) else bt x 31 := by
  unfold bt
  rw [Int32.toBitVec_shiftRight]
  show (x.toBitVec.sshiftRight ((nI n &&& 31).toBitVec.smod 32).toNat).getLsbD i = _
  rw [s_l n hn, BitVec.getLsbD_sshiftRight, BitVec.msb_eq_getLsbD_last]
  simp [hi]
/-- one bit -/
abbrev sb (b : Nat) : Int32 := (1 : Int32) <<< (nI b &&& 31)
theorem bt_1 : ∀ i, i < 32 → bt 1 i = decide (i = 0) := by decide +kernel
theorem bt_sb {b : Nat} (hb : b < 32) {i : Nat} (hi : i < 32) : bt (sb b) i = decide (i = b) := by
  rw [b_shl b hb 1 hi, bt_1 _ (by omega)]
  by_cases h : i = b
  · rw [h]; simp
  · by_cases h2 : b ≤ i
    · rw [decide_eq_false h, decide_eq_false (show ¬ (i - b = 0) by omega), Bool.and_false]
    · rw [decide_eq_false h, decide_eq_false h2, Bool.false_and]
theorem bt_and1 (x : Int32) : x &&& 1 = if bt x 0 = true then 1 else 0 := by
  refine b_ext (fun i hi => ?_)
  rw [b_and, bt_1 i hi]
  by_cases h : i = 0
  · subst h
    cases hx : bt x 0 <;> decide
  · rw [decide_eq_false h, Bool.and_false]
    split
    · rw [bt_1 i hi, decide_eq_false h]
    · rw [b_0]
theorem hb_bt {x : Int32} {b : Nat} (hb9 : b < 32) : hb x (nI b) ≠ 0 ↔ bt x b = true := by
  unfold hb
  rw [bt_and1, b_sshr b hb9 x (show 0 < 32 by decide), if_pos (show b + 0 < 32 by omega), Nat.add_zero]
  cases h : bt x b with
  | true => exact ⟨fun _ => rfl, fun _ => by decide⟩
  | false => exact ⟨fun z => absurd (by decide) z, fun z => absurd z (by decide)⟩
theorem hb_bf {x : Int32} {b : Nat} (hb9 : b < 32) : hb x (nI b) = 0 ↔ bt x b = false := by
  constructor
  · intro h
    cases h2 : bt x b with
    | false => rfl
    | true => exact absurd h ((hb_bt hb9).mpr h2)
  · intro h
    rcases hb_01 x (nI b) with z | z
    · exact z
    · have := (hb_bt hb9).mp (by rw [z]; decide)
      rw [h] at this
      exact (Bool.false_ne_true this).elim
/-- set and cleared again -/
theorem sb_back {x : Int32} {b : Nat} (hb9 : b < 32) (h : hb x (nI b) = 0) : (x ||| sb b) &&& (sb b ^^^ (-1)) = x := by
  have h2 := (hb_bf hb9).mp h
  refine b_ext (fun i hi => ?_)
  rw [b_and, b_or, b_xor, bt_sb hb9 hi, b_m1 i hi]
  by_cases e : i = b
  · subst e
    rw [h2]
    simp
  · rw [decide_eq_false e]
    simp
theorem hb_or {x : Int32} {b c : Nat} (hb9 : b < 32) (hc : c < 32) : hb (x ||| sb b) (nI c) ≠ 0 ↔ hb x (nI c) ≠ 0 ∨ c = b := by
  rw [hb_bt hc, hb_bt hc, b_or, bt_sb hb9 hc]
  by_cases e : c = b
  · simp [e]
  · simp [e]
/-- the joins with one more -/
def tj (τ : gT) (a b : Nat) : gT := uT τ 29 a (τ 29 a ||| sb b)
def CJm (σ : gS) (τ : gT) (nw nl a b : Nat) : Int32 := al nl (σ 23) (FM σ (tj τ a b) nw nl nl)
theorem IM_5 {σ : gS} {τ τ' : gT} {nw nl lm : Nat} (I : IM σ τ nw nl lm) (h1 : τ' 27 = τ 27) (h2 : τ' 28 = τ 28) (h3 : τ' 31 = τ 31) (h4 : τ' 32 = τ 32) (h5 : τ' 35 = τ 35) : IM σ τ' nw nl lm := by
  unfold IM
  rw [h1, h2, h3, h4, h5]
  exact I
theorem FM_4 {σ : gS} {τ τ' : gT} {nw nl m : Nat} (h1 : τ' 27 = τ 27) (h2 : τ' 28 = τ 28) (h3 : τ' 29 = τ 29) (h4 : τ' 31 = τ 31) : FM σ τ' nw nl m = FM σ τ nw nl m := by
  unfold FM
  rw [h1, h2, h3, h4]
theorem upd_back {f : Nat → Int32} {a : Nat} {x : Int32} : upd (upd f a x) a (f a) = f := by
  funext j
  by_cases e : j = a
  · rw [e, upd_eq]
  · rw [upd_ne e, upd_ne e]
set_option maxRecDepth 100000 in
theorem mwX1_bestJoin_inM : ∀ w ∈ wsX10, w ∈ wsX1_bestJoin := by decide +kernel
set_option maxRecDepth 100000 in
theorem mwX1_bestJoin_f48 : Cond.fieldLink RX1 48 "TelegraphPricesModel" "words" "I" ∈ wsX1_bestJoin := by decide +kernel
set_option maxRecDepth 100000 in
theorem mwX1_bestJoin_f26 : Cond.fieldLink RX1 26 "TelegraphPricesModel" "join" "[I" ∈ wsX1_bestJoin := by decide +kernel
set_option maxRecDepth 100000 in
theorem mwX1_bestJoin_f45 : Cond.fieldLink RX1 45 "TelegraphPricesModel" "thrown" "I" ∈ wsX1_bestJoin := by decide +kernel
set_option maxHeartbeats 4000000 in
set_option maxRecDepth 100000 in
theorem m_bestJoin {l : Launch} (hl : l.stackTraces = false) (Γ : gG) (σ : gS) (τ : gT) (o : gO) (nw nl lm : Nat) (I : IM σ τ nw nl lm) : Ct l yX1_bestJoin wsX1_bestJoin 4 128 0 0 [.ref (Γ.2.1 101)] Γ σ τ o (pI (fun r σ' τ' o' => r = (bj nw (τ 29) (CJm σ τ nw nl) (-1, CCm σ τ nw nl) nw).1 ∧ σ' = uS σ 20 0 ∧ o' = o ∧ (∀ c, c ≠ 33 → τ' c = τ c))) (noX) := by
  refine ct_of hl (by decide +kernel) rfl (Nat.le_of_ble_eq_true rfl) ?_
  intro E C F T hΓ hL R
  subst hΓ
  subst hL
  show G E 0 0 0 [(0, .ref ((eG E).2.1 101))] [] σ τ o
  have hnw := Iv_nw I
  have hnl := Iv_nl I
  have h3 : σ 21 = nI nw := Iv_h3 I
  have h9 : σ 30 = nI nl := Iv_h9 I
  have h4 : ¬ σ 22 = 0 := Iv_ne I
  have I0 : IM (uS σ 20 0) τ nw nl lm := I
  have h30 : uS σ 20 0 21 = nI nw := h3
  have h90 : uS σ 20 0 30 = nI nl := h9
  have h40 : ¬ uS σ 20 0 22 = 0 := h4
  have loop : ∀ m a : Nat, ∀ τ' : gT, a + m = nw → (∀ c, c ≠ 33 → τ' c = τ c) → G E (0 + 0) (0 + 0) 18 [(3, .int (nI a)), (2, .int (bj nw (τ 29) (CJm σ τ nw nl) (-1, CCm σ τ nw nl) a).2), (1, .int (bj nw (τ 29) (CJm σ τ nw nl) (-1, CCm σ τ nw nl) a).1), (0, .ref ((eG E).2.1 101))] [] (uS σ 20 0) τ' o := by
    intro m
    induction m with
    | zero =>
      intro a τ' ha hN
      refine g_iload_n C dX1_bestJoin_18 rfl rfl ?_
      refine g_aload_n C dX1_bestJoin_19 rfl rfl ?_
      refine g_getM C 1 dX1_bestJoin_20 mwX1_bestJoin_inM (by decide) mwX1_bestJoin_f48 rfl rfl ?_
      refine g_icmp_ge (tgt := 125) C dX1_bestJoin_23 (by decide) (fun c_23 => ?_) (fun c_23 => ?_)
      · refine g_iload_n C dX1_bestJoin_125 rfl rfl ?_
        exact g_iret C F dX1_bestJoin_126 (by decide) (by decide) ⟨_, rfl, by rw [show a = nw by omega], rfl, rfl, hN⟩
      · exact absurd (by rw [h30]; exact nI_le (by omega) (by omega)) c_23
    | succ m ih =>
      intro a τ' ha hN
      have inner : ∀ k b : Nat, ∀ τ' : gT, b + k = nw → (∀ c, c ≠ 33 → τ' c = τ c) → G E (0 + 0) (0 + 0) 29 [(4, .int (nI b)), (3, .int (nI a)), (2, .int (bj2 (τ 29) (CJm σ τ nw nl) a (bj nw (τ 29) (CJm σ τ nw nl) (-1, CCm σ τ nw nl) a) b).2), (1, .int (bj2 (τ 29) (CJm σ τ nw nl) a (bj nw (τ 29) (CJm σ τ nw nl) (-1, CCm σ τ nw nl) a) b).1), (0, .ref ((eG E).2.1 101))] [] (uS σ 20 0) τ' o := by
        intro k
        induction k with
        | zero =>
          intro b τ' hb9 hN
          refine g_iload C dX1_bestJoin_29 rfl ?_
          refine g_aload_n C dX1_bestJoin_31 rfl rfl ?_
          refine g_getM C 1 dX1_bestJoin_32 mwX1_bestJoin_inM (by decide) mwX1_bestJoin_f48 rfl rfl ?_
          refine g_icmp_ge (tgt := 119) C dX1_bestJoin_35 (by decide) (fun c_35 => ?_) (fun c_35 => ?_)
          · refine g_iinc C 1 [(3, _), (4, _), (2, _), (1, _), (0, _)] dX1_bestJoin_119 rfl (nI_i1 a) (by decide) rfl ?_
            refine g_goto (tgt := 18) C dX1_bestJoin_122 (by decide) ?_
            refine g_lv [0, 2, 3, 4] [(3, _), (2, _), (1, _), (0, _)] rfl ?_
            have g := ih (a + 1) τ' (by omega) hN
            rw [show b = nw by omega]
            exact g
          · exact absurd (by rw [h30]; exact nI_le (by omega) (by omega)) c_35
        | succ k ih2 =>
          intro b τ' hb9 hN
          have e29 : τ' 29 = τ 29 := hN 29 (by decide)
          have I2 : IM (uS σ 20 0) (uT τ' 29 a (τ 29 a ||| sb b)) nw nl lm := IM_5 I0 (by rw [uT_ne (by decide), hN 27 (by decide)]) (by rw [uT_ne (by decide), hN 28 (by decide)]) (by rw [uT_ne (by decide), hN 31 (by decide)]) (by rw [uT_ne (by decide), hN 32 (by decide)]) (by rw [uT_ne (by decide), hN 35 (by decide)])
          have eF : FM (uS σ 20 0) (uT τ' 29 a (τ 29 a ||| sb b)) nw nl nl = FM σ (tj τ a b) nw nl nl := FM_4 (by unfold tj; rw [uT_ne (by decide), uT_ne (by decide), hN 27 (by decide)]) (by unfold tj; rw [uT_ne (by decide), uT_ne (by decide), hN 28 (by decide)]) (by unfold tj; rw [uT_eq, uT_eq, e29]) (by unfold tj; rw [uT_ne (by decide), uT_ne (by decide), hN 31 (by decide)])
          refine g_iload C dX1_bestJoin_29 rfl ?_
          refine g_aload_n C dX1_bestJoin_31 rfl rfl ?_
          refine g_getM C 1 dX1_bestJoin_32 mwX1_bestJoin_inM (by decide) mwX1_bestJoin_f48 rfl rfl ?_
          refine g_icmp_ge (tgt := 119) C dX1_bestJoin_35 (by decide) (fun c_35 => ?_) (fun c_35 => ?_)
          · exact absurd (by rw [h30] at c_35; exact c_35) (nI_ge (by omega) (by omega))
          · refine g_aload_n C dX1_bestJoin_38 rfl rfl ?_
            refine g_getM C 9 dX1_bestJoin_39 mwX1_bestJoin_inM (by decide) mwX1_bestJoin_f26 rfl rfl ?_
            refine g_iload_n C dX1_bestJoin_42 rfl rfl ?_
            refine g_ialdN C (a) dX1_bestJoin_43 rfl rfl (show a < 12 by omega) (by decide) ?_
            rw [e29]
            refine g_iload C dX1_bestJoin_44 rfl ?_
            refine g_callSEi (na := 2) C dX1_bestJoin_46 (m_has hl (eG E) (uS σ 20 0) τ' o _ _) gX1_bestJoin_X1_has rfl rfl (by decide +kernel) rfl (Nat.le_of_ble_eq_true rfl) (by rw [R]; exact ⟨by decide, by decide⟩) (by rw [R]; exact ⟨by decide, by decide⟩) ?_
            refine g_if_eq (tgt := 55) C dX1_bestJoin_49 (by decide) (fun c_49 => ?_) (fun c_49 => ?_)
            · refine g_aload_n C dX1_bestJoin_55 rfl rfl ?_
              refine g_getM C 9 dX1_bestJoin_56 mwX1_bestJoin_inM (by decide) mwX1_bestJoin_f26 rfl rfl ?_
              refine g_iload_n C dX1_bestJoin_59 rfl rfl ?_
              refine g_dup2 C dX1_bestJoin_60 rfl rfl ?_
              refine g_ialdN C (a) dX1_bestJoin_61 rfl rfl (show a < 12 by omega) (by decide) ?_
              rw [e29]
              refine g_iconst (v := 1) C dX1_bestJoin_62 (by decide) ?_
              refine g_iload C dX1_bestJoin_63 rfl ?_
              refine g_ishl C dX1_bestJoin_65 ?_
              refine g_ior C dX1_bestJoin_66 ?_
              refine g_iastN C (a) dX1_bestJoin_67 rfl rfl (show a < 12 by omega) (by decide) rfl ?_
              refine g_aload_n C dX1_bestJoin_68 rfl rfl ?_
              refine g_aload_n C dX1_bestJoin_69 rfl rfl ?_
              refine g_callVi (Cl := RX1) (T := TX1) (N := 16) (ci := 1) (q0 := 12) (na := 0) C dX1_bestJoin_70 (m_reckon hl (eG E) (uS σ 20 0) (uT τ' 29 a (τ 29 a ||| sb b)) o nw nl lm I2) gX1_bestJoin_X1_reckon rfl rfl (by decide +kernel) rfl rfl rfl (Nat.le_of_ble_eq_true rfl) (by rw [R]; exact ⟨by decide, by decide⟩) (by rw [R]; exact ⟨by decide, by decide⟩) noX_kx (fun r3 σ3 τ3 o3 hN3 => ?_)
              obtain ⟨e5, e6, e7, hK⟩ := hN3
              rw [e6, e7]
              refine g_topi (show _ = FM σ (tj τ a b) nw nl nl by rw [e5, eF]) ?_
              refine g_callVEi (Cl := RX1) (T := TX1) (N := 16) (ci := 1) (q0 := 12) (na := 1) C dX1_bestJoin_73 (m_lifted hl (eG E) (uS σ 20 0) τ3 o nl _ h90 hnl) gX1_bestJoin_X1_lifted rfl rfl (by decide +kernel) rfl rfl rfl (Nat.le_of_ble_eq_true rfl) (by rw [R]; exact ⟨by decide, by decide⟩) (by rw [R]; exact ⟨by decide, by decide⟩) ?_
              refine g_topi (show _ = CJm σ τ nw nl a b from rfl) ?_
              refine g_istore C [(5, _), (4, _), (3, _), (2, _), (1, _), (0, _)] dX1_bestJoin_76 (by decide) rfl ?_
              refine g_aload_n C dX1_bestJoin_78 rfl rfl ?_
              refine g_getM C 9 dX1_bestJoin_79 mwX1_bestJoin_inM (by decide) mwX1_bestJoin_f26 rfl rfl ?_
              refine g_iload_n C dX1_bestJoin_82 rfl rfl ?_
              refine g_dup2 C dX1_bestJoin_83 rfl rfl ?_
              refine g_ialdN C (a) dX1_bestJoin_84 rfl rfl (show a < 12 by omega) (by decide) ?_
              refine g_topi (show _ = τ 29 a ||| sb b by rw [hK.1 29 (by decide), uT_eq, upd_eq]) ?_
              refine g_iconst (v := 1) C dX1_bestJoin_85 (by decide) ?_
              refine g_iload C dX1_bestJoin_86 rfl ?_
              refine g_ishl C dX1_bestJoin_88 ?_
              refine g_iconst (v := (-1)) C dX1_bestJoin_89 (by decide) ?_
              refine g_ixor C dX1_bestJoin_90 ?_
              refine g_iand C dX1_bestJoin_91 ?_
              refine g_topi (sb_back (show b < 32 by omega) c_49) ?_
              refine g_iastN C (a) dX1_bestJoin_92 rfl rfl (show a < 12 by omega) (by decide) rfl ?_
              have hN4 : ∀ c, c ≠ 33 → (uT τ3 29 a (τ 29 a)) c = τ c := fun c hc => by
                by_cases e : c = 29
                · subst e
                  rw [uT_eq, hK.1 29 (by decide), uT_eq, e29]
                  exact upd_back
                · rw [uT_ne e, hK.1 c hc, uT_ne e]
                  exact hN c hc
              refine g_iload C dX1_bestJoin_93 rfl ?_
              refine g_iload_n C dX1_bestJoin_95 rfl rfl ?_
              refine g_icmp_lt (tgt := 102) C dX1_bestJoin_96 (by decide) (fun c_96 => ?_) (fun c_96 => ?_)
              · have e : bj2 (τ 29) (CJm σ τ nw nl) a (bj nw (τ 29) (CJm σ τ nw nl) (-1, CCm σ τ nw nl) a) (b + 1) = (nI a * 100 + nI b, CJm σ τ nw nl a b) := bj2_yes ⟨c_49, c_96⟩
                refine g_bipush (v := 100) C dX1_bestJoin_102 (by decide) ?_
                refine g_iload_n C dX1_bestJoin_104 rfl rfl ?_
                refine g_imul C dX1_bestJoin_105 ?_
                refine g_topi (Int32.mul_comm 100 (nI a)) ?_
                refine g_iload C dX1_bestJoin_106 rfl ?_
                refine g_iadd C dX1_bestJoin_108 ?_
                refine g_istore_n C [(1, _), (5, _), (4, _), (3, _), (2, _), (0, _)] dX1_bestJoin_109 rfl (by decide) rfl ?_
                refine g_iload C dX1_bestJoin_110 rfl ?_
                refine g_istore_n C [(2, _), (1, _), (5, _), (4, _), (3, _), (0, _)] dX1_bestJoin_112 rfl (by decide) rfl ?_
                refine g_iinc C 3 [(4, _), (2, _), (1, _), (5, _), (3, _), (0, _)] dX1_bestJoin_113 rfl (nI_i1 b) (by decide) rfl ?_
                refine g_goto (tgt := 29) C dX1_bestJoin_116 (by decide) ?_
                refine g_lv [0, 4, 1, 2, 5] [(4, _), (3, _), (2, _), (1, _), (0, _)] rfl ?_
                have g := ih2 (b + 1) (uT τ3 29 a (τ 29 a)) (by omega) hN4
                rw [e] at g
                exact g
              · have e : bj2 (τ 29) (CJm σ τ nw nl) a (bj nw (τ 29) (CJm σ τ nw nl) (-1, CCm σ τ nw nl) a) (b + 1) = bj2 (τ 29) (CJm σ τ nw nl) a (bj nw (τ 29) (CJm σ τ nw nl) (-1, CCm σ τ nw nl) a) b := bj2_no (fun q => c_96 q.2)
                refine g_goto (tgt := 113) C dX1_bestJoin_99 (by decide) ?_
                refine g_iinc C 1 [(4, _), (5, _), (3, _), (2, _), (1, _), (0, _)] dX1_bestJoin_113 rfl (nI_i1 b) (by decide) rfl ?_
                refine g_goto (tgt := 29) C dX1_bestJoin_116 (by decide) ?_
                refine g_lv [0, 2, 3, 4, 5] [(4, _), (3, _), (2, _), (1, _), (0, _)] rfl ?_
                have g := ih2 (b + 1) (uT τ3 29 a (τ 29 a)) (by omega) hN4
                rw [e] at g
                exact g
            · have e : bj2 (τ 29) (CJm σ τ nw nl) a (bj nw (τ 29) (CJm σ τ nw nl) (-1, CCm σ τ nw nl) a) (b + 1) = bj2 (τ 29) (CJm σ τ nw nl) a (bj nw (τ 29) (CJm σ τ nw nl) (-1, CCm σ τ nw nl) a) b := bj2_no (fun q => c_49 q.1)
              refine g_goto (tgt := 113) C dX1_bestJoin_52 (by decide) ?_
              refine g_iinc C 0 [(4, _), (3, _), (2, _), (1, _), (0, _)] dX1_bestJoin_113 rfl (nI_i1 b) (by decide) rfl ?_
              refine g_goto (tgt := 29) C dX1_bestJoin_116 (by decide) ?_
              have g := ih2 (b + 1) τ' (by omega) hN
              rw [e] at g
              exact g
      refine g_iload_n C dX1_bestJoin_18 rfl rfl ?_
      refine g_aload_n C dX1_bestJoin_19 rfl rfl ?_
      refine g_getM C 1 dX1_bestJoin_20 mwX1_bestJoin_inM (by decide) mwX1_bestJoin_f48 rfl rfl ?_
      refine g_icmp_ge (tgt := 125) C dX1_bestJoin_23 (by decide) (fun c_23 => ?_) (fun c_23 => ?_)
      · exact absurd (by rw [h30] at c_23; exact c_23) (nI_ge (by omega) (by omega))
      · refine g_iconst (v := 0) C dX1_bestJoin_26 (by decide) ?_
        refine g_istore C [(4, _), (3, _), (2, _), (1, _), (0, _)] dX1_bestJoin_27 (by decide) rfl ?_
        exact inner nw 0 τ' (Nat.zero_add _) hN
  refine g_aload_n C dX1_bestJoin_0 rfl rfl ?_
  refine g_iconst (v := 0) C dX1_bestJoin_1 (by decide) ?_
  refine g_putM C 0 dX1_bestJoin_2 mwX1_bestJoin_inM (by decide) mwX1_bestJoin_f45 rfl rfl (by decide +kernel) rfl ?_
  refine g_iconst (v := (-1)) C dX1_bestJoin_5 (by decide) ?_
  refine g_istore_n C [(1, _), (0, _)] dX1_bestJoin_6 rfl (by decide) rfl ?_
  refine g_aload_n C dX1_bestJoin_7 rfl rfl ?_
  refine g_aload_n C dX1_bestJoin_8 rfl rfl ?_
  refine g_callVi (Cl := RX1) (T := TX1) (N := 16) (ci := 1) (q0 := 12) (na := 0) C dX1_bestJoin_9 (m_reckon hl (eG E) (uS σ 20 0) τ o nw nl lm I0) gX1_bestJoin_X1_reckon rfl rfl (by decide +kernel) rfl rfl rfl (Nat.le_of_ble_eq_true rfl) (by rw [R]; exact ⟨by decide, by decide⟩) (by rw [R]; exact ⟨by decide, by decide⟩) noX_kx (fun r1 σ1 τ1 o1 hN1 => ?_)
  obtain ⟨e0, e1, e2, hN⟩ := hN1
  rw [e0, e1, e2]
  refine g_callVEi (Cl := RX1) (T := TX1) (N := 16) (ci := 1) (q0 := 12) (na := 1) C dX1_bestJoin_12 (m_lifted hl (eG E) (uS σ 20 0) τ1 o nl _ h90 hnl) gX1_bestJoin_X1_lifted rfl rfl (by decide +kernel) rfl rfl rfl (Nat.le_of_ble_eq_true rfl) (by rw [R]; exact ⟨by decide, by decide⟩) (by rw [R]; exact ⟨by decide, by decide⟩) ?_
  refine g_topi (show _ = CCm σ τ nw nl from rfl) ?_
  refine g_istore_n C [(2, _), (1, _), (0, _)] dX1_bestJoin_15 rfl (by decide) rfl ?_
  refine g_iconst (v := 0) C dX1_bestJoin_16 (by decide) ?_
  refine g_istore_n C [(3, _), (2, _), (1, _), (0, _)] dX1_bestJoin_17 rfl (by decide) rfl ?_
  exact loop nw 0 τ1 (Nat.zero_add _) hN.1
