/-! the reference: joining, striking, wording anew, wordings -/
theorem fits_z {x : Int32} (h : x = 0 ∨ x = 1) : fits .boolean (.int x) = true := by
  rcases h with rfl | rfl <;> rfl
theorem i0_cl : (0 : Int32).toNatClampNeg = 0 := by decide
section
variable {E : gE} {cc : ByteArray} {nL : Nat} {own : String} {ws : List Cond} {k n pc : Nat} {lv : List (Nat × Value)} {st : List Value} {σ : gS} {τ : gT} {o : gO}
/-- System.arraycopy from the start of one array to the start of another -/
theorem g_copy (C : gC E cc nL own ws) {c0 c1 idx m : Nat} {cA : ClassId} {x : Int32} (t0 : Nat) (ty : FieldType) (d : decode cc pc = .ok (.invokestatic idx, 3)) (h1 : Cond.methodLink own idx arraycopyName ∈ ws) (h2 : Cond.native arraycopyName ∈ ws) (h3 : Cond.static arraycopyName ∈ ws) (h4 : Cond.initialized "java/lang/System" ∈ ws)
    (ha0 : (wW (eG E) σ τ o)[gAp c0]? = some ((eG E).2.1 c0, .inl (cA, gAl c0, .inl (τ c0)))) (ha1 : (wW (eG E) σ τ o)[gAp c1]? = some ((eG E).2.1 c1, .inl (cA, gAl c1, .inl (τ c1)))) (ht : (gTy (eG E))[t0]? = some (cA, ty)) (hprim : refKind ty = false)
    (hx : x = nI m) (hm : m < 2 ^ 31) (hm0 : m ≤ gAl c0) (hm1 : m ≤ gAl c1) (hfit : ∀ i, fits ty (.int (τ c0 i)) = true)
    (hw : (wW (eG E) σ τ o).set (gAp c1) ((eG E).2.1 c1, .inl (cA, gAl c1, .inl (va_cpy (τ c0) (τ c1) 0 0 m))) = wW (eG E) σ (uA1 τ c1 (va_cpy (τ c0) (τ c1) 0 0 m)) o)
    (hR : 1 ≤ (eR E).frames ∧ (st.map fun v => v.category).sum + (nativeFrameWords "java/lang/System" "arraycopy" 5 + 11) ≤ (eR E).locals)
    (kk : G E k n (pc + 3) lv st σ (uA1 τ c1 (va_cpy (τ c0) (τ c1) 0 0 m)) o) : G E k n pc lv (.int x :: .int 0 :: .ref ((eG E).2.1 c1) :: .int 0 :: .ref ((eG E).2.1 c0) :: st) σ τ o := fun H locs ls hP hS hl => by
  subst hx
  refine va_copyi (D := (eG E).1) (cl := vwCl) (ty := ty) C.1 C.2.1 hl.1.symm C.2.2.2.1 (C.2.2.2.2.1 _ h1) (C.2.2.2.2.1 _ h2) (C.2.2.2.2.1 _ h3) (C.2.2.2.2.1 _ h4) C.2.2.2.2.2.1 hP (uD_of C) hS (gAp c0) (gAp c1) t0 t0 ha0 ha1 ht ht hprim (by decide) (by decide) (nI_pos hm) ?_ ?_ (fun i _ => hfit _) hR.1 hR.2 d (fun H1 locs1 hP1 _ hS1 => kk H1 locs1 ls ?_ hS1 hl)
  · rw [i0_cl, nI_clamp hm, Nat.zero_add]; exact hm0
  · rw [i0_cl, nI_clamp hm, Nat.zero_add]; exact hm1
  · rw [i0_cl, nI_clamp hm, hw] at hP1
    exact hP1
end
theorem ii_2 {p n : Nat} (h : p + 1 < n) (hn : n < 2 ^ 30) : ii (nI p) 0 (nI n - 2) = 1 := by
  unfold ii
  rw [if_neg (nI_pos (by omega)), show (2 : Int32) = nI 2 from rfl, pk_sub (by omega), if_neg (fun z => by
    have := (nI_ltI (by omega) (by omega)).mp z
    omega)]
theorem ii_2n {w : Int32} {n : Nat} (hn : n < 2 ^ 30) (h : (w < 0 ∨ ¬ w < nI n) ∨ (∃ p, w = nI p ∧ p + 1 = n)) : ii w 0 (nI n - 2) = 0 := by
  unfold ii
  by_cases q : w < 0
  · rw [if_pos q]
  · rw [if_neg q]
    have e : (nI n - 2).toInt = (n : Int) - 2 := pk_sub_toInt (a := n) (b := 2) (by omega) (by omega)
    rw [if_pos]
    rw [Int32.lt_iff_toInt_lt, e]
    rcases h with h | ⟨p, rfl, hp⟩
    · have h2 := h.resolve_left q
      rw [Int32.lt_iff_toInt_lt, nI_toInt (by omega)] at h2
      omega
    · rw [nI_toInt (by omega)]
      omega
set_option maxRecDepth 100000 in
theorem mwX1_turnJoined_inM : ∀ w ∈ wsX10, w ∈ wsX1_turnJoined := by decide +kernel
set_option maxRecDepth 100000 in
theorem mwX1_turnJoined_f45 : Cond.fieldLink RX1 45 "TelegraphPricesModel" "thrown" "I" ∈ wsX1_turnJoined := by decide +kernel
set_option maxRecDepth 100000 in
theorem mwX1_turnJoined_f55 : Cond.fieldLink RX1 55 "TelegraphPricesModel" "length" "I" ∈ wsX1_turnJoined := by decide +kernel
set_option maxRecDepth 100000 in
theorem mwX1_turnJoined_f32 : Cond.fieldLink RX1 32 "TelegraphPricesModel" "joined" "[Z" ∈ wsX1_turnJoined := by decide +kernel
set_option maxHeartbeats 4000000 in
set_option maxRecDepth 100000 in
theorem m_turnJoinedOff {l : Launch} (hl : l.stackTraces = false) (Γ : gG) (σ : gS) (τ : gT) (o : gO) (nw nl lm : Nat) (p : Nat) (I : IM σ τ nw nl lm) (hp : p + 1 < nl) (hj : ¬ τ 32 p = 0) : Ct l yX1_turnJoined wsX1_turnJoined 3 96 0 0 [.ref (Γ.2.1 101), .int (nI p)] Γ σ τ o (pE (some (.int 0)) (uS σ 20 0) (uT τ 32 p 0) o) (noX) := by
  refine ct_of hl (by decide +kernel) rfl (Nat.le_of_ble_eq_true rfl) ?_
  intro E C F T hΓ hL R
  subst hΓ
  subst hL
  show G E 0 0 0 [(0, .ref ((eG E).2.1 101)), (1, .int (nI p))] [] σ τ o
  have hnw := Iv_nw I
  have hnl := Iv_nl I
  have h3 : σ 21 = nI nw := Iv_h3 I
  have h9 : σ 30 = nI nl := Iv_h9 I
  have h4 : ¬ σ 22 = 0 := Iv_ne I
  have I0 : IM (uS σ 20 0) τ nw nl lm := I
  have h30 : uS σ 20 0 21 = nI nw := h3
  have h90 : uS σ 20 0 30 = nI nl := h9
  have h40 : ¬ uS σ 20 0 22 = 0 := h4
  refine g_aload_n C dX1_turnJoined_0 rfl rfl ?_
  refine g_iconst (v := 0) C dX1_turnJoined_1 (by decide) ?_
  refine g_putM C 0 dX1_turnJoined_2 mwX1_turnJoined_inM (by decide) mwX1_turnJoined_f45 rfl rfl (by decide +kernel) rfl ?_
  refine g_iload_n C dX1_turnJoined_5 rfl rfl ?_
  refine g_iconst (v := 0) C dX1_turnJoined_6 (by decide) ?_
  refine g_aload_n C dX1_turnJoined_7 rfl rfl ?_
  refine g_getM C 10 dX1_turnJoined_8 mwX1_turnJoined_inM (by decide) mwX1_turnJoined_f55 rfl rfl ?_
  refine g_iconst (v := 2) C dX1_turnJoined_11 (by decide) ?_
  refine g_isub C dX1_turnJoined_12 ?_
  refine g_callSEi (na := 3) C dX1_turnJoined_13 (m_isIn hl (eG E) (uS σ 20 0) τ o _ _ _) gX1_turnJoined_X1_isIn rfl rfl (by decide +kernel) rfl (Nat.le_of_ble_eq_true rfl) (by rw [R]; exact ⟨by decide, by decide⟩) (by rw [R]; exact ⟨by decide, by decide⟩) ?_
  refine g_if_ne (tgt := 25) C dX1_turnJoined_16 (by decide) (fun c_16 => ?_) (fun c_16 => ?_)
  · refine g_aload_n C dX1_turnJoined_25 rfl rfl ?_
    refine g_getM C 12 dX1_turnJoined_26 mwX1_turnJoined_inM (by decide) mwX1_turnJoined_f32 rfl rfl ?_
    refine g_iload_n C dX1_turnJoined_29 rfl rfl ?_
    refine g_zaldN C (p) dX1_turnJoined_30 rfl rfl (show p < 16 by omega) (by decide) ?_
    refine g_if_ne (tgt := 101) C dX1_turnJoined_31 (by decide) (fun c_31 => ?_) (fun c_31 => ?_)
    · refine g_aload_n C dX1_turnJoined_101 rfl rfl ?_
      refine g_getM C 12 dX1_turnJoined_102 mwX1_turnJoined_inM (by decide) mwX1_turnJoined_f32 rfl rfl ?_
      refine g_iload_n C dX1_turnJoined_105 rfl rfl ?_
      refine g_aload_n C dX1_turnJoined_106 rfl rfl ?_
      refine g_getM C 12 dX1_turnJoined_107 mwX1_turnJoined_inM (by decide) mwX1_turnJoined_f32 rfl rfl ?_
      refine g_iload_n C dX1_turnJoined_110 rfl rfl ?_
      refine g_zaldN C (p) dX1_turnJoined_111 rfl rfl (show p < 16 by omega) (by decide) ?_
      refine g_if_ne (tgt := 119) C dX1_turnJoined_112 (by decide) (fun c_112 => ?_) (fun c_112 => ?_)
      · refine g_iconst (v := 0) C dX1_turnJoined_119 (by decide) ?_
        refine g_zastN C (p) dX1_turnJoined_120 rfl rfl (show p < 16 by omega) (by decide) (Or.inl rfl) rfl ?_
        refine g_aload_n C dX1_turnJoined_121 rfl rfl ?_
        refine g_getM C 12 dX1_turnJoined_122 mwX1_turnJoined_inM (by decide) mwX1_turnJoined_f32 rfl rfl ?_
        refine g_iload_n C dX1_turnJoined_125 rfl rfl ?_
        refine g_zaldN C (p) dX1_turnJoined_126 rfl rfl (show p < 16 by omega) (by decide) ?_
        refine g_topi (show _ = (0 : Int32) by rw [uT_eq, upd_eq]) ?_
        exact g_zret C F dX1_turnJoined_127 (Or.inl rfl) (by decide) (by decide) ⟨rfl, rfl, rfl, rfl⟩
      · exact absurd c_112 hj
    · exact absurd c_31 hj
  · exact absurd c_16 (by rw [h90, ii_2 (show p + 1 < nl by omega) (by omega)]; decide)
set_option maxRecDepth 100000 in
theorem mwX1_turnJoined_f26 : Cond.fieldLink RX1 26 "TelegraphPricesModel" "join" "[I" ∈ wsX1_turnJoined := by decide +kernel
set_option maxRecDepth 100000 in
theorem mwX1_turnJoined_f29 : Cond.fieldLink RX1 29 "TelegraphPricesModel" "word" "[I" ∈ wsX1_turnJoined := by decide +kernel
set_option maxHeartbeats 4000000 in
set_option maxRecDepth 100000 in
theorem m_turnJoinedOn {l : Launch} (hl : l.stackTraces = false) (Γ : gG) (σ : gS) (τ : gT) (o : gO) (nw nl lm : Nat) (p : Nat) (I : IM σ τ nw nl lm) (hp : p + 1 < nl) (hj : τ 32 p = 0) (hc : ¬ cbj (τ 29) (τ 31) (τ 32) p = 0) : Ct l yX1_turnJoined wsX1_turnJoined 3 96 0 0 [.ref (Γ.2.1 101), .int (nI p)] Γ σ τ o (pE (some (.int 1)) (uS σ 20 0) (uT τ 32 p 1) o) (noX) := by
  refine ct_of hl (by decide +kernel) rfl (Nat.le_of_ble_eq_true rfl) ?_
  intro E C F T hΓ hL R
  subst hΓ
  subst hL
  show G E 0 0 0 [(0, .ref ((eG E).2.1 101)), (1, .int (nI p))] [] σ τ o
  have hnw := Iv_nw I
  have hnl := Iv_nl I
  have h3 : σ 21 = nI nw := Iv_h3 I
  have h9 : σ 30 = nI nl := Iv_h9 I
  have h4 : ¬ σ 22 = 0 := Iv_ne I
  have I0 : IM (uS σ 20 0) τ nw nl lm := I
  have h30 : uS σ 20 0 21 = nI nw := h3
  have h90 : uS σ 20 0 30 = nI nl := h9
  have h40 : ¬ uS σ 20 0 22 = 0 := h4
  refine g_aload_n C dX1_turnJoined_0 rfl rfl ?_
  refine g_iconst (v := 0) C dX1_turnJoined_1 (by decide) ?_
  refine g_putM C 0 dX1_turnJoined_2 mwX1_turnJoined_inM (by decide) mwX1_turnJoined_f45 rfl rfl (by decide +kernel) rfl ?_
  refine g_iload_n C dX1_turnJoined_5 rfl rfl ?_
  refine g_iconst (v := 0) C dX1_turnJoined_6 (by decide) ?_
  refine g_aload_n C dX1_turnJoined_7 rfl rfl ?_
  refine g_getM C 10 dX1_turnJoined_8 mwX1_turnJoined_inM (by decide) mwX1_turnJoined_f55 rfl rfl ?_
  refine g_iconst (v := 2) C dX1_turnJoined_11 (by decide) ?_
  refine g_isub C dX1_turnJoined_12 ?_
  refine g_callSEi (na := 3) C dX1_turnJoined_13 (m_isIn hl (eG E) (uS σ 20 0) τ o _ _ _) gX1_turnJoined_X1_isIn rfl rfl (by decide +kernel) rfl (Nat.le_of_ble_eq_true rfl) (by rw [R]; exact ⟨by decide, by decide⟩) (by rw [R]; exact ⟨by decide, by decide⟩) ?_
  refine g_if_ne (tgt := 25) C dX1_turnJoined_16 (by decide) (fun c_16 => ?_) (fun c_16 => ?_)
  · refine g_aload_n C dX1_turnJoined_25 rfl rfl ?_
    refine g_getM C 12 dX1_turnJoined_26 mwX1_turnJoined_inM (by decide) mwX1_turnJoined_f32 rfl rfl ?_
    refine g_iload_n C dX1_turnJoined_29 rfl rfl ?_
    refine g_zaldN C (p) dX1_turnJoined_30 rfl rfl (show p < 16 by omega) (by decide) ?_
    refine g_if_ne (tgt := 101) C dX1_turnJoined_31 (by decide) (fun c_31 => ?_) (fun c_31 => ?_)
    · exact absurd hj c_31
    · refine g_iload_n C dX1_turnJoined_34 rfl rfl ?_
      refine g_if_le (tgt := 49) C dX1_turnJoined_35 (by decide) (fun c_35 => ?_) (fun c_35 => ?_)
      · have hpr : ¬ (p ≠ 0 ∧ τ 32 (p - 1) ≠ 0) := fun z => absurd c_35 (fun y => nI_nle (Nat.pos_of_ne_zero z.1) (by omega) y)
        refine g_aload_n C dX1_turnJoined_49 rfl rfl ?_
        refine g_getM C 12 dX1_turnJoined_50 mwX1_turnJoined_inM (by decide) mwX1_turnJoined_f32 rfl rfl ?_
        refine g_iload_n C dX1_turnJoined_53 rfl rfl ?_
        refine g_iconst (v := 1) C dX1_turnJoined_54 (by decide) ?_
        refine g_iadd C dX1_turnJoined_55 ?_
        refine g_zaldN C (p + 1) dX1_turnJoined_56 rfl (nI_1 p) (show p + 1 < 16 by omega) (by decide) ?_
        refine g_if_eq (tgt := 64) C dX1_turnJoined_57 (by decide) (fun c_57 => ?_) (fun c_57 => ?_)
        · have e0 : cbj (τ 29) (τ 31) (τ 32) p = hb (τ 29 (τ 31 p).toNatClampNeg) (τ 31 (p + 1)) := by
            unfold cbj
            rw [if_neg (fun z => z.elim hpr (fun y => y c_57))]
          refine g_iconst (v := 0) C dX1_turnJoined_64 (by decide) ?_
          refine g_istore_n C [(2, _), (0, _), (1, _)] dX1_turnJoined_65 rfl (by decide) rfl ?_
          refine g_iload_n C dX1_turnJoined_66 rfl rfl ?_
          refine g_if_ne (tgt := 95) C dX1_turnJoined_67 (by decide) (fun c_67 => ?_) (fun c_67 => ?_)
          · exact absurd rfl c_67
          · refine g_aload_n C dX1_turnJoined_70 rfl rfl ?_
            refine g_getM C 9 dX1_turnJoined_71 mwX1_turnJoined_inM (by decide) mwX1_turnJoined_f26 rfl rfl ?_
            refine g_aload_n C dX1_turnJoined_74 rfl rfl ?_
            refine g_getM C 11 dX1_turnJoined_75 mwX1_turnJoined_inM (by decide) mwX1_turnJoined_f29 rfl rfl ?_
            refine g_iload_n C dX1_turnJoined_78 rfl rfl ?_
            refine g_ialdN C (p) dX1_turnJoined_79 rfl rfl (show p < 16 by omega) (by decide) ?_
            refine g_iald C dX1_turnJoined_80 rfl (Iv_tin I (show p < nl by omega)) ?_
            refine g_aload_n C dX1_turnJoined_81 rfl rfl ?_
            refine g_getM C 11 dX1_turnJoined_82 mwX1_turnJoined_inM (by decide) mwX1_turnJoined_f29 rfl rfl ?_
            refine g_iload_n C dX1_turnJoined_85 rfl rfl ?_
            refine g_iconst (v := 1) C dX1_turnJoined_86 (by decide) ?_
            refine g_iadd C dX1_turnJoined_87 ?_
            refine g_ialdN C (p + 1) dX1_turnJoined_88 rfl (nI_1 p) (show p + 1 < 16 by omega) (by decide) ?_
            refine g_callSEi (na := 2) C dX1_turnJoined_89 (m_has hl (eG E) (uS σ 20 0) τ o _ _) gX1_turnJoined_X1_has rfl rfl (by decide +kernel) rfl (Nat.le_of_ble_eq_true rfl) (by rw [R]; exact ⟨by decide, by decide⟩) (by rw [R]; exact ⟨by decide, by decide⟩) ?_
            refine g_if_ne (tgt := 101) C dX1_turnJoined_92 (by decide) (fun c_92 => ?_) (fun c_92 => ?_)
            · refine g_aload_n C dX1_turnJoined_101 rfl rfl ?_
              refine g_getM C 12 dX1_turnJoined_102 mwX1_turnJoined_inM (by decide) mwX1_turnJoined_f32 rfl rfl ?_
              refine g_iload_n C dX1_turnJoined_105 rfl rfl ?_
              refine g_aload_n C dX1_turnJoined_106 rfl rfl ?_
              refine g_getM C 12 dX1_turnJoined_107 mwX1_turnJoined_inM (by decide) mwX1_turnJoined_f32 rfl rfl ?_
              refine g_iload_n C dX1_turnJoined_110 rfl rfl ?_
              refine g_zaldN C (p) dX1_turnJoined_111 rfl rfl (show p < 16 by omega) (by decide) ?_
              refine g_if_ne (tgt := 119) C dX1_turnJoined_112 (by decide) (fun c_112 => ?_) (fun c_112 => ?_)
              · exact absurd hj c_112
              · refine g_iconst (v := 1) C dX1_turnJoined_115 (by decide) ?_
                refine g_goto (tgt := 120) C dX1_turnJoined_116 (by decide) ?_
                refine g_zastN C (p) dX1_turnJoined_120 rfl rfl (show p < 16 by omega) (by decide) (Or.inr rfl) rfl ?_
                refine g_aload_n C dX1_turnJoined_121 rfl rfl ?_
                refine g_getM C 12 dX1_turnJoined_122 mwX1_turnJoined_inM (by decide) mwX1_turnJoined_f32 rfl rfl ?_
                refine g_iload_n C dX1_turnJoined_125 rfl rfl ?_
                refine g_zaldN C (p) dX1_turnJoined_126 rfl rfl (show p < 16 by omega) (by decide) ?_
                refine g_topi (show _ = (1 : Int32) by rw [uT_eq, upd_eq]) ?_
                exact g_zret C F dX1_turnJoined_127 (Or.inr rfl) (by decide) (by decide) ⟨rfl, rfl, rfl, rfl⟩
            · exact absurd (by rw [e0]; exact c_92) hc
        · have e : cbj (τ 29) (τ 31) (τ 32) p = 0 := by
            unfold cbj
            rw [if_pos (Or.inr c_57)]
          refine g_iconst (v := 1) C dX1_turnJoined_60 (by decide) ?_
          refine g_goto (tgt := 65) C dX1_turnJoined_61 (by decide) ?_
          refine g_istore_n C [(2, _), (0, _), (1, _)] dX1_turnJoined_65 rfl (by decide) rfl ?_
          refine g_iload_n C dX1_turnJoined_66 rfl rfl ?_
          refine g_if_ne (tgt := 95) C dX1_turnJoined_67 (by decide) (fun c_67 => ?_) (fun c_67 => ?_)
          · exact absurd e hc
          · exact absurd c_67 (by decide)
      · have hp0 : p ≠ 0 := fun z => c_35 (by rw [z]; decide)
        refine g_aload_n C dX1_turnJoined_38 rfl rfl ?_
        refine g_getM C 12 dX1_turnJoined_39 mwX1_turnJoined_inM (by decide) mwX1_turnJoined_f32 rfl rfl ?_
        refine g_iload_n C dX1_turnJoined_42 rfl rfl ?_
        refine g_iconst (v := 1) C dX1_turnJoined_43 (by decide) ?_
        refine g_isub C dX1_turnJoined_44 ?_
        refine g_zaldN C (p - 1) dX1_turnJoined_45 rfl (nI_m1 hp0) (show p - 1 < 16 by omega) (by decide) ?_
        refine g_if_ne (tgt := 60) C dX1_turnJoined_46 (by decide) (fun c_46 => ?_) (fun c_46 => ?_)
        · have e : cbj (τ 29) (τ 31) (τ 32) p = 0 := by
            unfold cbj
            rw [if_pos (Or.inl ⟨hp0, c_46⟩)]
          refine g_iconst (v := 1) C dX1_turnJoined_60 (by decide) ?_
          refine g_goto (tgt := 65) C dX1_turnJoined_61 (by decide) ?_
          refine g_istore_n C [(2, _), (0, _), (1, _)] dX1_turnJoined_65 rfl (by decide) rfl ?_
          refine g_iload_n C dX1_turnJoined_66 rfl rfl ?_
          refine g_if_ne (tgt := 95) C dX1_turnJoined_67 (by decide) (fun c_67 => ?_) (fun c_67 => ?_)
          · exact absurd e hc
          · exact absurd c_67 (by decide)
        · have hpr : ¬ (p ≠ 0 ∧ τ 32 (p - 1) ≠ 0) := fun z => z.2 c_46
          refine g_aload_n C dX1_turnJoined_49 rfl rfl ?_
          refine g_getM C 12 dX1_turnJoined_50 mwX1_turnJoined_inM (by decide) mwX1_turnJoined_f32 rfl rfl ?_
          refine g_iload_n C dX1_turnJoined_53 rfl rfl ?_
          refine g_iconst (v := 1) C dX1_turnJoined_54 (by decide) ?_
          refine g_iadd C dX1_turnJoined_55 ?_
          refine g_zaldN C (p + 1) dX1_turnJoined_56 rfl (nI_1 p) (show p + 1 < 16 by omega) (by decide) ?_
          refine g_if_eq (tgt := 64) C dX1_turnJoined_57 (by decide) (fun c_57 => ?_) (fun c_57 => ?_)
          · have e0 : cbj (τ 29) (τ 31) (τ 32) p = hb (τ 29 (τ 31 p).toNatClampNeg) (τ 31 (p + 1)) := by
              unfold cbj
              rw [if_neg (fun z => z.elim hpr (fun y => y c_57))]
            refine g_iconst (v := 0) C dX1_turnJoined_64 (by decide) ?_
            refine g_istore_n C [(2, _), (0, _), (1, _)] dX1_turnJoined_65 rfl (by decide) rfl ?_
            refine g_iload_n C dX1_turnJoined_66 rfl rfl ?_
            refine g_if_ne (tgt := 95) C dX1_turnJoined_67 (by decide) (fun c_67 => ?_) (fun c_67 => ?_)
            · exact absurd rfl c_67
            · refine g_aload_n C dX1_turnJoined_70 rfl rfl ?_
              refine g_getM C 9 dX1_turnJoined_71 mwX1_turnJoined_inM (by decide) mwX1_turnJoined_f26 rfl rfl ?_
              refine g_aload_n C dX1_turnJoined_74 rfl rfl ?_
              refine g_getM C 11 dX1_turnJoined_75 mwX1_turnJoined_inM (by decide) mwX1_turnJoined_f29 rfl rfl ?_
              refine g_iload_n C dX1_turnJoined_78 rfl rfl ?_
              refine g_ialdN C (p) dX1_turnJoined_79 rfl rfl (show p < 16 by omega) (by decide) ?_
              refine g_iald C dX1_turnJoined_80 rfl (Iv_tin I (show p < nl by omega)) ?_
              refine g_aload_n C dX1_turnJoined_81 rfl rfl ?_
              refine g_getM C 11 dX1_turnJoined_82 mwX1_turnJoined_inM (by decide) mwX1_turnJoined_f29 rfl rfl ?_
              refine g_iload_n C dX1_turnJoined_85 rfl rfl ?_
              refine g_iconst (v := 1) C dX1_turnJoined_86 (by decide) ?_
              refine g_iadd C dX1_turnJoined_87 ?_
              refine g_ialdN C (p + 1) dX1_turnJoined_88 rfl (nI_1 p) (show p + 1 < 16 by omega) (by decide) ?_
              refine g_callSEi (na := 2) C dX1_turnJoined_89 (m_has hl (eG E) (uS σ 20 0) τ o _ _) gX1_turnJoined_X1_has rfl rfl (by decide +kernel) rfl (Nat.le_of_ble_eq_true rfl) (by rw [R]; exact ⟨by decide, by decide⟩) (by rw [R]; exact ⟨by decide, by decide⟩) ?_
              refine g_if_ne (tgt := 101) C dX1_turnJoined_92 (by decide) (fun c_92 => ?_) (fun c_92 => ?_)
              · refine g_aload_n C dX1_turnJoined_101 rfl rfl ?_
                refine g_getM C 12 dX1_turnJoined_102 mwX1_turnJoined_inM (by decide) mwX1_turnJoined_f32 rfl rfl ?_
                refine g_iload_n C dX1_turnJoined_105 rfl rfl ?_
                refine g_aload_n C dX1_turnJoined_106 rfl rfl ?_
                refine g_getM C 12 dX1_turnJoined_107 mwX1_turnJoined_inM (by decide) mwX1_turnJoined_f32 rfl rfl ?_
                refine g_iload_n C dX1_turnJoined_110 rfl rfl ?_
                refine g_zaldN C (p) dX1_turnJoined_111 rfl rfl (show p < 16 by omega) (by decide) ?_
                refine g_if_ne (tgt := 119) C dX1_turnJoined_112 (by decide) (fun c_112 => ?_) (fun c_112 => ?_)
                · exact absurd hj c_112
                · refine g_iconst (v := 1) C dX1_turnJoined_115 (by decide) ?_
                  refine g_goto (tgt := 120) C dX1_turnJoined_116 (by decide) ?_
                  refine g_zastN C (p) dX1_turnJoined_120 rfl rfl (show p < 16 by omega) (by decide) (Or.inr rfl) rfl ?_
                  refine g_aload_n C dX1_turnJoined_121 rfl rfl ?_
                  refine g_getM C 12 dX1_turnJoined_122 mwX1_turnJoined_inM (by decide) mwX1_turnJoined_f32 rfl rfl ?_
                  refine g_iload_n C dX1_turnJoined_125 rfl rfl ?_
                  refine g_zaldN C (p) dX1_turnJoined_126 rfl rfl (show p < 16 by omega) (by decide) ?_
                  refine g_topi (show _ = (1 : Int32) by rw [uT_eq, upd_eq]) ?_
                  exact g_zret C F dX1_turnJoined_127 (Or.inr rfl) (by decide) (by decide) ⟨rfl, rfl, rfl, rfl⟩
              · exact absurd (by rw [e0]; exact c_92) hc
          · have e : cbj (τ 29) (τ 31) (τ 32) p = 0 := by
              unfold cbj
              rw [if_pos (Or.inr c_57)]
            refine g_iconst (v := 1) C dX1_turnJoined_60 (by decide) ?_
            refine g_goto (tgt := 65) C dX1_turnJoined_61 (by decide) ?_
            refine g_istore_n C [(2, _), (0, _), (1, _)] dX1_turnJoined_65 rfl (by decide) rfl ?_
            refine g_iload_n C dX1_turnJoined_66 rfl rfl ?_
            refine g_if_ne (tgt := 95) C dX1_turnJoined_67 (by decide) (fun c_67 => ?_) (fun c_67 => ?_)
            · exact absurd e hc
            · exact absurd c_67 (by decide)
  · exact absurd c_16 (by rw [h90, ii_2 (show p + 1 < nl by omega) (by omega)]; decide)
set_option maxHeartbeats 4000000 in
set_option maxRecDepth 100000 in
theorem m_turnJoinedZ {l : Launch} (hl : l.stackTraces = false) (Γ : gG) (σ : gS) (τ : gT) (o : gO) (nw nl lm : Nat) (p : Nat) (I : IM σ τ nw nl lm) (hp : p + 1 < nl) (hj : τ 32 p = 0) (hc : cbj (τ 29) (τ 31) (τ 32) p = 0) : Ct l yX1_turnJoined wsX1_turnJoined 3 96 0 0 [.ref (Γ.2.1 101), .int (nI p)] Γ σ τ o (pE (some (.int 0)) (uS (uS σ 20 0) 20 2) τ o) (noX) := by
  refine ct_of hl (by decide +kernel) rfl (Nat.le_of_ble_eq_true rfl) ?_
  intro E C F T hΓ hL R
  subst hΓ
  subst hL
  show G E 0 0 0 [(0, .ref ((eG E).2.1 101)), (1, .int (nI p))] [] σ τ o
  have hnw := Iv_nw I
  have hnl := Iv_nl I
  have h3 : σ 21 = nI nw := Iv_h3 I
  have h9 : σ 30 = nI nl := Iv_h9 I
  have h4 : ¬ σ 22 = 0 := Iv_ne I
  have I0 : IM (uS σ 20 0) τ nw nl lm := I
  have h30 : uS σ 20 0 21 = nI nw := h3
  have h90 : uS σ 20 0 30 = nI nl := h9
  have h40 : ¬ uS σ 20 0 22 = 0 := h4
  refine g_aload_n C dX1_turnJoined_0 rfl rfl ?_
  refine g_iconst (v := 0) C dX1_turnJoined_1 (by decide) ?_
  refine g_putM C 0 dX1_turnJoined_2 mwX1_turnJoined_inM (by decide) mwX1_turnJoined_f45 rfl rfl (by decide +kernel) rfl ?_
  refine g_iload_n C dX1_turnJoined_5 rfl rfl ?_
  refine g_iconst (v := 0) C dX1_turnJoined_6 (by decide) ?_
  refine g_aload_n C dX1_turnJoined_7 rfl rfl ?_
  refine g_getM C 10 dX1_turnJoined_8 mwX1_turnJoined_inM (by decide) mwX1_turnJoined_f55 rfl rfl ?_
  refine g_iconst (v := 2) C dX1_turnJoined_11 (by decide) ?_
  refine g_isub C dX1_turnJoined_12 ?_
  refine g_callSEi (na := 3) C dX1_turnJoined_13 (m_isIn hl (eG E) (uS σ 20 0) τ o _ _ _) gX1_turnJoined_X1_isIn rfl rfl (by decide +kernel) rfl (Nat.le_of_ble_eq_true rfl) (by rw [R]; exact ⟨by decide, by decide⟩) (by rw [R]; exact ⟨by decide, by decide⟩) ?_
  refine g_if_ne (tgt := 25) C dX1_turnJoined_16 (by decide) (fun c_16 => ?_) (fun c_16 => ?_)
  · refine g_aload_n C dX1_turnJoined_25 rfl rfl ?_
    refine g_getM C 12 dX1_turnJoined_26 mwX1_turnJoined_inM (by decide) mwX1_turnJoined_f32 rfl rfl ?_
    refine g_iload_n C dX1_turnJoined_29 rfl rfl ?_
    refine g_zaldN C (p) dX1_turnJoined_30 rfl rfl (show p < 16 by omega) (by decide) ?_
    refine g_if_ne (tgt := 101) C dX1_turnJoined_31 (by decide) (fun c_31 => ?_) (fun c_31 => ?_)
    · exact absurd hj c_31
    · refine g_iload_n C dX1_turnJoined_34 rfl rfl ?_
      refine g_if_le (tgt := 49) C dX1_turnJoined_35 (by decide) (fun c_35 => ?_) (fun c_35 => ?_)
      · have hpr : ¬ (p ≠ 0 ∧ τ 32 (p - 1) ≠ 0) := fun z => absurd c_35 (fun y => nI_nle (Nat.pos_of_ne_zero z.1) (by omega) y)
        refine g_aload_n C dX1_turnJoined_49 rfl rfl ?_
        refine g_getM C 12 dX1_turnJoined_50 mwX1_turnJoined_inM (by decide) mwX1_turnJoined_f32 rfl rfl ?_
        refine g_iload_n C dX1_turnJoined_53 rfl rfl ?_
        refine g_iconst (v := 1) C dX1_turnJoined_54 (by decide) ?_
        refine g_iadd C dX1_turnJoined_55 ?_
        refine g_zaldN C (p + 1) dX1_turnJoined_56 rfl (nI_1 p) (show p + 1 < 16 by omega) (by decide) ?_
        refine g_if_eq (tgt := 64) C dX1_turnJoined_57 (by decide) (fun c_57 => ?_) (fun c_57 => ?_)
        · have e0 : cbj (τ 29) (τ 31) (τ 32) p = hb (τ 29 (τ 31 p).toNatClampNeg) (τ 31 (p + 1)) := by
            unfold cbj
            rw [if_neg (fun z => z.elim hpr (fun y => y c_57))]
          refine g_iconst (v := 0) C dX1_turnJoined_64 (by decide) ?_
          refine g_istore_n C [(2, _), (0, _), (1, _)] dX1_turnJoined_65 rfl (by decide) rfl ?_
          refine g_iload_n C dX1_turnJoined_66 rfl rfl ?_
          refine g_if_ne (tgt := 95) C dX1_turnJoined_67 (by decide) (fun c_67 => ?_) (fun c_67 => ?_)
          · exact absurd rfl c_67
          · refine g_aload_n C dX1_turnJoined_70 rfl rfl ?_
            refine g_getM C 9 dX1_turnJoined_71 mwX1_turnJoined_inM (by decide) mwX1_turnJoined_f26 rfl rfl ?_
            refine g_aload_n C dX1_turnJoined_74 rfl rfl ?_
            refine g_getM C 11 dX1_turnJoined_75 mwX1_turnJoined_inM (by decide) mwX1_turnJoined_f29 rfl rfl ?_
            refine g_iload_n C dX1_turnJoined_78 rfl rfl ?_
            refine g_ialdN C (p) dX1_turnJoined_79 rfl rfl (show p < 16 by omega) (by decide) ?_
            refine g_iald C dX1_turnJoined_80 rfl (Iv_tin I (show p < nl by omega)) ?_
            refine g_aload_n C dX1_turnJoined_81 rfl rfl ?_
            refine g_getM C 11 dX1_turnJoined_82 mwX1_turnJoined_inM (by decide) mwX1_turnJoined_f29 rfl rfl ?_
            refine g_iload_n C dX1_turnJoined_85 rfl rfl ?_
            refine g_iconst (v := 1) C dX1_turnJoined_86 (by decide) ?_
            refine g_iadd C dX1_turnJoined_87 ?_
            refine g_ialdN C (p + 1) dX1_turnJoined_88 rfl (nI_1 p) (show p + 1 < 16 by omega) (by decide) ?_
            refine g_callSEi (na := 2) C dX1_turnJoined_89 (m_has hl (eG E) (uS σ 20 0) τ o _ _) gX1_turnJoined_X1_has rfl rfl (by decide +kernel) rfl (Nat.le_of_ble_eq_true rfl) (by rw [R]; exact ⟨by decide, by decide⟩) (by rw [R]; exact ⟨by decide, by decide⟩) ?_
            refine g_if_ne (tgt := 101) C dX1_turnJoined_92 (by decide) (fun c_92 => ?_) (fun c_92 => ?_)
            · exact absurd (by rw [← e0]; exact hc) c_92
            · refine g_aload_n C dX1_turnJoined_95 rfl rfl ?_
              refine g_iconst (v := 2) C dX1_turnJoined_96 (by decide) ?_
              refine g_callVEi (Cl := RX1) (T := TX1) (N := 16) (ci := 1) (q0 := 12) (na := 1) C dX1_turnJoined_97 (m_failed hl (eG E) (uS σ 20 0) τ o 2) gX1_turnJoined_X1_failed rfl rfl (by decide +kernel) rfl rfl rfl (Nat.le_of_ble_eq_true rfl) (by rw [R]; exact ⟨by decide, by decide⟩) (by rw [R]; exact ⟨by decide, by decide⟩) ?_
              exact g_zret C F dX1_turnJoined_100 (Or.inl rfl) (by decide) (by decide) ⟨rfl, rfl, rfl, rfl⟩
        · have e : cbj (τ 29) (τ 31) (τ 32) p = 0 := by
            unfold cbj
            rw [if_pos (Or.inr c_57)]
          refine g_iconst (v := 1) C dX1_turnJoined_60 (by decide) ?_
          refine g_goto (tgt := 65) C dX1_turnJoined_61 (by decide) ?_
          refine g_istore_n C [(2, _), (0, _), (1, _)] dX1_turnJoined_65 rfl (by decide) rfl ?_
          refine g_iload_n C dX1_turnJoined_66 rfl rfl ?_
          refine g_if_ne (tgt := 95) C dX1_turnJoined_67 (by decide) (fun c_67 => ?_) (fun c_67 => ?_)
          · refine g_aload_n C dX1_turnJoined_95 rfl rfl ?_
            refine g_iconst (v := 2) C dX1_turnJoined_96 (by decide) ?_
            refine g_callVEi (Cl := RX1) (T := TX1) (N := 16) (ci := 1) (q0 := 12) (na := 1) C dX1_turnJoined_97 (m_failed hl (eG E) (uS σ 20 0) τ o 2) gX1_turnJoined_X1_failed rfl rfl (by decide +kernel) rfl rfl rfl (Nat.le_of_ble_eq_true rfl) (by rw [R]; exact ⟨by decide, by decide⟩) (by rw [R]; exact ⟨by decide, by decide⟩) ?_
            exact g_zret C F dX1_turnJoined_100 (Or.inl rfl) (by decide) (by decide) ⟨rfl, rfl, rfl, rfl⟩
          · exact absurd c_67 (by decide)
      · have hp0 : p ≠ 0 := fun z => c_35 (by rw [z]; decide)
        refine g_aload_n C dX1_turnJoined_38 rfl rfl ?_
        refine g_getM C 12 dX1_turnJoined_39 mwX1_turnJoined_inM (by decide) mwX1_turnJoined_f32 rfl rfl ?_
        refine g_iload_n C dX1_turnJoined_42 rfl rfl ?_
        refine g_iconst (v := 1) C dX1_turnJoined_43 (by decide) ?_
        refine g_isub C dX1_turnJoined_44 ?_
        refine g_zaldN C (p - 1) dX1_turnJoined_45 rfl (nI_m1 hp0) (show p - 1 < 16 by omega) (by decide) ?_
        refine g_if_ne (tgt := 60) C dX1_turnJoined_46 (by decide) (fun c_46 => ?_) (fun c_46 => ?_)
        · have e : cbj (τ 29) (τ 31) (τ 32) p = 0 := by
            unfold cbj
            rw [if_pos (Or.inl ⟨hp0, c_46⟩)]
          refine g_iconst (v := 1) C dX1_turnJoined_60 (by decide) ?_
          refine g_goto (tgt := 65) C dX1_turnJoined_61 (by decide) ?_
          refine g_istore_n C [(2, _), (0, _), (1, _)] dX1_turnJoined_65 rfl (by decide) rfl ?_
          refine g_iload_n C dX1_turnJoined_66 rfl rfl ?_
          refine g_if_ne (tgt := 95) C dX1_turnJoined_67 (by decide) (fun c_67 => ?_) (fun c_67 => ?_)
          · refine g_aload_n C dX1_turnJoined_95 rfl rfl ?_
            refine g_iconst (v := 2) C dX1_turnJoined_96 (by decide) ?_
            refine g_callVEi (Cl := RX1) (T := TX1) (N := 16) (ci := 1) (q0 := 12) (na := 1) C dX1_turnJoined_97 (m_failed hl (eG E) (uS σ 20 0) τ o 2) gX1_turnJoined_X1_failed rfl rfl (by decide +kernel) rfl rfl rfl (Nat.le_of_ble_eq_true rfl) (by rw [R]; exact ⟨by decide, by decide⟩) (by rw [R]; exact ⟨by decide, by decide⟩) ?_
            exact g_zret C F dX1_turnJoined_100 (Or.inl rfl) (by decide) (by decide) ⟨rfl, rfl, rfl, rfl⟩
          · exact absurd c_67 (by decide)
        · have hpr : ¬ (p ≠ 0 ∧ τ 32 (p - 1) ≠ 0) := fun z => z.2 c_46
          refine g_aload_n C dX1_turnJoined_49 rfl rfl ?_
          refine g_getM C 12 dX1_turnJoined_50 mwX1_turnJoined_inM (by decide) mwX1_turnJoined_f32 rfl rfl ?_
          refine g_iload_n C dX1_turnJoined_53 rfl rfl ?_
          refine g_iconst (v := 1) C dX1_turnJoined_54 (by decide) ?_
          refine g_iadd C dX1_turnJoined_55 ?_
          refine g_zaldN C (p + 1) dX1_turnJoined_56 rfl (nI_1 p) (show p + 1 < 16 by omega) (by decide) ?_
          refine g_if_eq (tgt := 64) C dX1_turnJoined_57 (by decide) (fun c_57 => ?_) (fun c_57 => ?_)
          · have e0 : cbj (τ 29) (τ 31) (τ 32) p = hb (τ 29 (τ 31 p).toNatClampNeg) (τ 31 (p + 1)) := by
              unfold cbj
              rw [if_neg (fun z => z.elim hpr (fun y => y c_57))]
            refine g_iconst (v := 0) C dX1_turnJoined_64 (by decide) ?_
            refine g_istore_n C [(2, _), (0, _), (1, _)] dX1_turnJoined_65 rfl (by decide) rfl ?_
            refine g_iload_n C dX1_turnJoined_66 rfl rfl ?_
            refine g_if_ne (tgt := 95) C dX1_turnJoined_67 (by decide) (fun c_67 => ?_) (fun c_67 => ?_)
            · exact absurd rfl c_67
            · refine g_aload_n C dX1_turnJoined_70 rfl rfl ?_
              refine g_getM C 9 dX1_turnJoined_71 mwX1_turnJoined_inM (by decide) mwX1_turnJoined_f26 rfl rfl ?_
              refine g_aload_n C dX1_turnJoined_74 rfl rfl ?_
              refine g_getM C 11 dX1_turnJoined_75 mwX1_turnJoined_inM (by decide) mwX1_turnJoined_f29 rfl rfl ?_
              refine g_iload_n C dX1_turnJoined_78 rfl rfl ?_
              refine g_ialdN C (p) dX1_turnJoined_79 rfl rfl (show p < 16 by omega) (by decide) ?_
              refine g_iald C dX1_turnJoined_80 rfl (Iv_tin I (show p < nl by omega)) ?_
              refine g_aload_n C dX1_turnJoined_81 rfl rfl ?_
              refine g_getM C 11 dX1_turnJoined_82 mwX1_turnJoined_inM (by decide) mwX1_turnJoined_f29 rfl rfl ?_
              refine g_iload_n C dX1_turnJoined_85 rfl rfl ?_
              refine g_iconst (v := 1) C dX1_turnJoined_86 (by decide) ?_
              refine g_iadd C dX1_turnJoined_87 ?_
              refine g_ialdN C (p + 1) dX1_turnJoined_88 rfl (nI_1 p) (show p + 1 < 16 by omega) (by decide) ?_
              refine g_callSEi (na := 2) C dX1_turnJoined_89 (m_has hl (eG E) (uS σ 20 0) τ o _ _) gX1_turnJoined_X1_has rfl rfl (by decide +kernel) rfl (Nat.le_of_ble_eq_true rfl) (by rw [R]; exact ⟨by decide, by decide⟩) (by rw [R]; exact ⟨by decide, by decide⟩) ?_
              refine g_if_ne (tgt := 101) C dX1_turnJoined_92 (by decide) (fun c_92 => ?_) (fun c_92 => ?_)
              · exact absurd (by rw [← e0]; exact hc) c_92
              · refine g_aload_n C dX1_turnJoined_95 rfl rfl ?_
                refine g_iconst (v := 2) C dX1_turnJoined_96 (by decide) ?_
                refine g_callVEi (Cl := RX1) (T := TX1) (N := 16) (ci := 1) (q0 := 12) (na := 1) C dX1_turnJoined_97 (m_failed hl (eG E) (uS σ 20 0) τ o 2) gX1_turnJoined_X1_failed rfl rfl (by decide +kernel) rfl rfl rfl (Nat.le_of_ble_eq_true rfl) (by rw [R]; exact ⟨by decide, by decide⟩) (by rw [R]; exact ⟨by decide, by decide⟩) ?_
                exact g_zret C F dX1_turnJoined_100 (Or.inl rfl) (by decide) (by decide) ⟨rfl, rfl, rfl, rfl⟩
          · have e : cbj (τ 29) (τ 31) (τ 32) p = 0 := by
              unfold cbj
              rw [if_pos (Or.inr c_57)]
            refine g_iconst (v := 1) C dX1_turnJoined_60 (by decide) ?_
            refine g_goto (tgt := 65) C dX1_turnJoined_61 (by decide) ?_
            refine g_istore_n C [(2, _), (0, _), (1, _)] dX1_turnJoined_65 rfl (by decide) rfl ?_
            refine g_iload_n C dX1_turnJoined_66 rfl rfl ?_
            refine g_if_ne (tgt := 95) C dX1_turnJoined_67 (by decide) (fun c_67 => ?_) (fun c_67 => ?_)
            · refine g_aload_n C dX1_turnJoined_95 rfl rfl ?_
              refine g_iconst (v := 2) C dX1_turnJoined_96 (by decide) ?_
              refine g_callVEi (Cl := RX1) (T := TX1) (N := 16) (ci := 1) (q0 := 12) (na := 1) C dX1_turnJoined_97 (m_failed hl (eG E) (uS σ 20 0) τ o 2) gX1_turnJoined_X1_failed rfl rfl (by decide +kernel) rfl rfl rfl (Nat.le_of_ble_eq_true rfl) (by rw [R]; exact ⟨by decide, by decide⟩) (by rw [R]; exact ⟨by decide, by decide⟩) ?_
              exact g_zret C F dX1_turnJoined_100 (Or.inl rfl) (by decide) (by decide) ⟨rfl, rfl, rfl, rfl⟩
            · exact absurd c_67 (by decide)
  · exact absurd c_16 (by rw [h90, ii_2 (show p + 1 < nl by omega) (by omega)]; decide)
set_option maxHeartbeats 4000000 in
set_option maxRecDepth 100000 in
theorem m_turnJoinedX {l : Launch} (hl : l.stackTraces = false) (Γ : gG) (σ : gS) (τ : gT) (o : gO) (nw nl lm : Nat) (w : Int32) (I : IM σ τ nw nl lm) (hw : (w < 0 ∨ ¬ w < σ 30) ∨ ∃ p, w = nI p ∧ p + 1 = nl) : Ct l yX1_turnJoined wsX1_turnJoined 3 96 0 0 [.ref (Γ.2.1 101), .int w] Γ σ τ o (pE (some (.int 0)) (uS (uS σ 20 0) 20 1) τ o) (noX) := by
  refine ct_of hl (by decide +kernel) rfl (Nat.le_of_ble_eq_true rfl) ?_
  intro E C F T hΓ hL R
  subst hΓ
  subst hL
  show G E 0 0 0 [(0, .ref ((eG E).2.1 101)), (1, .int w)] [] σ τ o
  have hnw := Iv_nw I
  have hnl := Iv_nl I
  have h3 : σ 21 = nI nw := Iv_h3 I
  have h9 : σ 30 = nI nl := Iv_h9 I
  have h4 : ¬ σ 22 = 0 := Iv_ne I
  have I0 : IM (uS σ 20 0) τ nw nl lm := I
  have h30 : uS σ 20 0 21 = nI nw := h3
  have h90 : uS σ 20 0 30 = nI nl := h9
  have h40 : ¬ uS σ 20 0 22 = 0 := h4
  refine g_aload_n C dX1_turnJoined_0 rfl rfl ?_
  refine g_iconst (v := 0) C dX1_turnJoined_1 (by decide) ?_
  refine g_putM C 0 dX1_turnJoined_2 mwX1_turnJoined_inM (by decide) mwX1_turnJoined_f45 rfl rfl (by decide +kernel) rfl ?_
  refine g_iload_n C dX1_turnJoined_5 rfl rfl ?_
  refine g_iconst (v := 0) C dX1_turnJoined_6 (by decide) ?_
  refine g_aload_n C dX1_turnJoined_7 rfl rfl ?_
  refine g_getM C 10 dX1_turnJoined_8 mwX1_turnJoined_inM (by decide) mwX1_turnJoined_f55 rfl rfl ?_
  refine g_iconst (v := 2) C dX1_turnJoined_11 (by decide) ?_
  refine g_isub C dX1_turnJoined_12 ?_
  refine g_callSEi (na := 3) C dX1_turnJoined_13 (m_isIn hl (eG E) (uS σ 20 0) τ o _ _ _) gX1_turnJoined_X1_isIn rfl rfl (by decide +kernel) rfl (Nat.le_of_ble_eq_true rfl) (by rw [R]; exact ⟨by decide, by decide⟩) (by rw [R]; exact ⟨by decide, by decide⟩) ?_
  refine g_if_ne (tgt := 25) C dX1_turnJoined_16 (by decide) (fun c_16 => ?_) (fun c_16 => ?_)
  · exact absurd (by rw [h90]; exact ii_2n (by omega) (by rw [← h9]; exact hw)) c_16
  · refine g_aload_n C dX1_turnJoined_19 rfl rfl ?_
    refine g_iconst (v := 1) C dX1_turnJoined_20 (by decide) ?_
    refine g_callVEi (Cl := RX1) (T := TX1) (N := 16) (ci := 1) (q0 := 12) (na := 1) C dX1_turnJoined_21 (m_failed hl (eG E) (uS σ 20 0) τ o 1) gX1_turnJoined_X1_failed rfl rfl (by decide +kernel) rfl rfl rfl (Nat.le_of_ble_eq_true rfl) (by rw [R]; exact ⟨by decide, by decide⟩) (by rw [R]; exact ⟨by decide, by decide⟩) ?_
    exact g_zret C F dX1_turnJoined_24 (Or.inl rfl) (by decide) (by decide) ⟨rfl, rfl, rfl, rfl⟩
set_option maxRecDepth 100000 in
theorem mwX1_strike_inM : ∀ w ∈ wsX10, w ∈ wsX1_strike := by decide +kernel
set_option maxRecDepth 100000 in
theorem mwX1_strike_f55 : Cond.fieldLink RX1 55 "TelegraphPricesModel" "length" "I" ∈ wsX1_strike := by decide +kernel
set_option maxRecDepth 100000 in
theorem mwX1_strike_f29 : Cond.fieldLink RX1 29 "TelegraphPricesModel" "word" "[I" ∈ wsX1_strike := by decide +kernel
set_option maxRecDepth 100000 in
theorem mwX1_strike_f32 : Cond.fieldLink RX1 32 "TelegraphPricesModel" "joined" "[Z" ∈ wsX1_strike := by decide +kernel
set_option maxRecDepth 100000 in
theorem mwX1_strike_f45 : Cond.fieldLink RX1 45 "TelegraphPricesModel" "thrown" "I" ∈ wsX1_strike := by decide +kernel
set_option maxHeartbeats 4000000 in
set_option maxRecDepth 100000 in
theorem m_strike {l : Launch} (hl : l.stackTraces = false) (Γ : gG) (σ : gS) (τ : gT) (o : gO) (nw nl lm : Nat) (p : Nat) (I : IM σ τ nw nl lm) (hp : p < nl) : Ct l yX1_strike wsX1_strike 3 96 0 0 [.ref (Γ.2.1 101), .int (nI p)] Γ σ τ o (pI (fun r σ' τ' o' => r = nI (nl - 1) ∧ σ' = uS (uS σ 20 0) 30 (nI (nl - 1)) ∧ o' = o ∧ SK 31 32 p (nl - 1) τ τ')) (noX) := by
  refine ct_of hl (by decide +kernel) rfl (Nat.le_of_ble_eq_true rfl) ?_
  intro E C F T hΓ hL R
  subst hΓ
  subst hL
  show G E 0 0 0 [(0, .ref ((eG E).2.1 101)), (1, .int (nI p))] [] σ τ o
  have hnw := Iv_nw I
  have hnl := Iv_nl I
  have h3 : σ 21 = nI nw := Iv_h3 I
  have h9 : σ 30 = nI nl := Iv_h9 I
  have h4 : ¬ σ 22 = 0 := Iv_ne I
  have I0 : IM (uS σ 20 0) τ nw nl lm := I
  have h30 : uS σ 20 0 21 = nI nw := h3
  have h90 : uS σ 20 0 30 = nI nl := h9
  have h40 : ¬ uS σ 20 0 22 = 0 := h4
  have loop : ∀ m a : Nat, ∀ τ' : gT, a + m + 1 = nl → p ≤ a → SK 31 32 p a τ τ' → G E (0 + 0) (0 + 0) 34 [(2, .int (nI a)), (0, .ref ((eG E).2.1 101)), (1, .int (nI p))] [] (uS σ 20 0) τ' o := by
    intro m
    induction m with
    | zero =>
      intro a τ' ha hpa hN
      refine g_iload_n C dX1_strike_34 rfl rfl ?_
      refine g_aload_n C dX1_strike_35 rfl rfl ?_
      refine g_getM C 10 dX1_strike_36 mwX1_strike_inM (by decide) mwX1_strike_f55 rfl rfl ?_
      refine g_iconst (v := 1) C dX1_strike_39 (by decide) ?_
      refine g_isub C dX1_strike_40 ?_
      refine g_icmp_ge (tgt := 78) C dX1_strike_41 (by decide) (fun c_41 => ?_) (fun c_41 => ?_)
      · refine g_aload_n C dX1_strike_78 rfl rfl ?_
        refine g_dup C dX1_strike_79 rfl ?_
        refine g_getM C 10 dX1_strike_80 mwX1_strike_inM (by decide) mwX1_strike_f55 rfl rfl ?_
        refine g_iconst (v := 1) C dX1_strike_83 (by decide) ?_
        refine g_isub C dX1_strike_84 ?_
        refine g_topi (show _ = nI (nl - 1) by rw [h90]; exact nI_m1 (by omega)) ?_
        refine g_putM C 10 dX1_strike_85 mwX1_strike_inM (by decide) mwX1_strike_f55 rfl rfl (by decide +kernel) rfl ?_
        refine g_aload_n C dX1_strike_88 rfl rfl ?_
        refine g_getM C 10 dX1_strike_89 mwX1_strike_inM (by decide) mwX1_strike_f55 rfl rfl ?_
        exact g_iret C F dX1_strike_92 (by decide) (by decide) ⟨_, rfl, rfl, rfl, rfl, by rw [show nl - 1 = a by omega]; exact hN⟩
      · exact absurd (by rw [h90, nI_m1 (show nl ≠ 0 by omega)]; exact nI_le (by omega) (by omega)) c_41
    | succ m ih =>
      intro a τ' ha hpa hN
      refine g_iload_n C dX1_strike_34 rfl rfl ?_
      refine g_aload_n C dX1_strike_35 rfl rfl ?_
      refine g_getM C 10 dX1_strike_36 mwX1_strike_inM (by decide) mwX1_strike_f55 rfl rfl ?_
      refine g_iconst (v := 1) C dX1_strike_39 (by decide) ?_
      refine g_isub C dX1_strike_40 ?_
      refine g_icmp_ge (tgt := 78) C dX1_strike_41 (by decide) (fun c_41 => ?_) (fun c_41 => ?_)
      · exact absurd (by rw [h90, nI_m1 (show nl ≠ 0 by omega)] at c_41; exact c_41) (nI_ge (by omega) (by omega))
      · refine g_aload_n C dX1_strike_44 rfl rfl ?_
        refine g_getM C 11 dX1_strike_45 mwX1_strike_inM (by decide) mwX1_strike_f29 rfl rfl ?_
        refine g_iload_n C dX1_strike_48 rfl rfl ?_
        refine g_aload_n C dX1_strike_49 rfl rfl ?_
        refine g_getM C 11 dX1_strike_50 mwX1_strike_inM (by decide) mwX1_strike_f29 rfl rfl ?_
        refine g_iload_n C dX1_strike_53 rfl rfl ?_
        refine g_iconst (v := 1) C dX1_strike_54 (by decide) ?_
        refine g_iadd C dX1_strike_55 ?_
        refine g_ialdN C (a + 1) dX1_strike_56 rfl (nI_1 a) (show a + 1 < 16 by omega) (by decide) ?_
        refine g_iastN C (a) dX1_strike_57 rfl rfl (show a < 16 by omega) (by decide) rfl ?_
        refine g_aload_n C dX1_strike_58 rfl rfl ?_
        refine g_getM C 12 dX1_strike_59 mwX1_strike_inM (by decide) mwX1_strike_f32 rfl rfl ?_
        refine g_iload_n C dX1_strike_62 rfl rfl ?_
        refine g_aload_n C dX1_strike_63 rfl rfl ?_
        refine g_getM C 12 dX1_strike_64 mwX1_strike_inM (by decide) mwX1_strike_f32 rfl rfl ?_
        refine g_iload_n C dX1_strike_67 rfl rfl ?_
        refine g_iconst (v := 1) C dX1_strike_68 (by decide) ?_
        refine g_iadd C dX1_strike_69 ?_
        refine g_zaldN C (a + 1) dX1_strike_70 rfl (nI_1 a) (show a + 1 < 16 by omega) (by decide) ?_
        refine g_zastN C (a) dX1_strike_71 rfl rfl (show a < 16 by omega) (by decide) (hN.2.2.2 (a + 1)) rfl ?_
        refine g_iinc C 0 [(2, _), (0, _), (1, _)] dX1_strike_72 rfl (nI_i1 a) (by decide) rfl ?_
        refine g_goto (tgt := 34) C dX1_strike_75 (by decide) ?_
        exact ih (a + 1) _ (by omega) (by omega) (SK_next (by decide) hN hpa)
  refine g_aload_n C dX1_strike_0 rfl rfl ?_
  refine g_iconst (v := 0) C dX1_strike_1 (by decide) ?_
  refine g_putM C 0 dX1_strike_2 mwX1_strike_inM (by decide) mwX1_strike_f45 rfl rfl (by decide +kernel) rfl ?_
  refine g_aload_n C dX1_strike_5 rfl rfl ?_
  refine g_iload_n C dX1_strike_6 rfl rfl ?_
  refine g_callVEi (Cl := RX1) (T := TX1) (N := 16) (ci := 1) (q0 := 12) (na := 1) C dX1_strike_7 (m_isPlace hl (eG E) (uS σ 20 0) τ o _) gX1_strike_X1_isPlace rfl rfl (by decide +kernel) rfl rfl rfl (Nat.le_of_ble_eq_true rfl) (by rw [R]; exact ⟨by decide, by decide⟩) (by rw [R]; exact ⟨by decide, by decide⟩) ?_
  refine g_if_ne (tgt := 19) C dX1_strike_10 (by decide) (fun c_10 => ?_) (fun c_10 => ?_)
  · refine g_iload_n C dX1_strike_19 rfl rfl ?_
    refine g_if_le (tgt := 32) C dX1_strike_20 (by decide) (fun c_20 => ?_) (fun c_20 => ?_)
    · have hp0 : p = 0 := by
        rcases Nat.eq_zero_or_pos p with z | z
        · exact z
        · exact absurd c_20 (nI_nle z (by omega))
      refine g_iload_n C dX1_strike_32 rfl rfl ?_
      refine g_istore_n C [(2, _), (0, _), (1, _)] dX1_strike_33 rfl (by decide) rfl ?_
      refine loop (nl - 1 - p) p _ (by omega) (Nat.le_refl _) ⟨fun _ _ _ => rfl, SH_0 _ _, ?_, Iv_jd I⟩
      unfold jz
      rw [if_pos hp0]
      exact SH_0 _ _
    · have hp0 : p ≠ 0 := fun z => c_20 (by rw [z]; decide)
      refine g_aload_n C dX1_strike_23 rfl rfl ?_
      refine g_getM C 12 dX1_strike_24 mwX1_strike_inM (by decide) mwX1_strike_f32 rfl rfl ?_
      refine g_iload_n C dX1_strike_27 rfl rfl ?_
      refine g_iconst (v := 1) C dX1_strike_28 (by decide) ?_
      refine g_isub C dX1_strike_29 ?_
      refine g_iconst (v := 0) C dX1_strike_30 (by decide) ?_
      refine g_zastN C (p - 1) dX1_strike_31 rfl (nI_m1 hp0) (show p - 1 < 16 by omega) (by decide) (Or.inl rfl) rfl ?_
      refine g_iload_n C dX1_strike_32 rfl rfl ?_
      refine g_istore_n C [(2, _), (0, _), (1, _)] dX1_strike_33 rfl (by decide) rfl ?_
      refine loop (nl - 1 - p) p _ (by omega) (Nat.le_refl _) ⟨fun c _ c2 => uT_ne c2, by rw [uT_ne (by decide)]; exact SH_0 _ _, ?_, ?_⟩
      · rw [uT_eq]
        unfold jz
        rw [if_neg hp0]
        exact SH_0 _ _
      · rw [uT_eq]
        exact upd_01 (Iv_jd I) (Or.inl rfl)
  · exact absurd c_10 (by rw [h90, ii_y hp (by omega)]; decide)
set_option maxHeartbeats 4000000 in
set_option maxRecDepth 100000 in
theorem m_strikeX {l : Launch} (hl : l.stackTraces = false) (Γ : gG) (σ : gS) (τ : gT) (o : gO) (nw nl lm : Nat) (w : Int32) (I : IM σ τ nw nl lm) (hw : w < 0 ∨ ¬ w < σ 30) : Ct l yX1_strike wsX1_strike 3 96 0 0 [.ref (Γ.2.1 101), .int w] Γ σ τ o (pE (some (.int 0)) (uS (uS σ 20 0) 20 1) τ o) (noX) := by
  refine ct_of hl (by decide +kernel) rfl (Nat.le_of_ble_eq_true rfl) ?_
  intro E C F T hΓ hL R
  subst hΓ
  subst hL
  show G E 0 0 0 [(0, .ref ((eG E).2.1 101)), (1, .int w)] [] σ τ o
  have hnw := Iv_nw I
  have hnl := Iv_nl I
  have h3 : σ 21 = nI nw := Iv_h3 I
  have h9 : σ 30 = nI nl := Iv_h9 I
  have h4 : ¬ σ 22 = 0 := Iv_ne I
  have I0 : IM (uS σ 20 0) τ nw nl lm := I
  have h30 : uS σ 20 0 21 = nI nw := h3
  have h90 : uS σ 20 0 30 = nI nl := h9
  have h40 : ¬ uS σ 20 0 22 = 0 := h4
  refine g_aload_n C dX1_strike_0 rfl rfl ?_
  refine g_iconst (v := 0) C dX1_strike_1 (by decide) ?_
  refine g_putM C 0 dX1_strike_2 mwX1_strike_inM (by decide) mwX1_strike_f45 rfl rfl (by decide +kernel) rfl ?_
  refine g_aload_n C dX1_strike_5 rfl rfl ?_
  refine g_iload_n C dX1_strike_6 rfl rfl ?_
  refine g_callVEi (Cl := RX1) (T := TX1) (N := 16) (ci := 1) (q0 := 12) (na := 1) C dX1_strike_7 (m_isPlace hl (eG E) (uS σ 20 0) τ o _) gX1_strike_X1_isPlace rfl rfl (by decide +kernel) rfl rfl rfl (Nat.le_of_ble_eq_true rfl) (by rw [R]; exact ⟨by decide, by decide⟩) (by rw [R]; exact ⟨by decide, by decide⟩) ?_
  refine g_if_ne (tgt := 19) C dX1_strike_10 (by decide) (fun c_10 => ?_) (fun c_10 => ?_)
  · exact absurd (by rw [h90]; exact ii_n (by omega) (by rw [← h9]; exact hw)) c_10
  · refine g_aload_n C dX1_strike_13 rfl rfl ?_
    refine g_iconst (v := 1) C dX1_strike_14 (by decide) ?_
    refine g_callVEi (Cl := RX1) (T := TX1) (N := 16) (ci := 1) (q0 := 12) (na := 1) C dX1_strike_15 (m_fail hl (eG E) (uS σ 20 0) τ o 1) gX1_strike_X1_fail rfl rfl (by decide +kernel) rfl rfl rfl (Nat.le_of_ble_eq_true rfl) (by rw [R]; exact ⟨by decide, by decide⟩) (by rw [R]; exact ⟨by decide, by decide⟩) ?_
    exact g_iret C F dX1_strike_18 (by decide) (by decide) ⟨rfl, rfl, rfl, rfl⟩
def wm (nw : Nat) (S Tg : Nat → Int32) : Nat → Int32
  | 0 => 1
  | p + 1 => if wm nw S Tg p * sI (S (Tg p).toNatClampNeg) nw < 1000000 then wm nw S Tg p * sI (S (Tg p).toNatClampNeg) nw else 1000000
set_option maxRecDepth 100000 in
theorem mwX1_wordings_inM : ∀ w ∈ wsX10, w ∈ wsX1_wordings := by decide +kernel
set_option maxRecDepth 100000 in
theorem mwX1_wordings_f55 : Cond.fieldLink RX1 55 "TelegraphPricesModel" "length" "I" ∈ wsX1_wordings := by decide +kernel
set_option maxRecDepth 100000 in
theorem mwX1_wordings_c75 : Cond.constant RX1 75 (1000000) ∈ wsX1_wordings := by decide +kernel
set_option maxRecDepth 100000 in
theorem mwX1_wordings_f29 : Cond.fieldLink RX1 29 "TelegraphPricesModel" "word" "[I" ∈ wsX1_wordings := by decide +kernel
set_option maxRecDepth 100000 in
theorem mwX1_wordings_l80 : Cond.methodLink RX1 80 Lib.Math.min.name ∈ wsX1_wordings := by decide +kernel
set_option maxRecDepth 100000 in
theorem mwX1_wordings_smin : Cond.static Lib.Math.min.name ∈ wsX1_wordings := by decide +kernel
set_option maxRecDepth 100000 in
theorem mwX1_wordings_iMath : Cond.initialized "java/lang/Math" ∈ wsX1_wordings := by decide +kernel
set_option maxRecDepth 100000 in
theorem mwX1_wordings_kmin : Cond.code Lib.Math.min.name Lib.Math.min.code 2 (some .int) ∈ wsX1_wordings := by decide +kernel
set_option maxRecDepth 100000 in
theorem mwX1_wordings_f45 : Cond.fieldLink RX1 45 "TelegraphPricesModel" "thrown" "I" ∈ wsX1_wordings := by decide +kernel
set_option maxHeartbeats 4000000 in
set_option maxRecDepth 100000 in
theorem m_wordings {l : Launch} (hl : l.stackTraces = false) (Γ : gG) (σ : gS) (τ : gT) (o : gO) (nw nl lm : Nat) (I : IM σ τ nw nl lm) : Ct l yX1_wordings wsX1_wordings 2 64 0 0 [.ref (Γ.2.1 101)] Γ σ τ o (pE (some (.int (wm nw (τ 28) (τ 31) nl))) (uS σ 20 0) τ o) (noX) := by
  refine ct_of hl (by decide +kernel) rfl (Nat.le_of_ble_eq_true rfl) ?_
  intro E C F T hΓ hL R
  subst hΓ
  subst hL
  show G E 0 0 0 [(0, .ref ((eG E).2.1 101))] [] σ τ o
  have hnw := Iv_nw I
  have hnl := Iv_nl I
  have h3 : σ 21 = nI nw := Iv_h3 I
  have h9 : σ 30 = nI nl := Iv_h9 I
  have h4 : ¬ σ 22 = 0 := Iv_ne I
  have I0 : IM (uS σ 20 0) τ nw nl lm := I
  have h30 : uS σ 20 0 21 = nI nw := h3
  have h90 : uS σ 20 0 30 = nI nl := h9
  have h40 : ¬ uS σ 20 0 22 = 0 := h4
  have loop : ∀ m p : Nat, p + m = nl → G E 0 0 9 [(2, .int (nI p)), (1, .int (wm nw (τ 28) (τ 31) p)), (0, .ref ((eG E).2.1 101))] [] (uS σ 20 0) τ o := by
    intro m
    induction m with
    | zero =>
      intro p hp
      refine g_iload_n C dX1_wordings_9 rfl rfl ?_
      refine g_aload_n C dX1_wordings_10 rfl rfl ?_
      refine g_getM C 10 dX1_wordings_11 mwX1_wordings_inM (by decide) mwX1_wordings_f55 rfl rfl ?_
      refine g_icmp_ge (tgt := 41) C dX1_wordings_14 (by decide) (fun c_14 => ?_) (fun c_14 => ?_)
      · refine g_iload_n C dX1_wordings_41 rfl rfl ?_
        exact g_iret C F dX1_wordings_42 (by decide) (by decide) ⟨by rw [show p = nl by omega], rfl, rfl, rfl⟩
      · exact absurd (by rw [h90]; exact nI_le (by omega) (by omega)) c_14
    | succ m ih =>
      intro p hp
      have hpl : p < nl := by omega
      refine g_iload_n C dX1_wordings_9 rfl rfl ?_
      refine g_aload_n C dX1_wordings_10 rfl rfl ?_
      refine g_getM C 10 dX1_wordings_11 mwX1_wordings_inM (by decide) mwX1_wordings_f55 rfl rfl ?_
      refine g_icmp_ge (tgt := 41) C dX1_wordings_14 (by decide) (fun c_14 => ?_) (fun c_14 => ?_)
      · exact absurd (by rw [h90] at c_14; exact c_14) (nI_ge (by omega) (by omega))
      · refine g_ldc C dX1_wordings_17 mwX1_wordings_c75 ?_
        refine g_iload_n C dX1_wordings_19 rfl rfl ?_
        refine g_aload_n C dX1_wordings_20 rfl rfl ?_
        refine g_aload_n C dX1_wordings_21 rfl rfl ?_
        refine g_getM C 11 dX1_wordings_22 mwX1_wordings_inM (by decide) mwX1_wordings_f29 rfl rfl ?_
        refine g_iload_n C dX1_wordings_25 rfl rfl ?_
        refine g_ialdN C (p) dX1_wordings_26 rfl rfl (show p < 16 by omega) (by decide) ?_
        refine g_callVEi (Cl := RX1) (T := TX1) (N := 16) (ci := 1) (q0 := 12) (na := 1) C dX1_wordings_27 (m_standIns hl (eG E) (uS σ 20 0) τ o nw nl lm _ I0 (Iv_tin I hpl)) gX1_wordings_X1_standIns rfl rfl (by decide +kernel) rfl rfl rfl (Nat.le_of_ble_eq_true rfl) (by rw [R]; exact ⟨by decide, by decide⟩) (by rw [R]; exact ⟨by decide, by decide⟩) ?_
        refine g_imul C dX1_wordings_30 ?_
        refine g_mmin C dX1_wordings_31 mwX1_wordings_l80 mwX1_wordings_smin mwX1_wordings_iMath mwX1_wordings_kmin (by rw [R]; exact ⟨by decide, Nat.le_of_ble_eq_true rfl, by decide, by decide⟩) ?_
        refine g_istore_n C [(1, _), (2, _), (0, _)] dX1_wordings_34 rfl (by decide) rfl ?_
        refine g_iinc C 1 [(2, _), (1, _), (0, _)] dX1_wordings_35 rfl (nI_i1 p) (by decide) rfl ?_
        refine g_goto (tgt := 9) C dX1_wordings_38 (by decide) ?_
        exact ih (p + 1) (by omega)
  refine g_aload_n C dX1_wordings_0 rfl rfl ?_
  refine g_iconst (v := 0) C dX1_wordings_1 (by decide) ?_
  refine g_putM C 0 dX1_wordings_2 mwX1_wordings_inM (by decide) mwX1_wordings_f45 rfl rfl (by decide +kernel) rfl ?_
  refine g_iconst (v := 1) C dX1_wordings_5 (by decide) ?_
  refine g_istore_n C [(1, _), (0, _)] dX1_wordings_6 rfl (by decide) rfl ?_
  refine g_iconst (v := 0) C dX1_wordings_7 (by decide) ?_
  refine g_istore_n C [(2, _), (1, _), (0, _)] dX1_wordings_8 rfl (by decide) rfl ?_
  exact loop nl 0 (Nat.zero_add _)
def RWm (σ : gS) (τ : gT) (nw nl : Nat) (τ' : gT) : Prop := (∀ c, (c < 31 ∨ c > 32) → (c < 33 ∨ 35 < c) → τ' c = τ c) ∧ (∀ i, τ' 35 i = 0 ∨ τ' 35 i = 1) ∧ (∀ q, q < nl → τ' 31 q = CWm σ τ nw nl q ∧ τ' 32 q = cjd (prm σ τ nw nl) q) ∧ ∀ q, nl ≤ q → τ' 31 q = τ 31 q ∧ τ' 32 q = τ 32 q
theorem uA1_eq {τ : gT} {c : Nat} {f : Nat → Int32} : uA1 τ c f c = f := by
  unfold uA1
  rw [if_pos rfl]
theorem uA1_ne {τ : gT} {c a : Nat} {f : Nat → Int32} (h : a ≠ c) : uA1 τ c f a = τ a := by
  unfold uA1
  rw [if_neg h]
section
variable {nw nl lm : Nat} {σ : gS} {τ : gT}
theorem cwm_in (I : IM σ τ nw nl lm) : ∀ q, q < nl → ∃ w, w < nw ∧ CWm σ τ nw nl q = nI w := by
  intro q hq
  have h12 := Iv_nw I
  have pair : ∀ p, p < nl → prm σ τ nw nl p = true → ∃ a b, a < nw ∧ b < nw ∧ Am σ τ nw nl p = nI a ∧ Bm σ τ nw nl p = nI b := by
    intro p hp hpr
    obtain ⟨-, a0, b0, ha, hb, e1, e2, -⟩ := pr_fin I hp hpr
    exact ⟨a0, b0, ha, hb, e1, e2⟩
  unfold CWm cwd
  by_cases h1 : isSec (prm σ τ nw nl) q = true
  · rw [if_pos h1]
    cases q with
    | zero => exact (Bool.false_ne_true h1).elim
    | succ p =>
      have h2 : prm σ τ nw nl p = true := by
        simp only [isSec, Bool.and_eq_true] at h1
        exact h1.2
      obtain ⟨a, b, ha, hb, e1, e2⟩ := pair p (by omega) h2
      exact ⟨b, hb, e2⟩
  · rw [if_neg h1]
    by_cases h2 : prm σ τ nw nl q = true
    · rw [if_pos h2]
      obtain ⟨a, b, ha, hb, e1, e2⟩ := pair q hq h2
      exact ⟨a, ha, e1⟩
    · rw [if_neg h2]
      obtain ⟨a, ha, e⟩ := bw_fin I hq
      exact ⟨a, ha.1, by unfold Sm; rw [e]⟩
theorem cjm_last (I : IM σ τ nw nl lm) (h : 0 < nl) : cjd (prm σ τ nw nl) (nl - 1) = 0 := by
  have e : prm σ τ nw nl (nl - 1) = false := by
    cases hp : prm σ τ nw nl (nl - 1) with
    | false => rfl
    | true =>
      have := (pr_fin I (show nl - 1 < nl by omega) hp).1
      omega
  unfold cjd
  simp only [isSec, e, Bool.and_false]
  rfl
end
theorem RWm_I {nw nl lm : Nat} {σ : gS} {τ τ' : gT} (I : IM σ τ nw nl lm) (h : RWm σ τ nw nl τ') : IM σ τ' nw nl lm := by
  unfold IM
  rw [h.1 27 (by decide) (by decide), h.1 28 (by decide) (by decide)]
  refine Iv_rw I (fun i hi => by rw [(h.2.2.1 i hi).1]; exact cwm_in I i hi) (fun i => ?_) h.2.1 (fun h0 => by rw [(h.2.2.1 (nl - 1) (by omega)).2]; exact cjm_last I h0)
  rcases Nat.lt_or_ge i nl with q | q
  · rw [(h.2.2.1 i q).2]
    exact cjd_01 _ _
  · rw [(h.2.2.2 i q).2]
    exact Iv_jd I i
set_option maxRecDepth 100000 in
theorem mwX1_reword_inM : ∀ w ∈ wsX10, w ∈ wsX1_reword := by decide +kernel
set_option maxRecDepth 100000 in
theorem mwX1_reword_f45 : Cond.fieldLink RX1 45 "TelegraphPricesModel" "thrown" "I" ∈ wsX1_reword := by decide +kernel
set_option maxRecDepth 100000 in
theorem mwX1_reword_f39 : Cond.fieldLink RX1 39 "TelegraphPricesModel" "cheap" "[I" ∈ wsX1_reword := by decide +kernel
set_option maxRecDepth 100000 in
theorem mwX1_reword_f29 : Cond.fieldLink RX1 29 "TelegraphPricesModel" "word" "[I" ∈ wsX1_reword := by decide +kernel
set_option maxRecDepth 100000 in
theorem mwX1_reword_f55 : Cond.fieldLink RX1 55 "TelegraphPricesModel" "length" "I" ∈ wsX1_reword := by decide +kernel
set_option maxRecDepth 100000 in
theorem mwX1_reword_l118 : Cond.methodLink RX1 118 arraycopyName ∈ wsX1_reword := by decide +kernel
set_option maxRecDepth 100000 in
theorem mwX1_reword_nac : Cond.native arraycopyName ∈ wsX1_reword := by decide +kernel
set_option maxRecDepth 100000 in
theorem mwX1_reword_sac : Cond.static arraycopyName ∈ wsX1_reword := by decide +kernel
set_option maxRecDepth 100000 in
theorem mwX1_reword_iSys : Cond.initialized "java/lang/System" ∈ wsX1_reword := by decide +kernel
set_option maxRecDepth 100000 in
theorem mwX1_reword_f42 : Cond.fieldLink RX1 42 "TelegraphPricesModel" "with" "[Z" ∈ wsX1_reword := by decide +kernel
set_option maxRecDepth 100000 in
theorem mwX1_reword_f32 : Cond.fieldLink RX1 32 "TelegraphPricesModel" "joined" "[Z" ∈ wsX1_reword := by decide +kernel
set_option maxHeartbeats 4000000 in
set_option maxRecDepth 100000 in
theorem m_reword {l : Launch} (hl : l.stackTraces = false) (Γ : gG) (σ : gS) (τ : gT) (o : gO) (nw nl lm : Nat) (I : IM σ τ nw nl lm) : Ct l yX1_reword wsX1_reword 5 160 0 0 [.ref (Γ.2.1 101)] Γ σ τ o (pI (fun r σ' τ' o' => r = CTm σ τ nl - CTm σ τ' nl ∧ σ' = uS σ 20 0 ∧ o' = o ∧ RWm σ τ nw nl τ')) (noX) := by
  refine ct_of hl (by decide +kernel) rfl (Nat.le_of_ble_eq_true rfl) ?_
  intro E C F T hΓ hL R
  subst hΓ
  subst hL
  show G E 0 0 0 [(0, .ref ((eG E).2.1 101))] [] σ τ o
  have hnw := Iv_nw I
  have hnl := Iv_nl I
  have h3 : σ 21 = nI nw := Iv_h3 I
  have h9 : σ 30 = nI nl := Iv_h9 I
  have h4 : ¬ σ 22 = 0 := Iv_ne I
  have I0 : IM (uS σ 20 0) τ nw nl lm := I
  have h30 : uS σ 20 0 21 = nI nw := h3
  have h90 : uS σ 20 0 30 = nI nl := h9
  have h40 : ¬ uS σ 20 0 22 = 0 := h4
  refine g_aload_n C dX1_reword_0 rfl rfl ?_
  refine g_iconst (v := 0) C dX1_reword_1 (by decide) ?_
  refine g_putM C 0 dX1_reword_2 mwX1_reword_inM (by decide) mwX1_reword_f45 rfl rfl (by decide +kernel) rfl ?_
  refine g_aload_n C dX1_reword_5 rfl rfl ?_
  refine g_callVEi (Cl := RX1) (T := TX1) (N := 16) (ci := 1) (q0 := 12) (na := 0) C dX1_reword_6 (m_countNow hl (eG E) (uS σ 20 0) τ o nw nl lm I0) gX1_reword_X1_countNow rfl rfl (by decide +kernel) rfl rfl rfl (Nat.le_of_ble_eq_true rfl) (by rw [R]; exact ⟨by decide, by decide⟩) (by rw [R]; exact ⟨by decide, by decide⟩) ?_
  refine g_istore_n C [(1, _), (0, _)] dX1_reword_9 rfl (by decide) rfl ?_
  refine g_aload_n C dX1_reword_10 rfl rfl ?_
  refine g_callVv (Cl := RX1) (T := TX1) (N := 16) (ci := 1) (q0 := 12) (na := 0) C dX1_reword_11 (m_choose hl (eG E) (uS σ 20 0) τ o nw nl lm I0) gX1_reword_X1_choose rfl rfl (by decide +kernel) rfl rfl rfl (Nat.le_of_ble_eq_true rfl) (by rw [R]; exact ⟨by decide, by decide⟩) (by rw [R]; exact ⟨by decide, by decide⟩) noX_kx (fun σ1 τ1 o1 hN1 => ?_)
  obtain ⟨e1, e2, hN⟩ := hN1
  rw [e1, e2]
  refine g_aload_n C dX1_reword_14 rfl rfl ?_
  refine g_getM C 14 dX1_reword_15 mwX1_reword_inM (by decide) mwX1_reword_f39 rfl rfl ?_
  refine g_iconst (v := 0) C dX1_reword_18 (by decide) ?_
  refine g_aload_n C dX1_reword_19 rfl rfl ?_
  refine g_getM C 11 dX1_reword_20 mwX1_reword_inM (by decide) mwX1_reword_f29 rfl rfl ?_
  refine g_iconst (v := 0) C dX1_reword_23 (by decide) ?_
  refine g_aload_n C dX1_reword_24 rfl rfl ?_
  refine g_getM C 10 dX1_reword_25 mwX1_reword_inM (by decide) mwX1_reword_f55 rfl rfl ?_
  refine g_copy C (c0 := 34) (c1 := 31) (m := nl) 0 .int dX1_reword_28 mwX1_reword_l118 mwX1_reword_nac mwX1_reword_sac mwX1_reword_iSys rfl rfl rfl rfl h90 (by omega) (show nl ≤ 16 from hnl) (show nl ≤ 16 from hnl) (fun _ => rfl) rfl (by rw [R]; exact ⟨by decide, Nat.le_of_ble_eq_true rfl⟩) ?_
  refine g_aload_n C dX1_reword_31 rfl rfl ?_
  refine g_getM C 15 dX1_reword_32 mwX1_reword_inM (by decide) mwX1_reword_f42 rfl rfl ?_
  refine g_iconst (v := 0) C dX1_reword_35 (by decide) ?_
  refine g_aload_n C dX1_reword_36 rfl rfl ?_
  refine g_getM C 12 dX1_reword_37 mwX1_reword_inM (by decide) mwX1_reword_f32 rfl rfl ?_
  refine g_iconst (v := 0) C dX1_reword_40 (by decide) ?_
  refine g_aload_n C dX1_reword_41 rfl rfl ?_
  refine g_getM C 10 dX1_reword_42 mwX1_reword_inM (by decide) mwX1_reword_f55 rfl rfl ?_
  refine g_copy C (c0 := 35) (c1 := 32) (m := nl) 1 .boolean dX1_reword_45 mwX1_reword_l118 mwX1_reword_nac mwX1_reword_sac mwX1_reword_iSys rfl rfl rfl rfl h90 (by omega) (show nl ≤ 16 from hnl) (show nl ≤ 16 from hnl) (fun i => by rw [uA1_ne (by decide)]; exact fits_z (hN.2.2.1 i)) rfl (by rw [R]; exact ⟨by decide, Nat.le_of_ble_eq_true rfl⟩) ?_
  have hR : RWm σ τ nw nl (uA1 (uA1 τ1 31 (va_cpy (τ1 34) (τ1 31) 0 0 nl)) 32 (va_cpy ((uA1 τ1 31 (va_cpy (τ1 34) (τ1 31) 0 0 nl)) 35) ((uA1 τ1 31 (va_cpy (τ1 34) (τ1 31) 0 0 nl)) 32) 0 0 nl)) := by
    refine ⟨fun c c1 c2 => by rw [uA1_ne (by omega), uA1_ne (by omega)]; exact hN.1 c c2, fun i => by rw [uA1_ne (by decide), uA1_ne (by decide)]; exact hN.2.2.1 i, fun q hq => ?_, fun q hq => ?_⟩
    · rw [uA1_ne (show (31 : Nat) ≠ 32 by decide), uA1_eq, uA1_eq, uA1_ne (show (35 : Nat) ≠ 31 by decide), uA1_ne (show (32 : Nat) ≠ 31 by decide), pk_cpy_in (by omega) (by omega), pk_cpy_in (by omega) (by omega), show 0 + (q - 0) = q by omega]
      exact hN.2.2.2 q hq
    · rw [uA1_ne (show (31 : Nat) ≠ 32 by decide), uA1_eq, uA1_eq, uA1_ne (show (35 : Nat) ≠ 31 by decide), uA1_ne (show (32 : Nat) ≠ 31 by decide), pk_cpy_out (by omega), pk_cpy_out (by omega), hN.1 31 (by decide), hN.1 32 (by decide)]
      exact ⟨rfl, rfl⟩
  refine g_iload_n C dX1_reword_48 rfl rfl ?_
  refine g_aload_n C dX1_reword_49 rfl rfl ?_
  refine g_callVEi (Cl := RX1) (T := TX1) (N := 16) (ci := 1) (q0 := 12) (na := 0) C dX1_reword_50 (m_countNow hl (eG E) (uS σ 20 0) (uA1 (uA1 τ1 31 (va_cpy (τ1 34) (τ1 31) 0 0 nl)) 32 (va_cpy ((uA1 τ1 31 (va_cpy (τ1 34) (τ1 31) 0 0 nl)) 35) ((uA1 τ1 31 (va_cpy (τ1 34) (τ1 31) 0 0 nl)) 32) 0 0 nl)) o nw nl lm (RWm_I I0 hR)) gX1_reword_X1_countNow rfl rfl (by decide +kernel) rfl rfl rfl (Nat.le_of_ble_eq_true rfl) (by rw [R]; exact ⟨by decide, by decide⟩) (by rw [R]; exact ⟨by decide, by decide⟩) ?_
  refine g_isub C dX1_reword_53 ?_
  exact g_iret C F dX1_reword_54 (by decide) (by decide) ⟨_, rfl, rfl, rfl, rfl, hR⟩
