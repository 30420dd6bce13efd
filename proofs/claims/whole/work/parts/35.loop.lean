/-! the switch, the loop -/
theorem and63 (x : Int32) : ∃ c, c < 64 ∧ x &&& 63 = nI c := by
  have h0 : x.toBitVec.toNat &&& 63 < 64 := Nat.lt_of_le_of_lt Nat.and_le_right (by decide)
  refine ⟨x.toBitVec.toNat &&& 63, h0, ?_⟩
  apply Int32.toBitVec_inj.mp
  apply BitVec.eq_of_toNat_eq
  show (x.toBitVec &&& (63 : Int32).toBitVec).toNat = (BitVec.ofNat 32 (x.toBitVec.toNat &&& 63)).toNat
  rw [BitVec.toNat_and, BitVec.toNat_ofNat, show (63 : Int32).toBitVec.toNat = 63 from rfl]
  exact (Nat.mod_eq_of_lt (by omega)).symm
theorem hz_of {z : Int32} (h : ¬ (z < 0 ∨ ¬ z < 4)) : ¬ z < 0 ∧ z < 4 := ⟨fun w => h (Or.inl w), Classical.byContradiction fun w => h (Or.inr w)⟩
theorem hb_of {z a b : Int32} (h : ¬ (z < a ∨ ¬ z ≤ b)) : ¬ z < a ∧ z ≤ b := ⟨fun w => h (Or.inl w), Classical.byContradiction fun w => h (Or.inr w)⟩
set_option maxHeartbeats 4000000 in
set_option maxRecDepth 100000 in
theorem ld_0 {E : gE} {k n b L j : Nat} {xs : Nat → Int32} {σ : gS} {τ : gT} {o : gO} {nw nl lm : Nat} (A : gW E k n b L j xs) (R : RR σ τ nw nl lm) (kk : gK0 E k n b j) : G E k n 196 (LV E b j) [] σ τ o := by
  have hnw := Iv_nw R.1
  have hnl := Iv_nl R.1
  have h3 : σ 3 = nI nw := Iv_h3 R.1
  have h9 : σ 9 = nI nl := Iv_h9 R.1
  by_cases hx : xs (3 * j + 1) < 1 ∨ ¬ xs (3 * j + 1) ≤ 30
  · exact lc_addWordX A R hx rfl kk
  · obtain ⟨q, q1, q2, q3⟩ := in_of (lo := 1) (hi := 30) (by decide) (hb_of hx).1 (hb_of hx).2 (by decide)
    by_cases hw : nw < 12
    · exact lc_addWord A R (hb_of hx).1 (hb_of hx).2 hw q1 q2 q3 rfl kk
    · exact lc_addWordY A R (hb_of hx).1 (hb_of hx).2 hw rfl kk
set_option maxHeartbeats 4000000 in
set_option maxRecDepth 100000 in
theorem ld_1 {E : gE} {k n b L j : Nat} {xs : Nat → Int32} {σ : gS} {τ : gT} {o : gO} {nw nl lm : Nat} (A : gW E k n b L j xs) (R : RR σ τ nw nl lm) (kk : gK0 E k n b j) : G E k n 252 (LV E b j) [] σ τ o := by
  have hnw := Iv_nw R.1
  have hnl := Iv_nl R.1
  have h3 : σ 3 = nI nw := Iv_h3 R.1
  have h9 : σ 9 = nI nl := Iv_h9 R.1
  by_cases hw : xs (3 * j + 1) < 0 ∨ ¬ xs (3 * j + 1) < σ 3
  · exact lc_turnStandInX A R hw rfl rfl kk
  · rw [h3] at hw
    obtain ⟨a, ha, e⟩ := wd_in (by omega) hw
    by_cases hv : xs (3 * j + 2) < 0 ∨ ¬ xs (3 * j + 2) < σ 3
    · exact lc_turnStandInY A R ha hv e rfl kk
    · rw [h3] at hv
      obtain ⟨c2, hc9, e2⟩ := wd_in (by omega) hv
      by_cases hne : a = c2
      · subst hne
        exact lc_turnStandInZ A R ha e e2 kk
      · exact lc_turnStandIn A R ha hc9 hne e e2 kk
set_option maxHeartbeats 4000000 in
set_option maxRecDepth 100000 in
theorem ld_2 {E : gE} {k n b L j : Nat} {xs : Nat → Int32} {σ : gS} {τ : gT} {o : gO} {nw nl lm : Nat} (A : gW E k n b L j xs) (R : RR σ τ nw nl lm) (kk : gK0 E k n b j) : G E k n 327 (LV E b j) [] σ τ o := by
  have hnw := Iv_nw R.1
  have hnl := Iv_nl R.1
  have h3 : σ 3 = nI nw := Iv_h3 R.1
  have h9 : σ 9 = nI nl := Iv_h9 R.1
  by_cases hw : xs (3 * j + 1) < 0 ∨ ¬ xs (3 * j + 1) < σ 3
  · exact lc_turnJoinX A R hw rfl rfl kk
  · rw [h3] at hw
    obtain ⟨a, ha, e⟩ := wd_in (by omega) hw
    by_cases hv : xs (3 * j + 2) < 0 ∨ ¬ xs (3 * j + 2) < σ 3
    · exact lc_turnJoinY A R ha hv e rfl kk
    · rw [h3] at hv
      obtain ⟨c2, hc9, e2⟩ := wd_in (by omega) hv
      exact lc_turnJoin A R ha hc9 e e2 kk
set_option maxHeartbeats 4000000 in
set_option maxRecDepth 100000 in
theorem ld_3 {E : gE} {k n b L j : Nat} {xs : Nat → Int32} {σ : gS} {τ : gT} {o : gO} {nw nl lm : Nat} (A : gW E k n b L j xs) (R : RR σ τ nw nl lm) (kk : gK0 E k n b j) : G E k n 402 (LV E b j) [] σ τ o := by
  have hnw := Iv_nw R.1
  have hnl := Iv_nl R.1
  have h3 : σ 3 = nI nw := Iv_h3 R.1
  have h9 : σ 9 = nI nl := Iv_h9 R.1
  by_cases hx : xs (3 * j + 1) < 3 ∨ ¬ xs (3 * j + 1) ≤ 15
  · exact lc_setLimitX A R hx rfl kk
  · obtain ⟨q, q1, q2, q3⟩ := in_of (lo := 3) (hi := 15) (by decide) (hb_of hx).1 (hb_of hx).2 (by decide)
    exact lc_setLimit A R (hb_of hx).1 (hb_of hx).2 q1 q2 q3 rfl kk
set_option maxHeartbeats 4000000 in
set_option maxRecDepth 100000 in
theorem ld_4 {E : gE} {k n b L j : Nat} {xs : Nat → Int32} {σ : gS} {τ : gT} {o : gO} {nw nl lm : Nat} (A : gW E k n b L j xs) (R : RR σ τ nw nl lm) (kk : gK0 E k n b j) : G E k n 458 (LV E b j) [] σ τ o := by
  have hnw := Iv_nw R.1
  have hnl := Iv_nl R.1
  have h3 : σ 3 = nI nw := Iv_h3 R.1
  have h9 : σ 9 = nI nl := Iv_h9 R.1
  by_cases hx : xs (3 * j + 1) < 0 ∨ ¬ xs (3 * j + 1) ≤ 20
  · exact lc_setLeastCountX A R hx rfl kk
  · exact lc_setLeastCount A R (hb_of hx).1 (hb_of hx).2 rfl kk
set_option maxHeartbeats 4000000 in
set_option maxRecDepth 100000 in
theorem ld_5 {E : gE} {k n b L j : Nat} {xs : Nat → Int32} {σ : gS} {τ : gT} {o : gO} {nw nl lm : Nat} (A : gW E k n b L j xs) (R : RR σ τ nw nl lm) (kk : gK0 E k n b j) : G E k n 514 (LV E b j) [] σ τ o := by
  have hnw := Iv_nw R.1
  have hnl := Iv_nl R.1
  have h3 : σ 3 = nI nw := Iv_h3 R.1
  have h9 : σ 9 = nI nl := Iv_h9 R.1
  by_cases hx : xs (3 * j + 1) < 1 ∨ ¬ xs (3 * j + 1) ≤ 50
  · exact lc_setCoinsX A R hx rfl kk
  · exact lc_setCoins A R (hb_of hx).1 (hb_of hx).2 rfl kk
set_option maxHeartbeats 4000000 in
set_option maxRecDepth 100000 in
theorem ld_6 {E : gE} {k n b L j : Nat} {xs : Nat → Int32} {σ : gS} {τ : gT} {o : gO} {nw nl lm : Nat} (A : gW E k n b L j xs) (R : RR σ τ nw nl lm) (kk : gK0 E k n b j) : G E k n 570 (LV E b j) [] σ τ o := by
  have hnw := Iv_nw R.1
  have hnl := Iv_nl R.1
  have h3 : σ 3 = nI nw := Iv_h3 R.1
  have h9 : σ 9 = nI nl := Iv_h9 R.1
  by_cases hw : xs (3 * j + 1) < 0 ∨ ¬ xs (3 * j + 1) < σ 3
  · exact lc_writeX A R hw rfl kk
  · rw [h3] at hw
    obtain ⟨a, ha, e⟩ := wd_in (by omega) hw
    by_cases h16 : nl < 16
    · exact lc_write A R ha h16 e kk
    · exact lc_writeY A R ha h16 e kk
set_option maxHeartbeats 4000000 in
set_option maxRecDepth 100000 in
theorem ld_7 {E : gE} {k n b L j : Nat} {xs : Nat → Int32} {σ : gS} {τ : gT} {o : gO} {nw nl lm : Nat} (A : gW E k n b L j xs) (R : RR σ τ nw nl lm) (kk : gK0 E k n b j) : G E k n 626 (LV E b j) [] σ τ o := by
  have hnw := Iv_nw R.1
  have hnl := Iv_nl R.1
  have h3 : σ 3 = nI nw := Iv_h3 R.1
  have h9 : σ 9 = nI nl := Iv_h9 R.1
  by_cases hw : xs (3 * j + 1) < 0 ∨ ¬ xs (3 * j + 1) < σ 9
  · exact lc_strikeX A R hw rfl kk
  · rw [h9] at hw
    obtain ⟨p, hp, e⟩ := wd_in (by omega) hw
    exact lc_strike A R hp e kk
set_option maxHeartbeats 4000000 in
set_option maxRecDepth 100000 in
theorem ld_8 {E : gE} {k n b L j : Nat} {xs : Nat → Int32} {σ : gS} {τ : gT} {o : gO} {nw nl lm : Nat} (A : gW E k n b L j xs) (R : RR σ τ nw nl lm) (kk : gK0 E k n b j) : G E k n 682 (LV E b j) [] σ τ o := by
  have hnw := Iv_nw R.1
  have hnl := Iv_nl R.1
  have h3 : σ 3 = nI nw := Iv_h3 R.1
  have h9 : σ 9 = nI nl := Iv_h9 R.1
  by_cases hw : xs (3 * j + 1) < 0 ∨ ¬ xs (3 * j + 1) < σ 9
  · exact lc_turnJoinedX A R hw rfl kk
  · rw [h9] at hw
    obtain ⟨p, hp, e⟩ := wd_in (by omega) hw
    by_cases hl : p + 1 = nl
    · exact lc_turnJoinedY A R hl e kk
    · have hp1 : p + 1 < nl := by omega
      by_cases hj8 : τ 8 p = 0
      · by_cases hc8 : cbj (τ 2) (τ 7) (τ 8) p = 0
        · exact lc_turnJoinedZ A R hp1 hj8 hc8 e kk
        · exact lc_turnJoinedOn A R hp1 hj8 hc8 e kk
      · exact lc_turnJoinedOff A R hp1 hj8 e kk
set_option maxHeartbeats 4000000 in
set_option maxRecDepth 100000 in
theorem ld_9 {E : gE} {k n b L j : Nat} {xs : Nat → Int32} {σ : gS} {τ : gT} {o : gO} {nw nl lm : Nat} (A : gW E k n b L j xs) (R : RR σ τ nw nl lm) (kk : gK0 E k n b j) : G E k n 745 (LV E b j) [] σ τ o := by
  have hnw := Iv_nw R.1
  have hnl := Iv_nl R.1
  have h3 : σ 3 = nI nw := Iv_h3 R.1
  have h9 : σ 9 = nI nl := Iv_h9 R.1
  exact lc_reword A R kk
set_option maxHeartbeats 4000000 in
set_option maxRecDepth 100000 in
theorem ld_10 {E : gE} {k n b L j : Nat} {xs : Nat → Int32} {σ : gS} {τ : gT} {o : gO} {nw nl lm : Nat} (A : gW E k n b L j xs) (R : RR σ τ nw nl lm) (kk : gK0 E k n b j) : G E k n 758 (LV E b j) [] σ τ o := by
  have hnw := Iv_nw R.1
  have hnl := Iv_nl R.1
  have h3 : σ 3 = nI nw := Iv_h3 R.1
  have h9 : σ 9 = nI nl := Iv_h9 R.1
  by_cases hz : xs (3 * j + 1) < 0 ∨ ¬ xs (3 * j + 1) < 4
  · exact lc_sendX A R hz rfl kk
  · by_cases h0 : nl = 0
    · exact lc_sendY A R (hz_of hz) h0 rfl kk
    · exact lc_send A R (hz_of hz) h0 rfl kk
set_option maxHeartbeats 4000000 in
set_option maxRecDepth 100000 in
theorem ld_11 {E : gE} {k n b L j : Nat} {xs : Nat → Int32} {σ : gS} {τ : gT} {o : gO} {nw nl lm : Nat} (A : gW E k n b L j xs) (R : RR σ τ nw nl lm) (kk : gK0 E k n b j) : G E k n 814 (LV E b j) [] σ τ o := by
  have hnw := Iv_nw R.1
  have hnl := Iv_nl R.1
  have h3 : σ 3 = nI nw := Iv_h3 R.1
  have h9 : σ 9 = nI nl := Iv_h9 R.1
  exact lc_words A R kk
set_option maxHeartbeats 4000000 in
set_option maxRecDepth 100000 in
theorem ld_12 {E : gE} {k n b L j : Nat} {xs : Nat → Int32} {σ : gS} {τ : gT} {o : gO} {nw nl lm : Nat} (A : gW E k n b L j xs) (R : RR σ τ nw nl lm) (kk : gK0 E k n b j) : G E k n 827 (LV E b j) [] σ τ o := by
  have hnw := Iv_nw R.1
  have hnl := Iv_nl R.1
  have h3 : σ 3 = nI nw := Iv_h3 R.1
  have h9 : σ 9 = nI nl := Iv_h9 R.1
  by_cases hw : xs (3 * j + 1) < 0 ∨ ¬ xs (3 * j + 1) < σ 3
  · exact lc_lettersOfX A R hw rfl kk
  · rw [h3] at hw
    obtain ⟨a, ha, e⟩ := wd_in (by omega) hw
    exact lc_lettersOf A R ha e kk
set_option maxHeartbeats 4000000 in
set_option maxRecDepth 100000 in
theorem ld_13 {E : gE} {k n b L j : Nat} {xs : Nat → Int32} {σ : gS} {τ : gT} {o : gO} {nw nl lm : Nat} (A : gW E k n b L j xs) (R : RR σ τ nw nl lm) (kk : gK0 E k n b j) : G E k n 883 (LV E b j) [] σ τ o := by
  have hnw := Iv_nw R.1
  have hnl := Iv_nl R.1
  have h3 : σ 3 = nI nw := Iv_h3 R.1
  have h9 : σ 9 = nI nl := Iv_h9 R.1
  by_cases hw : xs (3 * j + 1) < 0 ∨ ¬ xs (3 * j + 1) < σ 3
  · exact lc_countOfX A R hw rfl kk
  · rw [h3] at hw
    obtain ⟨a, ha, e⟩ := wd_in (by omega) hw
    exact lc_countOf A R ha e kk
set_option maxHeartbeats 4000000 in
set_option maxRecDepth 100000 in
theorem ld_14 {E : gE} {k n b L j : Nat} {xs : Nat → Int32} {σ : gS} {τ : gT} {o : gO} {nw nl lm : Nat} (A : gW E k n b L j xs) (R : RR σ τ nw nl lm) (kk : gK0 E k n b j) : G E k n 939 (LV E b j) [] σ τ o := by
  have hnw := Iv_nw R.1
  have hnl := Iv_nl R.1
  have h3 : σ 3 = nI nw := Iv_h3 R.1
  have h9 : σ 9 = nI nl := Iv_h9 R.1
  by_cases hw : xs (3 * j + 1) < 0 ∨ ¬ xs (3 * j + 1) < σ 3
  · exact lc_mayStandForX A R hw rfl rfl kk
  · rw [h3] at hw
    obtain ⟨a, ha, e⟩ := wd_in (by omega) hw
    by_cases hv : xs (3 * j + 2) < 0 ∨ ¬ xs (3 * j + 2) < σ 3
    · exact lc_mayStandForY A R ha hv e rfl kk
    · rw [h3] at hv
      obtain ⟨c2, hc9, e2⟩ := wd_in (by omega) hv
      exact lc_mayStandFor A R ha hc9 e e2 kk
set_option maxHeartbeats 4000000 in
set_option maxRecDepth 100000 in
theorem ld_15 {E : gE} {k n b L j : Nat} {xs : Nat → Int32} {σ : gS} {τ : gT} {o : gO} {nw nl lm : Nat} (A : gW E k n b L j xs) (R : RR σ τ nw nl lm) (kk : gK0 E k n b j) : G E k n 1014 (LV E b j) [] σ τ o := by
  have hnw := Iv_nw R.1
  have hnl := Iv_nl R.1
  have h3 : σ 3 = nI nw := Iv_h3 R.1
  have h9 : σ 9 = nI nl := Iv_h9 R.1
  by_cases hw : xs (3 * j + 1) < 0 ∨ ¬ xs (3 * j + 1) < σ 3
  · exact lc_mayJoinX A R hw rfl rfl kk
  · rw [h3] at hw
    obtain ⟨a, ha, e⟩ := wd_in (by omega) hw
    by_cases hv : xs (3 * j + 2) < 0 ∨ ¬ xs (3 * j + 2) < σ 3
    · exact lc_mayJoinY A R ha hv e rfl kk
    · rw [h3] at hv
      obtain ⟨c2, hc9, e2⟩ := wd_in (by omega) hv
      exact lc_mayJoin A R ha hc9 e e2 kk
set_option maxHeartbeats 4000000 in
set_option maxRecDepth 100000 in
theorem ld_16 {E : gE} {k n b L j : Nat} {xs : Nat → Int32} {σ : gS} {τ : gT} {o : gO} {nw nl lm : Nat} (A : gW E k n b L j xs) (R : RR σ τ nw nl lm) (kk : gK0 E k n b j) : G E k n 1089 (LV E b j) [] σ τ o := by
  have hnw := Iv_nw R.1
  have hnl := Iv_nl R.1
  have h3 : σ 3 = nI nw := Iv_h3 R.1
  have h9 : σ 9 = nI nl := Iv_h9 R.1
  by_cases hw : xs (3 * j + 1) < 0 ∨ ¬ xs (3 * j + 1) < σ 3
  · exact lc_standInsOfX A R hw rfl kk
  · rw [h3] at hw
    obtain ⟨a, ha, e⟩ := wd_in (by omega) hw
    exact lc_standInsOf A R ha e kk
set_option maxHeartbeats 4000000 in
set_option maxRecDepth 100000 in
theorem ld_17 {E : gE} {k n b L j : Nat} {xs : Nat → Int32} {σ : gS} {τ : gT} {o : gO} {nw nl lm : Nat} (A : gW E k n b L j xs) (R : RR σ τ nw nl lm) (kk : gK0 E k n b j) : G E k n 1145 (LV E b j) [] σ τ o := by
  have hnw := Iv_nw R.1
  have hnl := Iv_nl R.1
  have h3 : σ 3 = nI nw := Iv_h3 R.1
  have h9 : σ 9 = nI nl := Iv_h9 R.1
  exact lc_limit A R kk
set_option maxHeartbeats 4000000 in
set_option maxRecDepth 100000 in
theorem ld_18 {E : gE} {k n b L j : Nat} {xs : Nat → Int32} {σ : gS} {τ : gT} {o : gO} {nw nl lm : Nat} (A : gW E k n b L j xs) (R : RR σ τ nw nl lm) (kk : gK0 E k n b j) : G E k n 1158 (LV E b j) [] σ τ o := by
  have hnw := Iv_nw R.1
  have hnl := Iv_nl R.1
  have h3 : σ 3 = nI nw := Iv_h3 R.1
  have h9 : σ 9 = nI nl := Iv_h9 R.1
  exact lc_leastCount A R kk
set_option maxHeartbeats 4000000 in
set_option maxRecDepth 100000 in
theorem ld_19 {E : gE} {k n b L j : Nat} {xs : Nat → Int32} {σ : gS} {τ : gT} {o : gO} {nw nl lm : Nat} (A : gW E k n b L j xs) (R : RR σ τ nw nl lm) (kk : gK0 E k n b j) : G E k n 1171 (LV E b j) [] σ τ o := by
  have hnw := Iv_nw R.1
  have hnl := Iv_nl R.1
  have h3 : σ 3 = nI nw := Iv_h3 R.1
  have h9 : σ 9 = nI nl := Iv_h9 R.1
  exact lc_coins A R kk
set_option maxHeartbeats 4000000 in
set_option maxRecDepth 100000 in
theorem ld_20 {E : gE} {k n b L j : Nat} {xs : Nat → Int32} {σ : gS} {τ : gT} {o : gO} {nw nl lm : Nat} (A : gW E k n b L j xs) (R : RR σ τ nw nl lm) (kk : gK0 E k n b j) : G E k n 1184 (LV E b j) [] σ τ o := by
  have hnw := Iv_nw R.1
  have hnl := Iv_nl R.1
  have h3 : σ 3 = nI nw := Iv_h3 R.1
  have h9 : σ 9 = nI nl := Iv_h9 R.1
  exact lc_length A R kk
set_option maxHeartbeats 4000000 in
set_option maxRecDepth 100000 in
theorem ld_21 {E : gE} {k n b L j : Nat} {xs : Nat → Int32} {σ : gS} {τ : gT} {o : gO} {nw nl lm : Nat} (A : gW E k n b L j xs) (R : RR σ τ nw nl lm) (kk : gK0 E k n b j) : G E k n 1197 (LV E b j) [] σ τ o := by
  have hnw := Iv_nw R.1
  have hnl := Iv_nl R.1
  have h3 : σ 3 = nI nw := Iv_h3 R.1
  have h9 : σ 9 = nI nl := Iv_h9 R.1
  by_cases hw : xs (3 * j + 1) < 0 ∨ ¬ xs (3 * j + 1) < σ 9
  · exact lc_wordAtX A R hw rfl kk
  · rw [h9] at hw
    obtain ⟨p, hp, e⟩ := wd_in (by omega) hw
    exact lc_wordAt A R hp e kk
set_option maxHeartbeats 4000000 in
set_option maxRecDepth 100000 in
theorem ld_22 {E : gE} {k n b L j : Nat} {xs : Nat → Int32} {σ : gS} {τ : gT} {o : gO} {nw nl lm : Nat} (A : gW E k n b L j xs) (R : RR σ τ nw nl lm) (kk : gK0 E k n b j) : G E k n 1253 (LV E b j) [] σ τ o := by
  have hnw := Iv_nw R.1
  have hnl := Iv_nl R.1
  have h3 : σ 3 = nI nw := Iv_h3 R.1
  have h9 : σ 9 = nI nl := Iv_h9 R.1
  by_cases hw : xs (3 * j + 1) < 0 ∨ ¬ xs (3 * j + 1) < σ 9
  · exact lc_isJoinedX A R hw rfl kk
  · rw [h9] at hw
    obtain ⟨p, hp, e⟩ := wd_in (by omega) hw
    exact lc_isJoined A R hp e kk
set_option maxHeartbeats 4000000 in
set_option maxRecDepth 100000 in
theorem ld_23 {E : gE} {k n b L j : Nat} {xs : Nat → Int32} {σ : gS} {τ : gT} {o : gO} {nw nl lm : Nat} (A : gW E k n b L j xs) (R : RR σ τ nw nl lm) (kk : gK0 E k n b j) : G E k n 1316 (LV E b j) [] σ τ o := by
  have hnw := Iv_nw R.1
  have hnl := Iv_nl R.1
  have h3 : σ 3 = nI nw := Iv_h3 R.1
  have h9 : σ 9 = nI nl := Iv_h9 R.1
  exact lc_count A R kk
set_option maxHeartbeats 4000000 in
set_option maxRecDepth 100000 in
theorem ld_24 {E : gE} {k n b L j : Nat} {xs : Nat → Int32} {σ : gS} {τ : gT} {o : gO} {nw nl lm : Nat} (A : gW E k n b L j xs) (R : RR σ τ nw nl lm) (kk : gK0 E k n b j) : G E k n 1329 (LV E b j) [] σ τ o := by
  have hnw := Iv_nw R.1
  have hnl := Iv_nl R.1
  have h3 : σ 3 = nI nw := Iv_h3 R.1
  have h9 : σ 9 = nI nl := Iv_h9 R.1
  exact lc_price A R kk
set_option maxHeartbeats 4000000 in
set_option maxRecDepth 100000 in
theorem ld_25 {E : gE} {k n b L j : Nat} {xs : Nat → Int32} {σ : gS} {τ : gT} {o : gO} {nw nl lm : Nat} (A : gW E k n b L j xs) (R : RR σ τ nw nl lm) (kk : gK0 E k n b j) : G E k n 1342 (LV E b j) [] σ τ o := by
  have hnw := Iv_nw R.1
  have hnl := Iv_nl R.1
  have h3 : σ 3 = nI nw := Iv_h3 R.1
  have h9 : σ 9 = nI nl := Iv_h9 R.1
  by_cases hz : xs (3 * j + 1) < 0 ∨ ¬ xs (3 * j + 1) < 4
  · exact lc_priceToX A R hz rfl kk
  · exact lc_priceTo A R (hz_of hz) rfl kk
set_option maxHeartbeats 4000000 in
set_option maxRecDepth 100000 in
theorem ld_26 {E : gE} {k n b L j : Nat} {xs : Nat → Int32} {σ : gS} {τ : gT} {o : gO} {nw nl lm : Nat} (A : gW E k n b L j xs) (R : RR σ τ nw nl lm) (kk : gK0 E k n b j) : G E k n 1398 (LV E b j) [] σ τ o := by
  have hnw := Iv_nw R.1
  have hnl := Iv_nl R.1
  have h3 : σ 3 = nI nw := Iv_h3 R.1
  have h9 : σ 9 = nI nl := Iv_h9 R.1
  exact lc_sent A R kk
set_option maxHeartbeats 4000000 in
set_option maxRecDepth 100000 in
theorem ld_27 {E : gE} {k n b L j : Nat} {xs : Nat → Int32} {σ : gS} {τ : gT} {o : gO} {nw nl lm : Nat} (A : gW E k n b L j xs) (R : RR σ τ nw nl lm) (kk : gK0 E k n b j) : G E k n 1411 (LV E b j) [] σ τ o := by
  have hnw := Iv_nw R.1
  have hnl := Iv_nl R.1
  have h3 : σ 3 = nI nw := Iv_h3 R.1
  have h9 : σ 9 = nI nl := Iv_h9 R.1
  exact lc_earned A R kk
set_option maxHeartbeats 4000000 in
set_option maxRecDepth 100000 in
theorem ld_28 {E : gE} {k n b L j : Nat} {xs : Nat → Int32} {σ : gS} {τ : gT} {o : gO} {nw nl lm : Nat} (A : gW E k n b L j xs) (R : RR σ τ nw nl lm) (kk : gK0 E k n b j) : G E k n 1424 (LV E b j) [] σ τ o := by
  have hnw := Iv_nw R.1
  have hnl := Iv_nl R.1
  have h3 : σ 3 = nI nw := Iv_h3 R.1
  have h9 : σ 9 = nI nl := Iv_h9 R.1
  exact lc_cheapestCount A R kk
set_option maxHeartbeats 4000000 in
set_option maxRecDepth 100000 in
theorem ld_29 {E : gE} {k n b L j : Nat} {xs : Nat → Int32} {σ : gS} {τ : gT} {o : gO} {nw nl lm : Nat} (A : gW E k n b L j xs) (R : RR σ τ nw nl lm) (kk : gK0 E k n b j) : G E k n 1437 (LV E b j) [] σ τ o := by
  have hnw := Iv_nw R.1
  have hnl := Iv_nl R.1
  have h3 : σ 3 = nI nw := Iv_h3 R.1
  have h9 : σ 9 = nI nl := Iv_h9 R.1
  by_cases hw : xs (3 * j + 1) < 0 ∨ ¬ xs (3 * j + 1) < σ 9
  · exact lc_cheapestWordAtX A R hw rfl kk
  · rw [h9] at hw
    obtain ⟨p, hp, e⟩ := wd_in (by omega) hw
    exact lc_cheapestWordAt A R hp e kk
set_option maxHeartbeats 4000000 in
set_option maxRecDepth 100000 in
theorem ld_30 {E : gE} {k n b L j : Nat} {xs : Nat → Int32} {σ : gS} {τ : gT} {o : gO} {nw nl lm : Nat} (A : gW E k n b L j xs) (R : RR σ τ nw nl lm) (kk : gK0 E k n b j) : G E k n 1493 (LV E b j) [] σ τ o := by
  have hnw := Iv_nw R.1
  have hnl := Iv_nl R.1
  have h3 : σ 3 = nI nw := Iv_h3 R.1
  have h9 : σ 9 = nI nl := Iv_h9 R.1
  by_cases hw : xs (3 * j + 1) < 0 ∨ ¬ xs (3 * j + 1) < σ 9
  · exact lc_isJoinedInCheapestX A R hw rfl kk
  · rw [h9] at hw
    obtain ⟨p, hp, e⟩ := wd_in (by omega) hw
    exact lc_isJoinedInCheapest A R hp e kk
set_option maxHeartbeats 4000000 in
set_option maxRecDepth 100000 in
theorem ld_31 {E : gE} {k n b L j : Nat} {xs : Nat → Int32} {σ : gS} {τ : gT} {o : gO} {nw nl lm : Nat} (A : gW E k n b L j xs) (R : RR σ τ nw nl lm) (kk : gK0 E k n b j) : G E k n 1556 (LV E b j) [] σ τ o := by
  have hnw := Iv_nw R.1
  have hnl := Iv_nl R.1
  have h3 : σ 3 = nI nw := Iv_h3 R.1
  have h9 : σ 9 = nI nl := Iv_h9 R.1
  exact lc_saves A R kk
set_option maxHeartbeats 4000000 in
set_option maxRecDepth 100000 in
theorem ld_32 {E : gE} {k n b L j : Nat} {xs : Nat → Int32} {σ : gS} {τ : gT} {o : gO} {nw nl lm : Nat} (A : gW E k n b L j xs) (R : RR σ τ nw nl lm) (kk : gK0 E k n b j) : G E k n 1569 (LV E b j) [] σ τ o := by
  have hnw := Iv_nw R.1
  have hnl := Iv_nl R.1
  have h3 : σ 3 = nI nw := Iv_h3 R.1
  have h9 : σ 9 = nI nl := Iv_h9 R.1
  exact lc_wordings A R kk
set_option maxHeartbeats 4000000 in
set_option maxRecDepth 100000 in
theorem ld_33 {E : gE} {k n b L j : Nat} {xs : Nat → Int32} {σ : gS} {τ : gT} {o : gO} {nw nl lm : Nat} (A : gW E k n b L j xs) (R : RR σ τ nw nl lm) (kk : gK0 E k n b j) : G E k n 1582 (LV E b j) [] σ τ o := by
  have hnw := Iv_nw R.1
  have hnl := Iv_nl R.1
  have h3 : σ 3 = nI nw := Iv_h3 R.1
  have h9 : σ 9 = nI nl := Iv_h9 R.1
  exact lc_bestJoin A R kk
set_option maxHeartbeats 4000000 in
set_option maxRecDepth 100000 in
theorem ld_34 {E : gE} {k n b L j : Nat} {xs : Nat → Int32} {σ : gS} {τ : gT} {o : gO} {nw nl lm : Nat} (A : gW E k n b L j xs) (R : RR σ τ nw nl lm) (kk : gK0 E k n b j) : G E k n 1595 (LV E b j) [] σ τ o := by
  have hnw := Iv_nw R.1
  have hnl := Iv_nl R.1
  have h3 : σ 3 = nI nw := Iv_h3 R.1
  have h9 : σ 9 = nI nl := Iv_h9 R.1
  by_cases h0 : σ 10 = 0
  · exact lc_meanCost0 A R h0 kk
  · exact lc_meanCost A R h0 kk
set_option maxHeartbeats 4000000 in
set_option maxRecDepth 100000 in
theorem ld_35 {E : gE} {k n b L j : Nat} {xs : Nat → Int32} {σ : gS} {τ : gT} {o : gO} {nw nl lm : Nat} (A : gW E k n b L j xs) (R : RR σ τ nw nl lm) (kk : gK0 E k n b j) : G E k n 1636 (LV E b j) [] σ τ o := by
  have hnw := Iv_nw R.1
  have hnl := Iv_nl R.1
  have h3 : σ 3 = nI nw := Iv_h3 R.1
  have h9 : σ 9 = nI nl := Iv_h9 R.1
  exact lc_digest A R kk
set_option maxHeartbeats 4000000 in
set_option maxRecDepth 100000 in
theorem lc_step {E : gE} {k n b L j : Nat} {xs : Nat → Int32} {σ : gS} {τ : gT} {o : gO} {nw nl lm : Nat} (A : gW E k n b L j xs) (R : RR σ τ nw nl lm) (kk : gK0 E k n b j) : G E k n 32 (LV E b j) [] σ τ o := by
  obtain ⟨C, X, hN, hj, hL, hF, hLo, hk, hn⟩ := id A
  show G E k n 32 [(4, .int (nI (3 * j))), (3, .ref ((eG E).2.1 102)), (2, .ref ((eG E).2.1 101)), (1, .ref ((eG E).2.1 100)), (0, .ref b)] [] σ τ o
  refine g_aload_n C dL_law_32 rfl rfl ?_
  refine g_iload C dL_law_33 rfl ?_
  refine g_sld C X (3 * j) dL_law_35 rfl (by omega) hL rfl ?_
  refine g_bipush (v := 63) C dL_law_36 (by decide) ?_
  refine g_iand C dL_law_38 ?_
  obtain ⟨c, hc, e⟩ := and63 (xs (3 * j))
  rw [e]
  by_cases h36 : 36 ≤ c
  · refine g_tabOut (tgt := 1650) C dL_law_39 (Or.inr (by rw [nI_toInt (by omega)]; omega)) (by decide) ?_
    refine g_wide (k + 1) (n + 10) (by omega) (by omega) ?_
    exact kk _ _ _ _ _ _ R
  · rcases (show c = 0 ∨ c = 1 ∨ c = 2 ∨ c = 3 ∨ c = 4 ∨ c = 5 ∨ c = 6 ∨ c = 7 ∨ c = 8 ∨ c = 9 ∨ c = 10 ∨ c = 11 ∨ c = 12 ∨ c = 13 ∨ c = 14 ∨ c = 15 ∨ c = 16 ∨ c = 17 ∨ c = 18 ∨ c = 19 ∨ c = 20 ∨ c = 21 ∨ c = 22 ∨ c = 23 ∨ c = 24 ∨ c = 25 ∨ c = 26 ∨ c = 27 ∨ c = 28 ∨ c = 29 ∨ c = 30 ∨ c = 31 ∨ c = 32 ∨ c = 33 ∨ c = 34 ∨ c = 35 by omega) with rfl | rfl | rfl | rfl | rfl | rfl | rfl | rfl | rfl | rfl | rfl | rfl | rfl | rfl | rfl | rfl | rfl | rfl | rfl | rfl | rfl | rfl | rfl | rfl | rfl | rfl | rfl | rfl | rfl | rfl | rfl | rfl | rfl | rfl | rfl | rfl
    · exact g_tabIn (off := 157) (tgt := 196) C dL_law_39 (by decide) (by decide) rfl (by decide) (ld_0 A R kk)
    · exact g_tabIn (off := 213) (tgt := 252) C dL_law_39 (by decide) (by decide) rfl (by decide) (ld_1 A R kk)
    · exact g_tabIn (off := 288) (tgt := 327) C dL_law_39 (by decide) (by decide) rfl (by decide) (ld_2 A R kk)
    · exact g_tabIn (off := 363) (tgt := 402) C dL_law_39 (by decide) (by decide) rfl (by decide) (ld_3 A R kk)
    · exact g_tabIn (off := 419) (tgt := 458) C dL_law_39 (by decide) (by decide) rfl (by decide) (ld_4 A R kk)
    · exact g_tabIn (off := 475) (tgt := 514) C dL_law_39 (by decide) (by decide) rfl (by decide) (ld_5 A R kk)
    · exact g_tabIn (off := 531) (tgt := 570) C dL_law_39 (by decide) (by decide) rfl (by decide) (ld_6 A R kk)
    · exact g_tabIn (off := 587) (tgt := 626) C dL_law_39 (by decide) (by decide) rfl (by decide) (ld_7 A R kk)
    · exact g_tabIn (off := 643) (tgt := 682) C dL_law_39 (by decide) (by decide) rfl (by decide) (ld_8 A R kk)
    · exact g_tabIn (off := 706) (tgt := 745) C dL_law_39 (by decide) (by decide) rfl (by decide) (ld_9 A R kk)
    · exact g_tabIn (off := 719) (tgt := 758) C dL_law_39 (by decide) (by decide) rfl (by decide) (ld_10 A R kk)
    · exact g_tabIn (off := 775) (tgt := 814) C dL_law_39 (by decide) (by decide) rfl (by decide) (ld_11 A R kk)
    · exact g_tabIn (off := 788) (tgt := 827) C dL_law_39 (by decide) (by decide) rfl (by decide) (ld_12 A R kk)
    · exact g_tabIn (off := 844) (tgt := 883) C dL_law_39 (by decide) (by decide) rfl (by decide) (ld_13 A R kk)
    · exact g_tabIn (off := 900) (tgt := 939) C dL_law_39 (by decide) (by decide) rfl (by decide) (ld_14 A R kk)
    · exact g_tabIn (off := 975) (tgt := 1014) C dL_law_39 (by decide) (by decide) rfl (by decide) (ld_15 A R kk)
    · exact g_tabIn (off := 1050) (tgt := 1089) C dL_law_39 (by decide) (by decide) rfl (by decide) (ld_16 A R kk)
    · exact g_tabIn (off := 1106) (tgt := 1145) C dL_law_39 (by decide) (by decide) rfl (by decide) (ld_17 A R kk)
    · exact g_tabIn (off := 1119) (tgt := 1158) C dL_law_39 (by decide) (by decide) rfl (by decide) (ld_18 A R kk)
    · exact g_tabIn (off := 1132) (tgt := 1171) C dL_law_39 (by decide) (by decide) rfl (by decide) (ld_19 A R kk)
    · exact g_tabIn (off := 1145) (tgt := 1184) C dL_law_39 (by decide) (by decide) rfl (by decide) (ld_20 A R kk)
    · exact g_tabIn (off := 1158) (tgt := 1197) C dL_law_39 (by decide) (by decide) rfl (by decide) (ld_21 A R kk)
    · exact g_tabIn (off := 1214) (tgt := 1253) C dL_law_39 (by decide) (by decide) rfl (by decide) (ld_22 A R kk)
    · exact g_tabIn (off := 1277) (tgt := 1316) C dL_law_39 (by decide) (by decide) rfl (by decide) (ld_23 A R kk)
    · exact g_tabIn (off := 1290) (tgt := 1329) C dL_law_39 (by decide) (by decide) rfl (by decide) (ld_24 A R kk)
    · exact g_tabIn (off := 1303) (tgt := 1342) C dL_law_39 (by decide) (by decide) rfl (by decide) (ld_25 A R kk)
    · exact g_tabIn (off := 1359) (tgt := 1398) C dL_law_39 (by decide) (by decide) rfl (by decide) (ld_26 A R kk)
    · exact g_tabIn (off := 1372) (tgt := 1411) C dL_law_39 (by decide) (by decide) rfl (by decide) (ld_27 A R kk)
    · exact g_tabIn (off := 1385) (tgt := 1424) C dL_law_39 (by decide) (by decide) rfl (by decide) (ld_28 A R kk)
    · exact g_tabIn (off := 1398) (tgt := 1437) C dL_law_39 (by decide) (by decide) rfl (by decide) (ld_29 A R kk)
    · exact g_tabIn (off := 1454) (tgt := 1493) C dL_law_39 (by decide) (by decide) rfl (by decide) (ld_30 A R kk)
    · exact g_tabIn (off := 1517) (tgt := 1556) C dL_law_39 (by decide) (by decide) rfl (by decide) (ld_31 A R kk)
    · exact g_tabIn (off := 1530) (tgt := 1569) C dL_law_39 (by decide) (by decide) rfl (by decide) (ld_32 A R kk)
    · exact g_tabIn (off := 1543) (tgt := 1582) C dL_law_39 (by decide) (by decide) rfl (by decide) (ld_33 A R kk)
    · exact g_tabIn (off := 1556) (tgt := 1595) C dL_law_39 (by decide) (by decide) rfl (by decide) (ld_34 A R kk)
    · exact g_tabIn (off := 1597) (tgt := 1636) C dL_law_39 (by decide) (by decide) rfl (by decide) (ld_35 A R kk)
set_option maxHeartbeats 4000000 in
set_option maxRecDepth 100000 in
theorem lc_loop {E : gE} {b L : Nat} {xs : Nat → Int32} (C : gC E cL_law 9 RL wsL_law) (X : gXs E b L xs) (hN : uN (eS E)) (hL : L ≤ 1536) (hF : 12 ≤ (eR E).frames) (hLo : 428 ≤ (eR E).locals) (K0 N0 : Nat) (hk : K0 + 600 ≤ (eR E).cells) (hn : N0 + 6000 ≤ (eR E).slots)
    (kend : ∀ (k n : Nat) (lv : List (Nat × Value)) (σ : gS) (τ : gT) (o : gO), k ≤ K0 + 600 → n ≤ N0 + 6000 → G E k n 1656 lv [] σ τ o) : ∀ m j : Nat, j ≤ 512 → 513 ≤ j + m → ∀ (σ : gS) (τ : gT) (o : gO) (nw nl lm : Nat), RR σ τ nw nl lm → G E (K0 + j) (N0 + 10 * j) 23 (LV E b j) [] σ τ o := by
  intro m
  induction m with
  | zero => intro j h1 h2; omega
  | succ m ih =>
    intro j hj hm σ τ o nw nl lm R
    show G E (K0 + j) (N0 + 10 * j) 23 [(4, .int (nI (3 * j))), (3, .ref ((eG E).2.1 102)), (2, .ref ((eG E).2.1 101)), (1, .ref ((eG E).2.1 100)), (0, .ref b)] [] σ τ o
    refine g_iload C dL_law_23 rfl ?_
    refine g_aload_n C dL_law_25 rfl rfl ?_
    refine g_slen C X dL_law_26 ?_
    refine g_iconst (v := 3) C dL_law_27 (by decide) ?_
    refine g_isub C dL_law_28 ?_
    have hs : (nI L - 3).toInt = (L : Int) - 3 := by
      have := pk_sub_toInt (a := L) (b := 3) (by omega) (by omega)
      exact this
    refine g_icmp_gt (tgt := 1656) C dL_law_29 (by decide) (fun c_29 => ?_) (fun c_29 => ?_)
    · exact kend _ _ _ _ _ _ (by omega) (by omega)
    · rw [Int32.lt_iff_toInt_lt, hs, nI_toInt (by omega)] at c_29
      have h2 : 3 * j + 2 < L := by omega
      refine lc_step (xs := xs) (L := L) ⟨C, X, hN, h2, hL, hF, hLo, by omega, by omega⟩ R ?_
      intro σ' τ' o' nw' nl' lm' R'
      show G E (K0 + j + 1) (N0 + 10 * j + 10) 1650 [(4, .int (nI (3 * j))), (3, .ref ((eG E).2.1 102)), (2, .ref ((eG E).2.1 101)), (1, .ref ((eG E).2.1 100)), (0, .ref b)] [] σ' τ' o'
      refine g_iinc (v := nI (3 * (j + 1))) C 0 [(4, .int (nI (3 * (j + 1)))), (3, .ref ((eG E).2.1 102)), (2, .ref ((eG E).2.1 101)), (1, .ref ((eG E).2.1 100)), (0, .ref b)] dL_law_1650 rfl (nI_add (3 * j) 3) (by decide) rfl ?_
      refine g_goto (tgt := 23) C dL_law_1653 (by decide) ?_
      exact ih (j + 1) (by omega) (by omega) σ' τ' o' nw' nl' lm' R'
