/-! the law's below, cell; what act owes -/
set_option maxRecDepth 100000 in
theorem nwL_below_c7 : Cond.constant RL 7 (2147483647) ∈ wsL_below := by decide +kernel
set_option maxHeartbeats 4000000 in
set_option maxRecDepth 100000 in
theorem l_below {l : Launch} (hl : l.stackTraces = false) (Γ : gG) (w : va_W) (v : Int32) (n : Nat) (hn : 0 < n) (hn2 : n < 2 ^ 31) : CtJ l yL_below wsL_below 1 32 0 0 [.int v, .int (nI n)] Γ none (w) (fun v' w' => ∃ r, r < n ∧ v' = some (.int (nI r)) ∧ w' = w) := by
  refine ctj_of (by decide +kernel) rfl (Nat.le_of_ble_eq_true rfl) ?_
  intro E C F N9 hΓ hL R
  subst hΓ
  subst hL
  show J E 0 0 0 [(0, .int v), (1, .int (nI n))] [] (w)
  obtain ⟨k9, hk9, e9⟩ := pk_andE v (m := 2147483647) 31 (by decide)
  refine j_iload_n C dL_below_0 rfl rfl ?_
  refine j_ldc C dL_below_1 nwL_below_c7 ?_
  refine j_iand C dL_below_3 ?_
  rw [e9]
  refine j_iload_n C dL_below_4 rfl rfl ?_
  refine j_irem C dL_below_5 (nI_ne0 hn hn2) ?_
  rw [pk_rem hk9 hn hn2]
  exact j_iret C F dL_below_6 (Nat.le_of_ble_eq_true rfl) (Nat.le_of_ble_eq_true rfl) ⟨k9 % n, Nat.mod_lt _ hn, rfl, rfl⟩
set_option maxRecDepth 100000 in
theorem nwL_cell_c8 : Cond.constant RL 8 (790386105) ∈ wsL_cell := by decide +kernel
set_option maxHeartbeats 4000000 in
set_option maxRecDepth 100000 in
theorem l_cell {l : Launch} (hl : l.stackTraces = false) (Γ : gG) (w : va_W) (b L k9 : Nat) (xs : Nat → Int32) (hL : L < 1000) (hk : k9 < 1000) : CtJ l yL_cell wsL_cell 1 32 0 0 [.ref b, .int (nI k9)] Γ (some (b, L, xs)) (w) (fun v' w' => ∃ r, v' = some (.int r) ∧ w' = w) := by
  refine ctj_of (by decide +kernel) rfl (Nat.le_of_ble_eq_true rfl) ?_
  intro E C F N9 hΓ hL R
  subst hΓ
  subst hL
  show J E 0 0 0 [(0, .ref b), (1, .int (nI k9))] [] (w)
  refine j_iload_n C dL_cell_0 rfl rfl ?_
  refine j_aload_n C dL_cell_1 rfl rfl ?_
  refine j_slen C dL_cell_2 ?_
  refine j_icmp_ge (tgt := 12) C dL_cell_3 (by decide) (fun c_3 => ?_) (fun c_3 => ?_)
  · refine j_ldc C dL_cell_12 nwL_cell_c8 ?_
    refine j_iload_n C dL_cell_14 rfl rfl ?_
    refine j_iconst (v := 3) C dL_cell_15 (by decide) ?_
    refine j_iadd C dL_cell_16 ?_
    refine j_imul C dL_cell_17 ?_
    exact j_iret C F dL_cell_18 (Nat.le_of_ble_eq_true rfl) (Nat.le_of_ble_eq_true rfl) ⟨_, rfl, rfl⟩
  · have hkL : k9 < L := by
      refine Nat.not_le.mp (fun q => c_3 (nI_le q (by omega)))
    refine j_aload_n C dL_cell_6 rfl rfl ?_
    refine j_iload_n C dL_cell_7 rfl rfl ?_
    refine j_sld C (k9) dL_cell_8 rfl hkL (by omega) ?_
    refine j_goto (tgt := 18) C dL_cell_9 (by decide) ?_
    exact j_iret C F dL_cell_18 (Nat.le_of_ble_eq_true rfl) (Nat.le_of_ble_eq_true rfl) ⟨_, rfl, rfl⟩
/-- the world of the law: a Sim at b, the class's object (ad), both holding the same book; at most K were sent -/
def AS (Γ : gG) (ad : Nat → Nat) (b K : Nat) (x w' : va_W) : Prop := ∃ (a : Nat → Nat) (nw nl lm : Nat) (σ s : gS) (τ t : gT), a 100 = b ∧ w' = sW Γ a nl nl s t ++ (wX Γ ad σ τ ++ x) ∧ TS σ τ nw nl lm K s t
def AP (Γ : gG) (ad : Nat → Nat) (b K : Nat) (x : va_W) : jPost := fun v w' => v = some (.int 1) ∧ AS Γ ad b K x w'
section
variable {E : gE} {cc : ByteArray} {nL : Nat} {own : String} {ws : List Cond} {x : jS} {k n pc : Nat} {lv : List (Nat × Value)} {st : List Value} {w : va_W}
theorem j_below (C : jC E cc nL own ws x) (hl : (eL E).stackTraces = false) {v : Int32} {N : Nat} {R : Room} (hR : eR E = R) (h1 : 1 + 1 ≤ R.frames ∧ 8 + (2 + 11) + 32 ≤ R.locals) (hc : k ≤ R.cells ∧ n ≤ R.slots) (hW : (st.map fun v => v.category).sum ≤ 8) {idx : Nat} (d : decode cc pc = .ok (.invokestatic idx, 3)) (hT : GoodIn ws (va_wsS own idx yL_below wsL_below)) (hn : 0 < N) (hn2 : N < 2 ^ 31) (kk : ∀ r, r < N → J E k n (pc + 3) lv (.int (nI r) :: st) w) : J E k n pc lv (.int (nI N) :: .int v :: st) w := by
  refine j_callS (na := 2) (rest := st) (mc := 0) (ms := 0) C (jX_none C.2.2.2.2.2.2.2.2.2) d (l_below hl (eG E) w v N hn hn2) hT rfl rfl (by decide +kernel) rfl hW (by rw [hR]; exact h1) (by rw [hR]; exact hc) (fun v' w' h => ?_)
  obtain ⟨r, hr, rfl, rfl⟩ := h
  exact kk r hr
end
