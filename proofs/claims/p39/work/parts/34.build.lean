/-! build: a Sim, and acts on both -/
def sgX : gS := fun c => if c = 4 then 10 else if c = 5 then 5 else if c = 6 then 2 else 0
theorem TS_0 : TS sgX zT 0 0 10 0 s0 zT := by
  refine ⟨⟨rfl, rfl, rfl, by decide, by decide, by decide, by decide, fun i h => absurd h (Nat.not_lt_zero i), fun _ => Or.inl rfl, fun _ => Or.inl rfl, fun h => absurd h (Nat.lt_irrefl 0), fun i h => absurd h (Nat.not_lt_zero i), fun i h => absurd h (Nat.not_lt_zero i)⟩, ⟨rfl, rfl, by decide, by decide, ⟨by decide, by decide⟩, fun i h => absurd h (Nat.not_lt_zero i), fun i h => absurd h (Nat.not_lt_zero i), fun _ _ => Or.inl rfl, fun _ _ => Or.inl rfl, fun _ => Or.inl rfl⟩, ⟨rfl, rfl, rfl, rfl⟩, fun i h => absurd h (Nat.not_lt_zero i), fun i h => absurd h (Nat.not_lt_zero i), fun a b h => absurd h (Nat.not_lt_zero a), fun _ _ _ _ => ⟨rfl, rfl⟩, fun a h => absurd h (Nat.not_lt_zero a), fun i h => absurd h (Nat.not_lt_zero _), ⟨5, rfl, by decide⟩, ⟨2, rfl, by decide, by decide⟩, ⟨0, rfl, Nat.le_refl 0⟩⟩
theorem AS_up {Γ : gG} {ad : Nat → Nat} {b K K2 : Nat} {x w' : va_W} (h : AS Γ ad b K x w') (hk : K ≤ K2) : AS Γ ad b K2 x w' := by
  obtain ⟨a, nw, nl, lm, σ, s, τ, t, ha, rfl, T9⟩ := h
  exact ⟨a, nw, nl, lm, σ, s, τ, t, ha, rfl, TS_up T9 hk⟩
set_option maxRecDepth 100000 in
theorem nwL_build_k10 : Cond.classLink RL 10 RX1 ∈ wsL_build := by decide +kernel
set_option maxRecDepth 100000 in
theorem nwL_build_ins : Cond.instantiable RX1 11 ∈ wsL_build := by decide +kernel
set_option maxRecDepth 100000 in
theorem nwL_build_ini : Cond.initialized RX1 ∈ wsL_build := by decide +kernel
set_option maxRecDepth 100000 in
theorem nwL_build_in : ∀ w ∈ wsX10, w ∈ wsL_build := by decide +kernel
set_option maxRecDepth 100000 in
theorem nwL_build_iin : Cond.instanceMethod yX1_init ∈ wsL_build := by decide +kernel
set_option maxHeartbeats 4000000 in
set_option maxRecDepth 100000 in
theorem l_build {l : Launch} (hl : l.stackTraces = false) (Γ : gG) (ad : Nat → Nat) (x0 : va_W) (b L : Nat) (xs : Nat → Int32) (hL : L < 1000) : CtJ l yL_build wsL_build 8 272 42692 491861 [.ref (ad 100), .ref b] Γ (some (b, L, xs)) (wX Γ ad sgX zT ++ x0) (fun v w' => ∃ b2, v = some (.ref b2) ∧ AS Γ ad b2 83 x0 w') := by
  refine ctj_of (by decide +kernel) rfl (Nat.le_of_ble_eq_true rfl) ?_
  intro E C F N9 hΓ hL R
  subst hΓ
  subst hL
  show J E 0 0 0 [(0, .ref (ad 100)), (1, .ref b)] [] (wX (eG E) ad sgX zT ++ x0)
  have loop : ∀ (b2 n : Nat), n ≤ 83 → ∀ d k : Nat, ∀ w : va_W, k + d = n → AS (eG E) ad b2 k x0 w → J E (30 + 514 * k) (335 + 5922 * k) 25 [(4, .int (nI k)), (3, .int (nI n)), (2, .ref b2), (0, .ref (ad 100)), (1, .ref b)] [] w := by
    intro b2 n hn d
    induction d with
    | zero =>
      intro k w hk hA
      refine j_iload C dL_build_25 rfl ?_
      refine j_iload_n C dL_build_27 rfl rfl ?_
      refine j_icmp_ge (tgt := 71) C dL_build_28 (by decide) (fun c_28 => ?_) (fun c_28 => ?_)
      · refine j_aload_n C dL_build_71 rfl rfl ?_
        exact j_aret C F (Or.inl ⟨_, rfl⟩) dL_build_72 (show 30 + 514 * k ≤ 42692 by omega) (show 335 + 5922 * k ≤ 491861 by omega) ⟨b2, rfl, AS_up hA (by omega)⟩
      · exact absurd (nI_le (by omega) (by omega)) c_28
    | succ d ih =>
      intro k w hk hA
      obtain ⟨a, nw, nl, lm, σ, s, τ, t, ha, rfl, T9⟩ := hA
      subst ha
      refine j_iload C dL_build_25 rfl ?_
      refine j_iload_n C dL_build_27 rfl rfl ?_
      refine j_icmp_ge (tgt := 71) C dL_build_28 (by decide) (fun c_28 => ?_) (fun c_28 => ?_)
      · exact absurd c_28 (nI_ge (by omega) (by omega))
      · refine j_aload_n C dL_build_31 rfl rfl ?_
        refine j_aload_n C dL_build_32 rfl rfl ?_
        refine j_aload_n C dL_build_33 rfl rfl ?_
        refine j_iload C dL_build_34 rfl ?_
        refine j_bipush (v := 16) C dL_build_36 (by decide) ?_
        refine j_irem C dL_build_38 (by decide) ?_
        rw [show nI k - nI k / 16 * 16 = nI (k % 16) from pk_rem (d := 16) (by omega) (by decide) (by decide)]
        refine j_callS (na := 2) C C.2.2.2.2.2.2.2.2.2 dL_build_39 (l_cell hl (eG E) _ b L (k % 16) xs hL (by omega)) gL_build_L_cell rfl rfl (by decide +kernel) rfl (Nat.le_of_ble_eq_true rfl) (by rw [R]; exact ⟨Nat.le_of_ble_eq_true rfl, Nat.le_of_ble_eq_true rfl⟩) (by rw [R]; exact ⟨show 30 + 514 * k + 0 ≤ 42692 by omega, show 335 + 5922 * k + 0 ≤ 491861 by omega⟩) (fun v' w' h => ?_)
        obtain ⟨r, rfl, rfl⟩ := h
        refine j_iload C dL_build_42 rfl ?_
        refine j_bipush (v := 16) C dL_build_44 (by decide) ?_
        refine j_idiv C dL_build_46 (by decide) ?_
        refine j_iconst (v := 3) C dL_build_47 (by decide) ?_
        refine j_imul C dL_build_48 ?_
        refine j_ishr C dL_build_49 ?_
        refine j_sipush (v := 557) C dL_build_50 (by decide) ?_
        refine j_iload C dL_build_53 rfl ?_
        refine j_imul C dL_build_55 ?_
        refine j_iadd C dL_build_56 ?_
        refine j_callS (na := 3) C (jX_none C.2.2.2.2.2.2.2.2.2) dL_build_57 (l_act hl (eG E) T9 _) gL_build_L_act rfl rfl (by decide +kernel) rfl (Nat.le_of_ble_eq_true rfl) (by rw [R]; exact ⟨Nat.le_of_ble_eq_true rfl, Nat.le_of_ble_eq_true rfl⟩) (by rw [R]; exact ⟨show 30 + 514 * k + 0 + 514 ≤ 42692 by omega, show 335 + 5922 * k + 0 + 5922 ≤ 491861 by omega⟩) (fun v' w' h => ?_)
        obtain ⟨rfl, hA2⟩ := h
        refine j_if_ne (tgt := 65) C dL_build_60 (by decide) (fun c_60 => ?_) (fun c_60 => ?_)
        · refine j_iinc C 0 [(4, _), (3, _), (2, _), (0, _), (1, _)] dL_build_65 rfl (nI_i1 k) (by decide) rfl ?_
          refine j_goto (tgt := 25) C dL_build_68 (by decide) ?_
          exact j_wide (30 + 514 * (k + 1)) (335 + 5922 * (k + 1)) (by omega) (by omega) (ih (k + 1) _ (by omega) hA2)
        · exact absurd c_60 (by decide)
  refine j_new C dL_build_0 nwL_build_in nwL_build_k10 nwL_build_ins nwL_build_ini (by rw [R]; exact Nat.le_of_ble_eq_true rfl) (by rw [R]; exact Nat.le_of_ble_eq_true rfl) (fun q => ?_)
  refine j_dup C dL_build_3 rfl ?_
  refine j_callIN C dL_build_4 (s_init hl (eG E) q _) gL_build_X1_init_n100 rfl nwL_build_ini nwL_build_iin rfl (Nat.le_of_ble_eq_true rfl) (by rw [R]; exact ⟨Nat.le_of_ble_eq_true rfl, Nat.le_of_ble_eq_true rfl⟩) (by rw [R]; exact ⟨Nat.le_of_ble_eq_true rfl, Nat.le_of_ble_eq_true rfl⟩) (fun v' w' h => ?_)
  obtain ⟨rfl, a, ha, rfl⟩ := h
  refine j_astore_n C [(2, _), (0, _), (1, _)] dL_build_7 rfl (by decide) rfl ?_
  refine j_bipush (v := 24) C dL_build_8 (by decide) ?_
  refine j_aload_n C dL_build_10 rfl rfl ?_
  refine j_iconst (v := 0) C dL_build_11 (by decide) ?_
  refine j_callS (na := 2) C C.2.2.2.2.2.2.2.2.2 dL_build_12 (l_cell hl (eG E) _ b L 0 xs hL (by omega)) gL_build_L_cell rfl rfl (by decide +kernel) rfl (Nat.le_of_ble_eq_true rfl) (by rw [R]; exact ⟨Nat.le_of_ble_eq_true rfl, Nat.le_of_ble_eq_true rfl⟩) (by rw [R]; exact ⟨Nat.le_of_ble_eq_true rfl, Nat.le_of_ble_eq_true rfl⟩) (fun v' w' h => ?_)
  obtain ⟨r, rfl, rfl⟩ := h
  refine j_bipush (v := 60) C dL_build_15 (by decide) ?_
  refine j_below (N := 60) C hl R ⟨Nat.le_of_ble_eq_true rfl, Nat.le_of_ble_eq_true rfl⟩ ⟨Nat.le_of_ble_eq_true rfl, Nat.le_of_ble_eq_true rfl⟩ (Nat.le_of_ble_eq_true rfl) dL_build_17 gL_build_L_below (by decide) (by decide) (fun r0 hr0 => ?_)
  refine j_iadd C dL_build_20 ?_
  rw [show (24 : Int32) + nI r0 = nI (24 + r0) from nI_add 24 r0]
  refine j_istore_n C [(3, _), (2, _), (0, _), (1, _)] dL_build_21 rfl (by decide) rfl ?_
  refine j_iconst (v := 0) C dL_build_22 (by decide) ?_
  refine j_istore C [(4, _), (3, _), (2, _), (0, _), (1, _)] dL_build_23 (by decide) rfl ?_
  exact loop q (24 + r0) (by omega) (24 + r0) 0 _ (by omega) ⟨a, 0, 0, 10, sgX, s0, zT, zT, ha, rfl, TS_0⟩
