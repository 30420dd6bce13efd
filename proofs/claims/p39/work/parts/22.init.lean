/-! the constructor of a Sim -/
section
variable {E : gE} {cc : ByteArray} {nL : Nat} {own : String} {ws : List Cond} {x : jS} {k n pc : Nat} {lv : List (Nat × Value)} {st : List Value} {w : va_W}
theorem j_objInit (C : jC E cc nL own ws x) {idx b : Nat} (d : decode cc pc = .ok (.invokespecial idx, 3)) (h1 : Cond.methodLink own idx objectInit ∈ ws) (h2 : Cond.instanceMethod objectInit ∈ ws) (h3 : Cond.code objectInit ⟨#[0xb1]⟩ 1 none ∈ ws) (hR : 1 ≤ (eR E).frames ∧ (st.map fun v => v.category).sum + 12 ≤ (eR E).locals) (kk : J E k n (pc + 3) lv st w) : J E k n pc lv (.ref b :: st) w := fun H locs ls hP hD hS hl =>
  W.objInit C.1 C.2.1 C.2.2.2.1 (C.2.2.2.2.1 _ h1) (C.2.2.2.2.1 _ h2) (C.2.2.2.2.1 _ h3) rfl hl.1 rfl d hR.1 (by show 2 * 0 + _ + 12 ≤ _; omega) (kk H locs ls hP hD hS hl)
/-- new boolean[12][12], its rows one by one -/
theorem j_new2L (C : jC E cc nL own ws x) {idx : Nat} (d : decode cc pc = .ok (.multianewarray idx 2, 4)) (h1 : Cond.classLink own idx "[[Z" ∈ ws) (h2 : Cond.arrayClass .boolean ∈ ws) (hk : k + 13 ≤ (eR E).cells) (hn : n + 156 ≤ (eR E).slots) (kk : ∀ (q : Nat) (r : Nat → Nat), J E (k + 13) (n + 156) (pc + 4) lv (.ref q :: st) ((q, .inl (jC2 E, 12, .inr (.inr (.inr (.inr (fun i => if i < 12 then some (r i) else none)))))) :: (r 0, .inl (jC1 E, 12, .inl (fun _ => 0))) :: (r 1, .inl (jC1 E, 12, .inl (fun _ => 0))) :: (r 2, .inl (jC1 E, 12, .inl (fun _ => 0))) :: (r 3, .inl (jC1 E, 12, .inl (fun _ => 0))) :: (r 4, .inl (jC1 E, 12, .inl (fun _ => 0))) :: (r 5, .inl (jC1 E, 12, .inl (fun _ => 0))) :: (r 6, .inl (jC1 E, 12, .inl (fun _ => 0))) :: (r 7, .inl (jC1 E, 12, .inl (fun _ => 0))) :: (r 8, .inl (jC1 E, 12, .inl (fun _ => 0))) :: (r 9, .inl (jC1 E, 12, .inl (fun _ => 0))) :: (r 10, .inl (jC1 E, 12, .inl (fun _ => 0))) :: (r 11, .inl (jC1 E, 12, .inl (fun _ => 0))) :: w)) : J E k n pc lv (.int 12 :: .int 12 :: st) w := j_new2 C d h1 h2 hk hn (fun q r => kk q r)
end
def s0 : gS := fun c => if c = 1 then 10 else if c = 2 then 5 else if c = 3 then 2 else 0
/-- where the cells of a new Sim lie -/
def a0 (b q1 q2 q3 q4 q5 : Nat) (r r2 : Nat → Nat) : Nat → Nat := fun c => if c = 100 then b else if c = 6 then q1 else if c = 7 then q2 else if c = 8 then q3 else if c = 9 then q4 else if c = 10 then q5 else if c < 40 then r (c - 20) else r2 (c - 40)
theorem a0_r (b q1 q2 q3 q4 q5 : Nat) (r r2 : Nat → Nat) : aR (a0 b q1 q2 q3 q4 q5 r r2) 20 = fun i => if i < 12 then some (r i) else none := by
  funext i
  show (if i < 12 then some (a0 b q1 q2 q3 q4 q5 r r2 (20 + i)) else none) = _
  by_cases h : i < 12
  · rw [if_pos h, if_pos h]
    unfold a0
    rw [if_neg (by omega), if_neg (by omega), if_neg (by omega), if_neg (by omega), if_neg (by omega), if_neg (by omega), if_pos (by omega), show 20 + i - 20 = i by omega]
  · rw [if_neg h, if_neg h]
theorem a0_r2 (b q1 q2 q3 q4 q5 : Nat) (r r2 : Nat → Nat) : aR (a0 b q1 q2 q3 q4 q5 r r2) 40 = fun i => if i < 12 then some (r2 i) else none := by
  funext i
  show (if i < 12 then some (a0 b q1 q2 q3 q4 q5 r r2 (40 + i)) else none) = _
  by_cases h : i < 12
  · rw [if_pos h, if_pos h]
    unfold a0
    rw [if_neg (by omega), if_neg (by omega), if_neg (by omega), if_neg (by omega), if_neg (by omega), if_neg (by omega), if_neg (by omega), show 40 + i - 40 = i by omega]
  · rw [if_neg h, if_neg h]
set_option maxRecDepth 100000 in
theorem nwX1_init_in : ∀ w ∈ wsX10, w ∈ wsX1_init := by decide +kernel
set_option maxRecDepth 100000 in
theorem nwX1_init_o1 : Cond.methodLink RX1 1 objectInit ∈ wsX1_init := by decide +kernel
set_option maxRecDepth 100000 in
theorem nwX1_init_o2 : Cond.instanceMethod objectInit ∈ wsX1_init := by decide +kernel
set_option maxRecDepth 100000 in
theorem nwX1_init_o3 : Cond.code objectInit ⟨#[0xb1]⟩ 1 none ∈ wsX1_init := by decide +kernel
set_option maxRecDepth 100000 in
theorem nwX1_init_f7 : Cond.fieldLink RX1 7 "TelegraphPricesLaw$Sim" "limit" "I" ∈ wsX1_init := by decide +kernel
set_option maxRecDepth 100000 in
theorem nwX1_init_f13 : Cond.fieldLink RX1 13 "TelegraphPricesLaw$Sim" "least" "I" ∈ wsX1_init := by decide +kernel
set_option maxRecDepth 100000 in
theorem nwX1_init_f16 : Cond.fieldLink RX1 16 "TelegraphPricesLaw$Sim" "coins" "I" ∈ wsX1_init := by decide +kernel
set_option maxRecDepth 100000 in
theorem nwX1_init_arI : Cond.arrayClass .int ∈ wsX1_init := by decide +kernel
set_option maxRecDepth 100000 in
theorem nwX1_init_f19 : Cond.fieldLink RX1 19 "TelegraphPricesLaw$Sim" "letters" "[I" ∈ wsX1_init := by decide +kernel
set_option maxRecDepth 100000 in
theorem nwX1_init_zz : Cond.classLink RX1 23 "[[Z" ∈ wsX1_init := by decide +kernel
set_option maxRecDepth 100000 in
theorem nwX1_init_arZ : Cond.arrayClass .boolean ∈ wsX1_init := by decide +kernel
set_option maxRecDepth 100000 in
theorem nwX1_init_f25 : Cond.fieldLink RX1 25 "TelegraphPricesLaw$Sim" "stand" "[[Z" ∈ wsX1_init := by decide +kernel
set_option maxRecDepth 100000 in
theorem nwX1_init_f28 : Cond.fieldLink RX1 28 "TelegraphPricesLaw$Sim" "join" "[[Z" ∈ wsX1_init := by decide +kernel
set_option maxRecDepth 100000 in
theorem nwX1_init_f31 : Cond.fieldLink RX1 31 "TelegraphPricesLaw$Sim" "word" "[I" ∈ wsX1_init := by decide +kernel
set_option maxRecDepth 100000 in
theorem nwX1_init_f34 : Cond.fieldLink RX1 34 "TelegraphPricesLaw$Sim" "joined" "[Z" ∈ wsX1_init := by decide +kernel
set_option maxHeartbeats 8000000 in
set_option maxRecDepth 100000 in
theorem s_init {l : Launch} (hl : l.stackTraces = false) (Γ : gG) (b : Nat) (z : va_W) : CtJ l yX1_init wsX1_init 2 64 29 324 [.ref b] Γ none (jO b :: z) (fun v w' => v = none ∧ ∃ a : Nat → Nat, a 100 = b ∧ w' = sW Γ a 0 0 s0 zT ++ z) := by
  refine ctj_of (by decide +kernel) rfl (Nat.le_of_ble_eq_true rfl) ?_
  intro E C F N9 hΓ hL R
  subst hΓ
  subst hL
  show J E 0 0 0 [(0, .ref b)] [] (jO b :: z)
  refine j_aload_n C dX1_init_0 rfl rfl ?_
  refine j_objInit C dX1_init_1 nwX1_init_o1 nwX1_init_o2 nwX1_init_o3 (by rw [R]; exact ⟨Nat.le_of_ble_eq_true rfl, Nat.le_of_ble_eq_true rfl⟩) ?_
  refine j_aload_n C dX1_init_4 rfl rfl ?_
  refine j_bipush (v := 10) C dX1_init_5 (by decide) ?_
  refine j_put C 0 1 (ty := .int) (w' := (b, .inr (1, [.int 0, .int 10, .int 0, .int 0, .int 0, .int 0, .null, .null, .null, .null, .null])) :: z) dX1_init_7 nwX1_init_in (by decide) nwX1_init_f7 rfl rfl rfl (by decide +kernel) rfl rfl (Nat.le_of_ble_eq_true rfl) rfl ?_
  refine j_aload_n C dX1_init_10 rfl rfl ?_
  refine j_iconst (v := 5) C dX1_init_11 (by decide) ?_
  refine j_put C 0 2 (ty := .int) (w' := (b, .inr (1, [.int 0, .int 10, .int 5, .int 0, .int 0, .int 0, .null, .null, .null, .null, .null])) :: z) dX1_init_12 nwX1_init_in (by decide) nwX1_init_f13 rfl rfl rfl (by decide +kernel) rfl rfl (Nat.le_of_ble_eq_true rfl) rfl ?_
  refine j_aload_n C dX1_init_15 rfl rfl ?_
  refine j_iconst (v := 2) C dX1_init_16 (by decide) ?_
  refine j_put C 0 3 (ty := .int) (w' := (b, .inr (1, [.int 0, .int 10, .int 5, .int 2, .int 0, .int 0, .null, .null, .null, .null, .null])) :: z) dX1_init_17 nwX1_init_in (by decide) nwX1_init_f16 rfl rfl rfl (by decide +kernel) rfl rfl (Nat.le_of_ble_eq_true rfl) rfl ?_
  refine j_aload_n C dX1_init_20 rfl rfl ?_
  refine j_bipush (v := 12) C dX1_init_21 (by decide) ?_
  refine j_newI C 12 12 dX1_init_23 nwX1_init_arI rfl (by decide) (by decide) (by rw [R]; exact Nat.le_of_ble_eq_true rfl) (by rw [R]; exact Nat.le_of_ble_eq_true rfl) (fun q1 => ?_)
  refine j_putF C 1 6 (ty := .array .int) (w' := (q1, .inl (jC0 E, 12, .inl (fun _ => 0))) :: (b, .inr (1, [.int 0, .int 10, .int 5, .int 2, .int 0, .int 0, .ref q1, .null, .null, .null, .null])) :: z) dX1_init_25 nwX1_init_in (by decide) nwX1_init_f19 rfl rfl N9 rfl (by decide +kernel) rfl rfl (Nat.le_of_ble_eq_true rfl) rfl ?_
  refine j_aload_n C dX1_init_28 rfl rfl ?_
  refine j_bipush (v := 12) C dX1_init_29 (by decide) ?_
  refine j_bipush (v := 12) C dX1_init_31 (by decide) ?_
  refine j_new2L C dX1_init_33 nwX1_init_zz nwX1_init_arZ (by rw [R]; exact Nat.le_of_ble_eq_true rfl) (by rw [R]; exact Nat.le_of_ble_eq_true rfl) (fun q2 r => ?_)
  refine j_putF C 14 7 (ty := .array (.array .boolean)) (w' := (q2, .inl (jC2 E, 12, .inr (.inr (.inr (.inr (fun i => if i < 12 then some (r i) else none)))))) :: (r 0, .inl (jC1 E, 12, .inl (fun _ => 0))) :: (r 1, .inl (jC1 E, 12, .inl (fun _ => 0))) :: (r 2, .inl (jC1 E, 12, .inl (fun _ => 0))) :: (r 3, .inl (jC1 E, 12, .inl (fun _ => 0))) :: (r 4, .inl (jC1 E, 12, .inl (fun _ => 0))) :: (r 5, .inl (jC1 E, 12, .inl (fun _ => 0))) :: (r 6, .inl (jC1 E, 12, .inl (fun _ => 0))) :: (r 7, .inl (jC1 E, 12, .inl (fun _ => 0))) :: (r 8, .inl (jC1 E, 12, .inl (fun _ => 0))) :: (r 9, .inl (jC1 E, 12, .inl (fun _ => 0))) :: (r 10, .inl (jC1 E, 12, .inl (fun _ => 0))) :: (r 11, .inl (jC1 E, 12, .inl (fun _ => 0))) :: (q1, .inl (jC0 E, 12, .inl (fun _ => 0))) :: (b, .inr (1, [.int 0, .int 10, .int 5, .int 2, .int 0, .int 0, .ref q1, .ref q2, .null, .null, .null])) :: z) dX1_init_37 nwX1_init_in (by decide) nwX1_init_f25 rfl rfl N9 rfl (by decide +kernel) rfl rfl (Nat.le_of_ble_eq_true rfl) rfl ?_
  refine j_aload_n C dX1_init_40 rfl rfl ?_
  refine j_bipush (v := 12) C dX1_init_41 (by decide) ?_
  refine j_bipush (v := 12) C dX1_init_43 (by decide) ?_
  refine j_new2L C dX1_init_45 nwX1_init_zz nwX1_init_arZ (by rw [R]; exact Nat.le_of_ble_eq_true rfl) (by rw [R]; exact Nat.le_of_ble_eq_true rfl) (fun q3 r2 => ?_)
  refine j_putF C 27 8 (ty := .array (.array .boolean)) (w' := (q3, .inl (jC2 E, 12, .inr (.inr (.inr (.inr (fun i => if i < 12 then some (r2 i) else none)))))) :: (r2 0, .inl (jC1 E, 12, .inl (fun _ => 0))) :: (r2 1, .inl (jC1 E, 12, .inl (fun _ => 0))) :: (r2 2, .inl (jC1 E, 12, .inl (fun _ => 0))) :: (r2 3, .inl (jC1 E, 12, .inl (fun _ => 0))) :: (r2 4, .inl (jC1 E, 12, .inl (fun _ => 0))) :: (r2 5, .inl (jC1 E, 12, .inl (fun _ => 0))) :: (r2 6, .inl (jC1 E, 12, .inl (fun _ => 0))) :: (r2 7, .inl (jC1 E, 12, .inl (fun _ => 0))) :: (r2 8, .inl (jC1 E, 12, .inl (fun _ => 0))) :: (r2 9, .inl (jC1 E, 12, .inl (fun _ => 0))) :: (r2 10, .inl (jC1 E, 12, .inl (fun _ => 0))) :: (r2 11, .inl (jC1 E, 12, .inl (fun _ => 0))) :: (q2, .inl (jC2 E, 12, .inr (.inr (.inr (.inr (fun i => if i < 12 then some (r i) else none)))))) :: (r 0, .inl (jC1 E, 12, .inl (fun _ => 0))) :: (r 1, .inl (jC1 E, 12, .inl (fun _ => 0))) :: (r 2, .inl (jC1 E, 12, .inl (fun _ => 0))) :: (r 3, .inl (jC1 E, 12, .inl (fun _ => 0))) :: (r 4, .inl (jC1 E, 12, .inl (fun _ => 0))) :: (r 5, .inl (jC1 E, 12, .inl (fun _ => 0))) :: (r 6, .inl (jC1 E, 12, .inl (fun _ => 0))) :: (r 7, .inl (jC1 E, 12, .inl (fun _ => 0))) :: (r 8, .inl (jC1 E, 12, .inl (fun _ => 0))) :: (r 9, .inl (jC1 E, 12, .inl (fun _ => 0))) :: (r 10, .inl (jC1 E, 12, .inl (fun _ => 0))) :: (r 11, .inl (jC1 E, 12, .inl (fun _ => 0))) :: (q1, .inl (jC0 E, 12, .inl (fun _ => 0))) :: (b, .inr (1, [.int 0, .int 10, .int 5, .int 2, .int 0, .int 0, .ref q1, .ref q2, .ref q3, .null, .null])) :: z) dX1_init_49 nwX1_init_in (by decide) nwX1_init_f28 rfl rfl N9 rfl (by decide +kernel) rfl rfl (Nat.le_of_ble_eq_true rfl) rfl ?_
  refine j_aload_n C dX1_init_52 rfl rfl ?_
  refine j_iconst (v := 0) C dX1_init_53 (by decide) ?_
  refine j_newI C 0 0 dX1_init_54 nwX1_init_arI rfl (by decide) (by decide) (by rw [R]; exact Nat.le_of_ble_eq_true rfl) (by rw [R]; exact Nat.le_of_ble_eq_true rfl) (fun q4 => ?_)
  refine j_put C 28 9 (ty := .array .int) (w' := (q4, .inl (jC0 E, 0, .inl (fun _ => 0))) :: (q3, .inl (jC2 E, 12, .inr (.inr (.inr (.inr (fun i => if i < 12 then some (r2 i) else none)))))) :: (r2 0, .inl (jC1 E, 12, .inl (fun _ => 0))) :: (r2 1, .inl (jC1 E, 12, .inl (fun _ => 0))) :: (r2 2, .inl (jC1 E, 12, .inl (fun _ => 0))) :: (r2 3, .inl (jC1 E, 12, .inl (fun _ => 0))) :: (r2 4, .inl (jC1 E, 12, .inl (fun _ => 0))) :: (r2 5, .inl (jC1 E, 12, .inl (fun _ => 0))) :: (r2 6, .inl (jC1 E, 12, .inl (fun _ => 0))) :: (r2 7, .inl (jC1 E, 12, .inl (fun _ => 0))) :: (r2 8, .inl (jC1 E, 12, .inl (fun _ => 0))) :: (r2 9, .inl (jC1 E, 12, .inl (fun _ => 0))) :: (r2 10, .inl (jC1 E, 12, .inl (fun _ => 0))) :: (r2 11, .inl (jC1 E, 12, .inl (fun _ => 0))) :: (q2, .inl (jC2 E, 12, .inr (.inr (.inr (.inr (fun i => if i < 12 then some (r i) else none)))))) :: (r 0, .inl (jC1 E, 12, .inl (fun _ => 0))) :: (r 1, .inl (jC1 E, 12, .inl (fun _ => 0))) :: (r 2, .inl (jC1 E, 12, .inl (fun _ => 0))) :: (r 3, .inl (jC1 E, 12, .inl (fun _ => 0))) :: (r 4, .inl (jC1 E, 12, .inl (fun _ => 0))) :: (r 5, .inl (jC1 E, 12, .inl (fun _ => 0))) :: (r 6, .inl (jC1 E, 12, .inl (fun _ => 0))) :: (r 7, .inl (jC1 E, 12, .inl (fun _ => 0))) :: (r 8, .inl (jC1 E, 12, .inl (fun _ => 0))) :: (r 9, .inl (jC1 E, 12, .inl (fun _ => 0))) :: (r 10, .inl (jC1 E, 12, .inl (fun _ => 0))) :: (r 11, .inl (jC1 E, 12, .inl (fun _ => 0))) :: (q1, .inl (jC0 E, 12, .inl (fun _ => 0))) :: (b, .inr (1, [.int 0, .int 10, .int 5, .int 2, .int 0, .int 0, .ref q1, .ref q2, .ref q3, .ref q4, .null])) :: z) dX1_init_56 nwX1_init_in (by decide) nwX1_init_f31 rfl rfl rfl (by decide +kernel) rfl rfl (Nat.le_of_ble_eq_true rfl) rfl ?_
  refine j_aload_n C dX1_init_59 rfl rfl ?_
  refine j_iconst (v := 0) C dX1_init_60 (by decide) ?_
  refine j_newZ C 0 0 dX1_init_61 nwX1_init_arZ rfl (by decide) (by decide) (by rw [R]; exact Nat.le_of_ble_eq_true rfl) (by rw [R]; exact Nat.le_of_ble_eq_true rfl) (fun q5 => ?_)
  refine j_put C 29 10 (ty := .array .boolean) (w' := (q5, .inl (jC1 E, 0, .inl (fun _ => 0))) :: (q4, .inl (jC0 E, 0, .inl (fun _ => 0))) :: (q3, .inl (jC2 E, 12, .inr (.inr (.inr (.inr (fun i => if i < 12 then some (r2 i) else none)))))) :: (r2 0, .inl (jC1 E, 12, .inl (fun _ => 0))) :: (r2 1, .inl (jC1 E, 12, .inl (fun _ => 0))) :: (r2 2, .inl (jC1 E, 12, .inl (fun _ => 0))) :: (r2 3, .inl (jC1 E, 12, .inl (fun _ => 0))) :: (r2 4, .inl (jC1 E, 12, .inl (fun _ => 0))) :: (r2 5, .inl (jC1 E, 12, .inl (fun _ => 0))) :: (r2 6, .inl (jC1 E, 12, .inl (fun _ => 0))) :: (r2 7, .inl (jC1 E, 12, .inl (fun _ => 0))) :: (r2 8, .inl (jC1 E, 12, .inl (fun _ => 0))) :: (r2 9, .inl (jC1 E, 12, .inl (fun _ => 0))) :: (r2 10, .inl (jC1 E, 12, .inl (fun _ => 0))) :: (r2 11, .inl (jC1 E, 12, .inl (fun _ => 0))) :: (q2, .inl (jC2 E, 12, .inr (.inr (.inr (.inr (fun i => if i < 12 then some (r i) else none)))))) :: (r 0, .inl (jC1 E, 12, .inl (fun _ => 0))) :: (r 1, .inl (jC1 E, 12, .inl (fun _ => 0))) :: (r 2, .inl (jC1 E, 12, .inl (fun _ => 0))) :: (r 3, .inl (jC1 E, 12, .inl (fun _ => 0))) :: (r 4, .inl (jC1 E, 12, .inl (fun _ => 0))) :: (r 5, .inl (jC1 E, 12, .inl (fun _ => 0))) :: (r 6, .inl (jC1 E, 12, .inl (fun _ => 0))) :: (r 7, .inl (jC1 E, 12, .inl (fun _ => 0))) :: (r 8, .inl (jC1 E, 12, .inl (fun _ => 0))) :: (r 9, .inl (jC1 E, 12, .inl (fun _ => 0))) :: (r 10, .inl (jC1 E, 12, .inl (fun _ => 0))) :: (r 11, .inl (jC1 E, 12, .inl (fun _ => 0))) :: (q1, .inl (jC0 E, 12, .inl (fun _ => 0))) :: (b, .inr (1, [.int 0, .int 10, .int 5, .int 2, .int 0, .int 0, .ref q1, .ref q2, .ref q3, .ref q4, .ref q5])) :: z) dX1_init_63 nwX1_init_in (by decide) nwX1_init_f34 rfl rfl rfl (by decide +kernel) rfl rfl (Nat.le_of_ble_eq_true rfl) rfl ?_
  have e : sW (eG E) (a0 b q1 q2 q3 q4 q5 r r2) 0 0 s0 zT = sWr (eG E) (a0 b q1 q2 q3 q4 q5 r r2) 0 0 s0 zT (fun i => if i < 12 then some (r i) else none) (fun i => if i < 12 then some (r2 i) else none) := by
    unfold sW
    rw [a0_r, a0_r2]
  refine j_part (X := [(q5, .inl (jC1 E, 0, .inl (fun _ => 0))), (q4, .inl (jC0 E, 0, .inl (fun _ => 0))), (q3, .inl (jC2 E, 12, .inr (.inr (.inr (.inr (fun i => if i < 12 then some (r2 i) else none)))))), (r2 0, .inl (jC1 E, 12, .inl (fun _ => 0))), (r2 1, .inl (jC1 E, 12, .inl (fun _ => 0))), (r2 2, .inl (jC1 E, 12, .inl (fun _ => 0))), (r2 3, .inl (jC1 E, 12, .inl (fun _ => 0))), (r2 4, .inl (jC1 E, 12, .inl (fun _ => 0))), (r2 5, .inl (jC1 E, 12, .inl (fun _ => 0))), (r2 6, .inl (jC1 E, 12, .inl (fun _ => 0))), (r2 7, .inl (jC1 E, 12, .inl (fun _ => 0))), (r2 8, .inl (jC1 E, 12, .inl (fun _ => 0))), (r2 9, .inl (jC1 E, 12, .inl (fun _ => 0))), (r2 10, .inl (jC1 E, 12, .inl (fun _ => 0))), (r2 11, .inl (jC1 E, 12, .inl (fun _ => 0))), (q2, .inl (jC2 E, 12, .inr (.inr (.inr (.inr (fun i => if i < 12 then some (r i) else none)))))), (r 0, .inl (jC1 E, 12, .inl (fun _ => 0))), (r 1, .inl (jC1 E, 12, .inl (fun _ => 0))), (r 2, .inl (jC1 E, 12, .inl (fun _ => 0))), (r 3, .inl (jC1 E, 12, .inl (fun _ => 0))), (r 4, .inl (jC1 E, 12, .inl (fun _ => 0))), (r 5, .inl (jC1 E, 12, .inl (fun _ => 0))), (r 6, .inl (jC1 E, 12, .inl (fun _ => 0))), (r 7, .inl (jC1 E, 12, .inl (fun _ => 0))), (r 8, .inl (jC1 E, 12, .inl (fun _ => 0))), (r 9, .inl (jC1 E, 12, .inl (fun _ => 0))), (r 10, .inl (jC1 E, 12, .inl (fun _ => 0))), (r 11, .inl (jC1 E, 12, .inl (fun _ => 0))), (q1, .inl (jC0 E, 12, .inl (fun _ => 0))), (b, .inr (1, [.int 0, .int 10, .int 5, .int 2, .int 0, .int 0, .ref q1, .ref q2, .ref q3, .ref q4, .ref q5]))]) (cx := sWr (eG E) (a0 b q1 q2 q3 q4 q5 r r2) 0 0 s0 zT (fun i => if i < 12 then some (r i) else none) (fun i => if i < 12 then some (r2 i) else none)) (pl := z) [29, 28, 15, 2, 1, 0, 16, 17, 18, 19, 20, 21, 22, 23, 24, 25, 26, 27, 3, 4, 5, 6, 7, 8, 9, 10, 11, 12, 13, 14] (by decide) rfl ?_
  rw [← e]
  exact j_vret C F dX1_init_66 (Nat.le_of_ble_eq_true rfl) (Nat.le_of_ble_eq_true rfl) ⟨rfl, (a0 b q1 q2 q3 q4 q5 r r2), rfl, rfl⟩
