/-! the law's helpers: they call, and catch -/
def lb (r : Int32) : Int64 := if r = 0 then 0 else 1
abbrev gNc : List (String × String) := [("java/lang/IllegalStateException", "java/lang/IllegalArgumentException"), ("java/lang/IndexOutOfBoundsException", "java/lang/IllegalArgumentException"), ("java/lang/IllegalArgumentException", "java/lang/IllegalStateException"), ("java/lang/IndexOutOfBoundsException", "java/lang/IllegalStateException"), ("java/lang/IllegalArgumentException", "java/lang/IndexOutOfBoundsException"), ("java/lang/IllegalStateException", "java/lang/IndexOutOfBoundsException")]
def uN (U : State) : Prop := ∀ q ∈ gNc, va_Nc q.1 q.2 U
/-- a helper's contract -/
def CtL (l : Launch) (y : MethodName) (ws : List Cond) (fr lo mc ms : Nat) (As : List Value) (Γ : gG) (σ : gS) (τ : gT) (o : gO) (post : gPost) : Prop :=
  ∀ sz : Nat, vx_Met l y ws { frames := fr, cells := mc, slots := ms, locals := lo } (va_Pc As (fun U => uP Γ sz σ τ o U ∧ uN U)) (uQ Γ (uAd Γ sz) post) (uX Γ (uAd Γ sz) noX) mc ms (uAd Γ sz)
theorem ctL_of {l : Launch} {y : MethodName} {ws ws' : List Cond} {cc : ByteArray} {maxL fr lo mc ms : Nat} {ret : Option FieldType} {hh : List (Nat × Nat × Nat × Nat)} {As : List Value} {Γ : gG} {σ : gS} {τ : gT} {o : gO} {post : gPost} (hl : l.stackTraces = false) (hy : plainName y.cls = true) (hw : ws = Cond.codeWith y cc maxL ret hh :: ws') (hn : (lg_sl As).length ≤ maxL)
    (body : ∀ E : gE, gC E cc maxL y.cls ws → gF E post noX mc ms ret → (eC E).exceptionTable.toList = tableOf hh → uN (eS E) → eG E = Γ → eL E = l → eR E = { frames := fr, cells := mc, slots := ms, locals := lo } → G E 0 0 0 (lv_args 0 As) [] σ τ o) : CtL l y ws fr lo mc ms As Γ σ τ o post := by
  intro sz
  refine vx_ofWH (cc := cc) (maxL := maxL) (ret := ret) (hh := hh) hy hw ?_
  intro p e s m args below meth c s₁ B hml hv
  obtain ⟨rfl, ⟨hsz, hB, hD0, hZ⟩, hN⟩ := hv
  subst hsz
  have hD : va_D (uAd Γ s.heap.size) (wW Γ z0 zT zO) := hD0.self
  have hlv := lv_entry As hn
  have hT := vx_table (x := y) B (atoms_spec (ws := ws) B.pre _ (by rw [hw]; exact List.mem_cons_self))
  rw [lg_entry_eq]
  exact body (p, l, e, (headSpec ws { frames := fr, cells := mc, slots := ms, locals := lo }).room, s, m, As.toArray, below, meth, c, Γ, uAd Γ s.heap.size, _) ⟨B.exec, B.bytes, hml, findClass_of_methodNamed B.named, atoms_spec (ws := ws) B.pre, hB.2, fun q h => Or.inr h, hD, hZ, hl⟩ ⟨rfl, B.notSynchronized, B.returns⟩ hT hN rfl rfl rfl s.heap [] _ hB.1 va_S.rf (by rw [hml]; exact hlv)
section
variable {E : gE} {cc : ByteArray} {nL : Nat} {own : String} {ws : List Cond} {k n pc : Nat} {lv : List (Nat × Value)} {st : List Value} {σ : gS} {τ : gT} {o : gO}
/-- caught by a row of the table -/
theorem gx_catch (C : gC E cc nL own ws) {hh : List (Nat × Nat × Nat × Nat)} (T : (eC E).exceptionTable.toList = tableOf hh) (hN : uN (eS E)) (pre : List (Nat × Nat × Nat × Nat)) (x : Nat × Nat × Nat × Nat) (suf : List (Nat × Nat × Nat × Nat)) {X : String} (hs : hh = pre ++ x :: suf)
    (hpass : ∀ z ∈ pre, z.2.2.2 ≠ 0 ∧ ∃ nm : String, Cond.classLink own z.2.2.2 nm ∈ ws ∧ (X, nm) ∈ gNc) (hcov : covers ⟨x.1, x.2.1, x.2.2.1, x.2.2.2⟩ pc = true) (h0 : x.2.2.2 ≠ 0) (hlink : Cond.classLink own x.2.2.2 X ∈ ws) (hX : X ∈ gXc)
    (kk : ∀ q : Nat, G E k n x.2.2.1 lv [.ref q] σ τ o) : GX E k n pc lv st σ τ o X := fun H locs ls q ce hP hS hl hce hcv hcl => by
  refine vx_catch (own := own) (name := X) C.2.2.2.1 (tableOf pre) ⟨x.1, x.2.1, x.2.2.1, x.2.2.2⟩ (tableOf suf) ?_ ?_ hcov h0 (C.2.2.2.2.1 _ hlink) (va_Nw.use rfl (C.2.2.2.2.2.2.2.2.1.2.2.2.1 X hX)) hce hcv hcl (kk q H locs ls hP hS hl)
  · rw [T, hs]
    unfold tableOf
    rw [List.map_append, List.map_cons]
  · intro z hz
    obtain ⟨y, hy, rfl⟩ := List.mem_map.mp hz
    obtain ⟨h1, nm, h2, h3⟩ := hpass y hy
    exact Or.inr ⟨h1, nm, C.2.2.2.2.1 _ h2, hN (X, nm) h3⟩
/-- out[0] -/
theorem g_last (C : gC E cc nL own ws) {x : Int64} (d : decode cc pc = .ok (.lastore, 1)) (kk : G E k n (pc + 1) lv st σ τ (vp_updL o 0 x)) : G E k n pc lv (.long x :: .int 0 :: .ref ((eG E).2.1 102) :: st) σ τ o := fun H locs ls hP hS hl => by
  refine va_last (D := (eG E).1) (cl := vwCl) (tys := gTy (eG E)) C.1 C.2.1 C.2.2.2.2.2.1 hP (uD_of C) hS 21 2 rfl rfl (show vp_in (0 : Int32) 1 by unfold vp_in; decide) d (fun H1 locs1 hP1 _ hS1 => kk H1 locs1 ls ?_ hS1 hl)
  rw [i0_cl] at hP1
  exact hP1
theorem g_lald (C : gC E cc nL own ws) (d : decode cc pc = .ok (.laload, 1)) (kk : G E k n (pc + 1) lv (.long (o 0) :: st) σ τ o) : G E k n pc lv (.int 0 :: .ref ((eG E).2.1 102) :: st) σ τ o := fun H locs ls hP hS hl => by
  refine va_lald (D := (eG E).1) (cl := vwCl) (tys := gTy (eG E)) C.1 C.2.1 C.2.2.2.2.2.1 hP 21 2 rfl rfl (show vp_in (0 : Int32) 1 by unfold vp_in; decide) d ?_
  rw [i0_cl]
  exact kk H locs ls hP hS hl
end
set_option maxHeartbeats 4000000 in
set_option maxRecDepth 100000 in
theorem h_priceTo {l : Launch} (hl : l.stackTraces = false) (Γ : gG) (σ : gS) (τ : gT) (o : gO) (nw nl lm : Nat) (z : Int32) (I : IX σ τ nw nl lm) (hz : ¬ z < 0 ∧ z < 4) : CtL l yL_priceTo wsL_priceTo 6 192 0 0 [.ref (Γ.2.1 100), .int z, .ref (Γ.2.1 102)] Γ σ τ o (pE (some (.int 0)) σ τ (vp_updL o 0 ((CTx σ τ nl * σ 6 * (z + 2) / 2).toInt64))) := by
  refine ctL_of hl (by decide +kernel) rfl (Nat.le_of_ble_eq_true rfl) ?_
  intro E C F T hNc hΓ hL R
  subst hΓ
  subst hL
  show G E 0 0 0 [(0, .ref ((eG E).2.1 100)), (1, .int z), (2, .ref ((eG E).2.1 102))] [] σ τ o
  refine g_aload_n C dL_priceTo_0 rfl rfl ?_
  refine g_iconst (v := 0) C dL_priceTo_1 (by decide) ?_
  refine g_aload_n C dL_priceTo_2 rfl rfl ?_
  refine g_iload_n C dL_priceTo_3 rfl rfl ?_
  refine g_callVEi (Cl := RX0) (T := TX0) (N := 18) (ci := 0) (q0 := 0) (na := 1) C dL_priceTo_4 (c_priceTo hl (eG E) σ τ o nw nl lm z I hz) gL_priceTo_X0_priceTo rfl rfl (by decide +kernel) rfl rfl rfl (Nat.le_of_ble_eq_true rfl) (by rw [R]; exact ⟨by decide, by decide⟩) (by rw [R]; exact ⟨by decide, by decide⟩) ?_
  refine g_i2l C dL_priceTo_7 ?_
  refine g_last C dL_priceTo_8 ?_
  refine g_goto (tgt := 15) C dL_priceTo_9 (by decide) ?_
  refine g_iconst (v := 0) C dL_priceTo_15 (by decide) ?_
  exact g_iret C F dL_priceTo_16 (by decide) (by decide) ⟨rfl, rfl, rfl, rfl⟩
set_option maxRecDepth 100000 in
theorem mwL_priceTo_h21 : Cond.classLink RL 21 "java/lang/IndexOutOfBoundsException" ∈ wsL_priceTo := by decide +kernel
set_option maxHeartbeats 4000000 in
set_option maxRecDepth 100000 in
theorem h_priceToX {l : Launch} (hl : l.stackTraces = false) (Γ : gG) (σ : gS) (τ : gT) (o : gO) (z : Int32) (hz : z < 0 ∨ ¬ z < 4) : CtL l yL_priceTo wsL_priceTo 7 224 1 6 [.ref (Γ.2.1 100), .int z, .ref (Γ.2.1 102)] Γ σ τ o (pE (some (.int 1)) σ τ o) := by
  refine ctL_of hl (by decide +kernel) rfl (Nat.le_of_ble_eq_true rfl) ?_
  intro E C F T hNc hΓ hL R
  subst hΓ
  subst hL
  show G E 0 0 0 [(0, .ref ((eG E).2.1 100)), (1, .int z), (2, .ref ((eG E).2.1 102))] [] σ τ o
  refine g_aload_n C dL_priceTo_0 rfl rfl ?_
  refine g_iconst (v := 0) C dL_priceTo_1 (by decide) ?_
  refine g_aload_n C dL_priceTo_2 rfl rfl ?_
  refine g_iload_n C dL_priceTo_3 rfl rfl ?_
  refine g_callV (Cl := RX0) (T := TX0) (N := 18) (ci := 0) (q0 := 0) (na := 1) C dL_priceTo_4 (c_priceToX hl (eG E) σ τ o z hz) gL_priceTo_X0_priceTo rfl rfl (by decide +kernel) rfl rfl rfl (Nat.le_of_ble_eq_true rfl) (by rw [R]; exact ⟨by decide, by decide⟩) (by rw [R]; exact ⟨by decide, by decide⟩) (fun X σ' τ' o' h => ?_) (fun v σ' τ' o' h => h.elim)
  obtain ⟨rfl, rfl, rfl, rfl⟩ := h
  refine gx_catch C T hNc [] (0, 9, 12, 21) [] rfl (fun z hz => absurd hz List.not_mem_nil) (by decide) (by decide) mwL_priceTo_h21 (by decide +kernel) (fun q => ?_)
  refine g_astore_n C [(3, _), (0, _), (1, _), (2, _)] dL_priceTo_12 rfl (by decide) rfl ?_
  refine g_iconst (v := 1) C dL_priceTo_13 (by decide) ?_
  exact g_iret C F dL_priceTo_14 (by decide) (by decide) ⟨rfl, rfl, rfl, rfl⟩
set_option maxHeartbeats 4000000 in
set_option maxRecDepth 100000 in
theorem h_lettersOf {l : Launch} (hl : l.stackTraces = false) (Γ : gG) (σ : gS) (τ : gT) (o : gO) (nw nl lm : Nat) (a : Nat) (I : IX σ τ nw nl lm) (ha : a < nw) : CtL l yL_lettersOf wsL_lettersOf 3 96 0 0 [.ref (Γ.2.1 100), .int (nI a), .ref (Γ.2.1 102)] Γ σ τ o (pE (some (.int 0)) σ τ (vp_updL o 0 ((τ 0 a).toInt64))) := by
  refine ctL_of hl (by decide +kernel) rfl (Nat.le_of_ble_eq_true rfl) ?_
  intro E C F T hNc hΓ hL R
  subst hΓ
  subst hL
  show G E 0 0 0 [(0, .ref ((eG E).2.1 100)), (1, .int (nI a)), (2, .ref ((eG E).2.1 102))] [] σ τ o
  refine g_aload_n C dL_lettersOf_0 rfl rfl ?_
  refine g_iconst (v := 0) C dL_lettersOf_1 (by decide) ?_
  refine g_aload_n C dL_lettersOf_2 rfl rfl ?_
  refine g_iload_n C dL_lettersOf_3 rfl rfl ?_
  refine g_callVEi (Cl := RX0) (T := TX0) (N := 18) (ci := 0) (q0 := 0) (na := 1) C dL_lettersOf_4 (c_lettersOf hl (eG E) σ τ o nw nl lm a I ha) gL_lettersOf_X0_lettersOf rfl rfl (by decide +kernel) rfl rfl rfl (Nat.le_of_ble_eq_true rfl) (by rw [R]; exact ⟨by decide, by decide⟩) (by rw [R]; exact ⟨by decide, by decide⟩) ?_
  refine g_i2l C dL_lettersOf_7 ?_
  refine g_last C dL_lettersOf_8 ?_
  refine g_goto (tgt := 15) C dL_lettersOf_9 (by decide) ?_
  refine g_iconst (v := 0) C dL_lettersOf_15 (by decide) ?_
  exact g_iret C F dL_lettersOf_16 (by decide) (by decide) ⟨rfl, rfl, rfl, rfl⟩
set_option maxRecDepth 100000 in
theorem mwL_lettersOf_h21 : Cond.classLink RL 21 "java/lang/IndexOutOfBoundsException" ∈ wsL_lettersOf := by decide +kernel
set_option maxHeartbeats 4000000 in
set_option maxRecDepth 100000 in
theorem h_lettersOfX {l : Launch} (hl : l.stackTraces = false) (Γ : gG) (σ : gS) (τ : gT) (o : gO) (w : Int32) (hw : w < 0 ∨ ¬ w < σ 3) : CtL l yL_lettersOf wsL_lettersOf 8 256 1 6 [.ref (Γ.2.1 100), .int w, .ref (Γ.2.1 102)] Γ σ τ o (pE (some (.int 1)) σ τ o) := by
  refine ctL_of hl (by decide +kernel) rfl (Nat.le_of_ble_eq_true rfl) ?_
  intro E C F T hNc hΓ hL R
  subst hΓ
  subst hL
  show G E 0 0 0 [(0, .ref ((eG E).2.1 100)), (1, .int w), (2, .ref ((eG E).2.1 102))] [] σ τ o
  refine g_aload_n C dL_lettersOf_0 rfl rfl ?_
  refine g_iconst (v := 0) C dL_lettersOf_1 (by decide) ?_
  refine g_aload_n C dL_lettersOf_2 rfl rfl ?_
  refine g_iload_n C dL_lettersOf_3 rfl rfl ?_
  refine g_callV (Cl := RX0) (T := TX0) (N := 18) (ci := 0) (q0 := 0) (na := 1) C dL_lettersOf_4 (c_lettersOfX hl (eG E) σ τ o w hw) gL_lettersOf_X0_lettersOf rfl rfl (by decide +kernel) rfl rfl rfl (Nat.le_of_ble_eq_true rfl) (by rw [R]; exact ⟨by decide, by decide⟩) (by rw [R]; exact ⟨by decide, by decide⟩) (fun X σ' τ' o' h => ?_) (fun v σ' τ' o' h => h.elim)
  obtain ⟨rfl, rfl, rfl, rfl⟩ := h
  refine gx_catch C T hNc [] (0, 9, 12, 21) [] rfl (fun z hz => absurd hz List.not_mem_nil) (by decide) (by decide) mwL_lettersOf_h21 (by decide +kernel) (fun q => ?_)
  refine g_astore_n C [(3, _), (0, _), (1, _), (2, _)] dL_lettersOf_12 rfl (by decide) rfl ?_
  refine g_iconst (v := 1) C dL_lettersOf_13 (by decide) ?_
  exact g_iret C F dL_lettersOf_14 (by decide) (by decide) ⟨rfl, rfl, rfl, rfl⟩
set_option maxHeartbeats 4000000 in
set_option maxRecDepth 100000 in
theorem h_countOf {l : Launch} (hl : l.stackTraces = false) (Γ : gG) (σ : gS) (τ : gT) (o : gO) (nw nl lm : Nat) (a : Nat) (I : IX σ τ nw nl lm) (ha : a < nw) : CtL l yL_countOf wsL_countOf 3 96 0 0 [.ref (Γ.2.1 100), .int (nI a), .ref (Γ.2.1 102)] Γ σ τ o (pE (some (.int 0)) σ τ (vp_updL o 0 ((cn (σ 4) (τ 0 a)).toInt64))) := by
  refine ctL_of hl (by decide +kernel) rfl (Nat.le_of_ble_eq_true rfl) ?_
  intro E C F T hNc hΓ hL R
  subst hΓ
  subst hL
  show G E 0 0 0 [(0, .ref ((eG E).2.1 100)), (1, .int (nI a)), (2, .ref ((eG E).2.1 102))] [] σ τ o
  refine g_aload_n C dL_countOf_0 rfl rfl ?_
  refine g_iconst (v := 0) C dL_countOf_1 (by decide) ?_
  refine g_aload_n C dL_countOf_2 rfl rfl ?_
  refine g_iload_n C dL_countOf_3 rfl rfl ?_
  refine g_callVEi (Cl := RX0) (T := TX0) (N := 18) (ci := 0) (q0 := 0) (na := 1) C dL_countOf_4 (c_countOf hl (eG E) σ τ o nw nl lm a I ha) gL_countOf_X0_countOf rfl rfl (by decide +kernel) rfl rfl rfl (Nat.le_of_ble_eq_true rfl) (by rw [R]; exact ⟨by decide, by decide⟩) (by rw [R]; exact ⟨by decide, by decide⟩) ?_
  refine g_i2l C dL_countOf_7 ?_
  refine g_last C dL_countOf_8 ?_
  refine g_goto (tgt := 15) C dL_countOf_9 (by decide) ?_
  refine g_iconst (v := 0) C dL_countOf_15 (by decide) ?_
  exact g_iret C F dL_countOf_16 (by decide) (by decide) ⟨rfl, rfl, rfl, rfl⟩
set_option maxRecDepth 100000 in
theorem mwL_countOf_h21 : Cond.classLink RL 21 "java/lang/IndexOutOfBoundsException" ∈ wsL_countOf := by decide +kernel
set_option maxHeartbeats 4000000 in
set_option maxRecDepth 100000 in
theorem h_countOfX {l : Launch} (hl : l.stackTraces = false) (Γ : gG) (σ : gS) (τ : gT) (o : gO) (w : Int32) (hw : w < 0 ∨ ¬ w < σ 3) : CtL l yL_countOf wsL_countOf 8 256 1 6 [.ref (Γ.2.1 100), .int w, .ref (Γ.2.1 102)] Γ σ τ o (pE (some (.int 1)) σ τ o) := by
  refine ctL_of hl (by decide +kernel) rfl (Nat.le_of_ble_eq_true rfl) ?_
  intro E C F T hNc hΓ hL R
  subst hΓ
  subst hL
  show G E 0 0 0 [(0, .ref ((eG E).2.1 100)), (1, .int w), (2, .ref ((eG E).2.1 102))] [] σ τ o
  refine g_aload_n C dL_countOf_0 rfl rfl ?_
  refine g_iconst (v := 0) C dL_countOf_1 (by decide) ?_
  refine g_aload_n C dL_countOf_2 rfl rfl ?_
  refine g_iload_n C dL_countOf_3 rfl rfl ?_
  refine g_callV (Cl := RX0) (T := TX0) (N := 18) (ci := 0) (q0 := 0) (na := 1) C dL_countOf_4 (c_countOfX hl (eG E) σ τ o w hw) gL_countOf_X0_countOf rfl rfl (by decide +kernel) rfl rfl rfl (Nat.le_of_ble_eq_true rfl) (by rw [R]; exact ⟨by decide, by decide⟩) (by rw [R]; exact ⟨by decide, by decide⟩) (fun X σ' τ' o' h => ?_) (fun v σ' τ' o' h => h.elim)
  obtain ⟨rfl, rfl, rfl, rfl⟩ := h
  refine gx_catch C T hNc [] (0, 9, 12, 21) [] rfl (fun z hz => absurd hz List.not_mem_nil) (by decide) (by decide) mwL_countOf_h21 (by decide +kernel) (fun q => ?_)
  refine g_astore_n C [(3, _), (0, _), (1, _), (2, _)] dL_countOf_12 rfl (by decide) rfl ?_
  refine g_iconst (v := 1) C dL_countOf_13 (by decide) ?_
  exact g_iret C F dL_countOf_14 (by decide) (by decide) ⟨rfl, rfl, rfl, rfl⟩
set_option maxHeartbeats 4000000 in
set_option maxRecDepth 100000 in
theorem h_standInsOf {l : Launch} (hl : l.stackTraces = false) (Γ : gG) (σ : gS) (τ : gT) (o : gO) (nw nl lm : Nat) (a : Nat) (I : IX σ τ nw nl lm) (ha : a < nw) : CtL l yL_standInsOf wsL_standInsOf 3 96 0 0 [.ref (Γ.2.1 100), .int (nI a), .ref (Γ.2.1 102)] Γ σ τ o (pE (some (.int 0)) σ τ (vp_updL o 0 ((bcF (τ 1 a)).toInt64))) := by
  refine ctL_of hl (by decide +kernel) rfl (Nat.le_of_ble_eq_true rfl) ?_
  intro E C F T hNc hΓ hL R
  subst hΓ
  subst hL
  show G E 0 0 0 [(0, .ref ((eG E).2.1 100)), (1, .int (nI a)), (2, .ref ((eG E).2.1 102))] [] σ τ o
  refine g_aload_n C dL_standInsOf_0 rfl rfl ?_
  refine g_iconst (v := 0) C dL_standInsOf_1 (by decide) ?_
  refine g_aload_n C dL_standInsOf_2 rfl rfl ?_
  refine g_iload_n C dL_standInsOf_3 rfl rfl ?_
  refine g_callVEi (Cl := RX0) (T := TX0) (N := 18) (ci := 0) (q0 := 0) (na := 1) C dL_standInsOf_4 (c_standInsOf hl (eG E) σ τ o nw nl lm a I ha) gL_standInsOf_X0_standInsOf rfl rfl (by decide +kernel) rfl rfl rfl (Nat.le_of_ble_eq_true rfl) (by rw [R]; exact ⟨by decide, by decide⟩) (by rw [R]; exact ⟨by decide, by decide⟩) ?_
  refine g_i2l C dL_standInsOf_7 ?_
  refine g_last C dL_standInsOf_8 ?_
  refine g_goto (tgt := 15) C dL_standInsOf_9 (by decide) ?_
  refine g_iconst (v := 0) C dL_standInsOf_15 (by decide) ?_
  exact g_iret C F dL_standInsOf_16 (by decide) (by decide) ⟨rfl, rfl, rfl, rfl⟩
set_option maxRecDepth 100000 in
theorem mwL_standInsOf_h21 : Cond.classLink RL 21 "java/lang/IndexOutOfBoundsException" ∈ wsL_standInsOf := by decide +kernel
set_option maxHeartbeats 4000000 in
set_option maxRecDepth 100000 in
theorem h_standInsOfX {l : Launch} (hl : l.stackTraces = false) (Γ : gG) (σ : gS) (τ : gT) (o : gO) (w : Int32) (hw : w < 0 ∨ ¬ w < σ 3) : CtL l yL_standInsOf wsL_standInsOf 8 256 1 6 [.ref (Γ.2.1 100), .int w, .ref (Γ.2.1 102)] Γ σ τ o (pE (some (.int 1)) σ τ o) := by
  refine ctL_of hl (by decide +kernel) rfl (Nat.le_of_ble_eq_true rfl) ?_
  intro E C F T hNc hΓ hL R
  subst hΓ
  subst hL
  show G E 0 0 0 [(0, .ref ((eG E).2.1 100)), (1, .int w), (2, .ref ((eG E).2.1 102))] [] σ τ o
  refine g_aload_n C dL_standInsOf_0 rfl rfl ?_
  refine g_iconst (v := 0) C dL_standInsOf_1 (by decide) ?_
  refine g_aload_n C dL_standInsOf_2 rfl rfl ?_
  refine g_iload_n C dL_standInsOf_3 rfl rfl ?_
  refine g_callV (Cl := RX0) (T := TX0) (N := 18) (ci := 0) (q0 := 0) (na := 1) C dL_standInsOf_4 (c_standInsOfX hl (eG E) σ τ o w hw) gL_standInsOf_X0_standInsOf rfl rfl (by decide +kernel) rfl rfl rfl (Nat.le_of_ble_eq_true rfl) (by rw [R]; exact ⟨by decide, by decide⟩) (by rw [R]; exact ⟨by decide, by decide⟩) (fun X σ' τ' o' h => ?_) (fun v σ' τ' o' h => h.elim)
  obtain ⟨rfl, rfl, rfl, rfl⟩ := h
  refine gx_catch C T hNc [] (0, 9, 12, 21) [] rfl (fun z hz => absurd hz List.not_mem_nil) (by decide) (by decide) mwL_standInsOf_h21 (by decide +kernel) (fun q => ?_)
  refine g_astore_n C [(3, _), (0, _), (1, _), (2, _)] dL_standInsOf_12 rfl (by decide) rfl ?_
  refine g_iconst (v := 1) C dL_standInsOf_13 (by decide) ?_
  exact g_iret C F dL_standInsOf_14 (by decide) (by decide) ⟨rfl, rfl, rfl, rfl⟩
set_option maxHeartbeats 4000000 in
set_option maxRecDepth 100000 in
theorem h_mayStandFor {l : Launch} (hl : l.stackTraces = false) (Γ : gG) (σ : gS) (τ : gT) (o : gO) (nw nl lm : Nat) (a b : Nat) (I : IX σ τ nw nl lm) (ha : a < nw) (hb9 : b < nw) : CtL l yL_mayStandFor wsL_mayStandFor 3 96 0 0 [.ref (Γ.2.1 100), .int (nI a), .int (nI b), .ref (Γ.2.1 102)] Γ σ τ o (pE (some (.int 0)) σ τ (vp_updL o 0 (lb (hb (τ 1 a) (nI b))))) := by
  refine ctL_of hl (by decide +kernel) rfl (Nat.le_of_ble_eq_true rfl) ?_
  intro E C F T hNc hΓ hL R
  subst hΓ
  subst hL
  show G E 0 0 0 [(0, .ref ((eG E).2.1 100)), (1, .int (nI a)), (2, .int (nI b)), (3, .ref ((eG E).2.1 102))] [] σ τ o
  refine g_aload_n C dL_mayStandFor_0 rfl rfl ?_
  refine g_iconst (v := 0) C dL_mayStandFor_1 (by decide) ?_
  refine g_aload_n C dL_mayStandFor_2 rfl rfl ?_
  refine g_iload_n C dL_mayStandFor_3 rfl rfl ?_
  refine g_iload_n C dL_mayStandFor_4 rfl rfl ?_
  refine g_callVEi (Cl := RX0) (T := TX0) (N := 18) (ci := 0) (q0 := 0) (na := 2) C dL_mayStandFor_5 (c_mayStandFor hl (eG E) σ τ o nw nl lm a b I ha hb9) gL_mayStandFor_X0_mayStandFor rfl rfl (by decide +kernel) rfl rfl rfl (Nat.le_of_ble_eq_true rfl) (by rw [R]; exact ⟨by decide, by decide⟩) (by rw [R]; exact ⟨by decide, by decide⟩) ?_
  refine g_if_eq (tgt := 15) C dL_mayStandFor_8 (by decide) (fun c_8 => ?_) (fun c_8 => ?_)
  · have e : lb (hb (τ 1 a) (nI b)) = 0 := if_pos c_8
    refine g_lconst (v := 0) C dL_mayStandFor_15 (by decide) ?_
    refine g_last C dL_mayStandFor_16 ?_
    refine g_goto (tgt := 24) C dL_mayStandFor_17 (by decide) ?_
    refine g_iconst (v := 0) C dL_mayStandFor_24 (by decide) ?_
    exact g_iret C F dL_mayStandFor_25 (by decide) (by decide) ⟨rfl, rfl, rfl, by rw [e]⟩
  · have e : lb (hb (τ 1 a) (nI b)) = 1 := if_neg c_8
    refine g_lconst (v := 1) C dL_mayStandFor_11 (by decide) ?_
    refine g_goto (tgt := 16) C dL_mayStandFor_12 (by decide) ?_
    refine g_last C dL_mayStandFor_16 ?_
    refine g_goto (tgt := 24) C dL_mayStandFor_17 (by decide) ?_
    refine g_iconst (v := 0) C dL_mayStandFor_24 (by decide) ?_
    exact g_iret C F dL_mayStandFor_25 (by decide) (by decide) ⟨rfl, rfl, rfl, by rw [e]⟩
set_option maxRecDepth 100000 in
theorem mwL_mayStandFor_h21 : Cond.classLink RL 21 "java/lang/IndexOutOfBoundsException" ∈ wsL_mayStandFor := by decide +kernel
set_option maxHeartbeats 4000000 in
set_option maxRecDepth 100000 in
theorem h_mayStandForX {l : Launch} (hl : l.stackTraces = false) (Γ : gG) (σ : gS) (τ : gT) (o : gO) (w v : Int32) (hw : w < 0 ∨ ¬ w < σ 3) : CtL l yL_mayStandFor wsL_mayStandFor 8 256 1 6 [.ref (Γ.2.1 100), .int w, .int v, .ref (Γ.2.1 102)] Γ σ τ o (pE (some (.int 1)) σ τ o) := by
  refine ctL_of hl (by decide +kernel) rfl (Nat.le_of_ble_eq_true rfl) ?_
  intro E C F T hNc hΓ hL R
  subst hΓ
  subst hL
  show G E 0 0 0 [(0, .ref ((eG E).2.1 100)), (1, .int w), (2, .int v), (3, .ref ((eG E).2.1 102))] [] σ τ o
  refine g_aload_n C dL_mayStandFor_0 rfl rfl ?_
  refine g_iconst (v := 0) C dL_mayStandFor_1 (by decide) ?_
  refine g_aload_n C dL_mayStandFor_2 rfl rfl ?_
  refine g_iload_n C dL_mayStandFor_3 rfl rfl ?_
  refine g_iload_n C dL_mayStandFor_4 rfl rfl ?_
  refine g_callV (Cl := RX0) (T := TX0) (N := 18) (ci := 0) (q0 := 0) (na := 2) C dL_mayStandFor_5 (c_mayStandForX hl (eG E) σ τ o w v hw) gL_mayStandFor_X0_mayStandFor rfl rfl (by decide +kernel) rfl rfl rfl (Nat.le_of_ble_eq_true rfl) (by rw [R]; exact ⟨by decide, by decide⟩) (by rw [R]; exact ⟨by decide, by decide⟩) (fun X σ' τ' o' h => ?_) (fun v σ' τ' o' h => h.elim)
  obtain ⟨rfl, rfl, rfl, rfl⟩ := h
  refine gx_catch C T hNc [] (0, 17, 20, 21) [] rfl (fun z hz => absurd hz List.not_mem_nil) (by decide) (by decide) mwL_mayStandFor_h21 (by decide +kernel) (fun q => ?_)
  refine g_astore C [(4, _), (0, _), (1, _), (2, _), (3, _)] dL_mayStandFor_20 (by decide) rfl ?_
  refine g_iconst (v := 1) C dL_mayStandFor_22 (by decide) ?_
  exact g_iret C F dL_mayStandFor_23 (by decide) (by decide) ⟨rfl, rfl, rfl, rfl⟩
set_option maxHeartbeats 4000000 in
set_option maxRecDepth 100000 in
theorem h_mayStandForY {l : Launch} (hl : l.stackTraces = false) (Γ : gG) (σ : gS) (τ : gT) (o : gO) (nw nl lm : Nat) (a : Nat) (v : Int32) (I : IX σ τ nw nl lm) (ha : a < nw) (hv : v < 0 ∨ ¬ v < σ 3) : CtL l yL_mayStandFor wsL_mayStandFor 8 256 1 6 [.ref (Γ.2.1 100), .int (nI a), .int v, .ref (Γ.2.1 102)] Γ σ τ o (pE (some (.int 1)) σ τ o) := by
  refine ctL_of hl (by decide +kernel) rfl (Nat.le_of_ble_eq_true rfl) ?_
  intro E C F T hNc hΓ hL R
  subst hΓ
  subst hL
  show G E 0 0 0 [(0, .ref ((eG E).2.1 100)), (1, .int (nI a)), (2, .int v), (3, .ref ((eG E).2.1 102))] [] σ τ o
  refine g_aload_n C dL_mayStandFor_0 rfl rfl ?_
  refine g_iconst (v := 0) C dL_mayStandFor_1 (by decide) ?_
  refine g_aload_n C dL_mayStandFor_2 rfl rfl ?_
  refine g_iload_n C dL_mayStandFor_3 rfl rfl ?_
  refine g_iload_n C dL_mayStandFor_4 rfl rfl ?_
  refine g_callV (Cl := RX0) (T := TX0) (N := 18) (ci := 0) (q0 := 0) (na := 2) C dL_mayStandFor_5 (c_mayStandForY hl (eG E) σ τ o nw nl lm a v I ha hv) gL_mayStandFor_X0_mayStandFor rfl rfl (by decide +kernel) rfl rfl rfl (Nat.le_of_ble_eq_true rfl) (by rw [R]; exact ⟨by decide, by decide⟩) (by rw [R]; exact ⟨by decide, by decide⟩) (fun X σ' τ' o' h => ?_) (fun v σ' τ' o' h => h.elim)
  obtain ⟨rfl, rfl, rfl, rfl⟩ := h
  refine gx_catch C T hNc [] (0, 17, 20, 21) [] rfl (fun z hz => absurd hz List.not_mem_nil) (by decide) (by decide) mwL_mayStandFor_h21 (by decide +kernel) (fun q => ?_)
  refine g_astore C [(4, _), (0, _), (1, _), (2, _), (3, _)] dL_mayStandFor_20 (by decide) rfl ?_
  refine g_iconst (v := 1) C dL_mayStandFor_22 (by decide) ?_
  exact g_iret C F dL_mayStandFor_23 (by decide) (by decide) ⟨rfl, rfl, rfl, rfl⟩
set_option maxHeartbeats 4000000 in
set_option maxRecDepth 100000 in
theorem h_mayJoin {l : Launch} (hl : l.stackTraces = false) (Γ : gG) (σ : gS) (τ : gT) (o : gO) (nw nl lm : Nat) (a b : Nat) (I : IX σ τ nw nl lm) (ha : a < nw) (hb9 : b < nw) : CtL l yL_mayJoin wsL_mayJoin 3 96 0 0 [.ref (Γ.2.1 100), .int (nI a), .int (nI b), .ref (Γ.2.1 102)] Γ σ τ o (pE (some (.int 0)) σ τ (vp_updL o 0 (lb (hb (τ 2 a) (nI b))))) := by
  refine ctL_of hl (by decide +kernel) rfl (Nat.le_of_ble_eq_true rfl) ?_
  intro E C F T hNc hΓ hL R
  subst hΓ
  subst hL
  show G E 0 0 0 [(0, .ref ((eG E).2.1 100)), (1, .int (nI a)), (2, .int (nI b)), (3, .ref ((eG E).2.1 102))] [] σ τ o
  refine g_aload_n C dL_mayJoin_0 rfl rfl ?_
  refine g_iconst (v := 0) C dL_mayJoin_1 (by decide) ?_
  refine g_aload_n C dL_mayJoin_2 rfl rfl ?_
  refine g_iload_n C dL_mayJoin_3 rfl rfl ?_
  refine g_iload_n C dL_mayJoin_4 rfl rfl ?_
  refine g_callVEi (Cl := RX0) (T := TX0) (N := 18) (ci := 0) (q0 := 0) (na := 2) C dL_mayJoin_5 (c_mayJoin hl (eG E) σ τ o nw nl lm a b I ha hb9) gL_mayJoin_X0_mayJoin rfl rfl (by decide +kernel) rfl rfl rfl (Nat.le_of_ble_eq_true rfl) (by rw [R]; exact ⟨by decide, by decide⟩) (by rw [R]; exact ⟨by decide, by decide⟩) ?_
  refine g_if_eq (tgt := 15) C dL_mayJoin_8 (by decide) (fun c_8 => ?_) (fun c_8 => ?_)
  · have e : lb (hb (τ 2 a) (nI b)) = 0 := if_pos c_8
    refine g_lconst (v := 0) C dL_mayJoin_15 (by decide) ?_
    refine g_last C dL_mayJoin_16 ?_
    refine g_goto (tgt := 24) C dL_mayJoin_17 (by decide) ?_
    refine g_iconst (v := 0) C dL_mayJoin_24 (by decide) ?_
    exact g_iret C F dL_mayJoin_25 (by decide) (by decide) ⟨rfl, rfl, rfl, by rw [e]⟩
  · have e : lb (hb (τ 2 a) (nI b)) = 1 := if_neg c_8
    refine g_lconst (v := 1) C dL_mayJoin_11 (by decide) ?_
    refine g_goto (tgt := 16) C dL_mayJoin_12 (by decide) ?_
    refine g_last C dL_mayJoin_16 ?_
    refine g_goto (tgt := 24) C dL_mayJoin_17 (by decide) ?_
    refine g_iconst (v := 0) C dL_mayJoin_24 (by decide) ?_
    exact g_iret C F dL_mayJoin_25 (by decide) (by decide) ⟨rfl, rfl, rfl, by rw [e]⟩
set_option maxRecDepth 100000 in
theorem mwL_mayJoin_h21 : Cond.classLink RL 21 "java/lang/IndexOutOfBoundsException" ∈ wsL_mayJoin := by decide +kernel
set_option maxHeartbeats 4000000 in
set_option maxRecDepth 100000 in
theorem h_mayJoinX {l : Launch} (hl : l.stackTraces = false) (Γ : gG) (σ : gS) (τ : gT) (o : gO) (w v : Int32) (hw : w < 0 ∨ ¬ w < σ 3) : CtL l yL_mayJoin wsL_mayJoin 8 256 1 6 [.ref (Γ.2.1 100), .int w, .int v, .ref (Γ.2.1 102)] Γ σ τ o (pE (some (.int 1)) σ τ o) := by
  refine ctL_of hl (by decide +kernel) rfl (Nat.le_of_ble_eq_true rfl) ?_
  intro E C F T hNc hΓ hL R
  subst hΓ
  subst hL
  show G E 0 0 0 [(0, .ref ((eG E).2.1 100)), (1, .int w), (2, .int v), (3, .ref ((eG E).2.1 102))] [] σ τ o
  refine g_aload_n C dL_mayJoin_0 rfl rfl ?_
  refine g_iconst (v := 0) C dL_mayJoin_1 (by decide) ?_
  refine g_aload_n C dL_mayJoin_2 rfl rfl ?_
  refine g_iload_n C dL_mayJoin_3 rfl rfl ?_
  refine g_iload_n C dL_mayJoin_4 rfl rfl ?_
  refine g_callV (Cl := RX0) (T := TX0) (N := 18) (ci := 0) (q0 := 0) (na := 2) C dL_mayJoin_5 (c_mayJoinX hl (eG E) σ τ o w v hw) gL_mayJoin_X0_mayJoin rfl rfl (by decide +kernel) rfl rfl rfl (Nat.le_of_ble_eq_true rfl) (by rw [R]; exact ⟨by decide, by decide⟩) (by rw [R]; exact ⟨by decide, by decide⟩) (fun X σ' τ' o' h => ?_) (fun v σ' τ' o' h => h.elim)
  obtain ⟨rfl, rfl, rfl, rfl⟩ := h
  refine gx_catch C T hNc [] (0, 17, 20, 21) [] rfl (fun z hz => absurd hz List.not_mem_nil) (by decide) (by decide) mwL_mayJoin_h21 (by decide +kernel) (fun q => ?_)
  refine g_astore C [(4, _), (0, _), (1, _), (2, _), (3, _)] dL_mayJoin_20 (by decide) rfl ?_
  refine g_iconst (v := 1) C dL_mayJoin_22 (by decide) ?_
  exact g_iret C F dL_mayJoin_23 (by decide) (by decide) ⟨rfl, rfl, rfl, rfl⟩
set_option maxHeartbeats 4000000 in
set_option maxRecDepth 100000 in
theorem h_mayJoinY {l : Launch} (hl : l.stackTraces = false) (Γ : gG) (σ : gS) (τ : gT) (o : gO) (nw nl lm : Nat) (a : Nat) (v : Int32) (I : IX σ τ nw nl lm) (ha : a < nw) (hv : v < 0 ∨ ¬ v < σ 3) : CtL l yL_mayJoin wsL_mayJoin 8 256 1 6 [.ref (Γ.2.1 100), .int (nI a), .int v, .ref (Γ.2.1 102)] Γ σ τ o (pE (some (.int 1)) σ τ o) := by
  refine ctL_of hl (by decide +kernel) rfl (Nat.le_of_ble_eq_true rfl) ?_
  intro E C F T hNc hΓ hL R
  subst hΓ
  subst hL
  show G E 0 0 0 [(0, .ref ((eG E).2.1 100)), (1, .int (nI a)), (2, .int v), (3, .ref ((eG E).2.1 102))] [] σ τ o
  refine g_aload_n C dL_mayJoin_0 rfl rfl ?_
  refine g_iconst (v := 0) C dL_mayJoin_1 (by decide) ?_
  refine g_aload_n C dL_mayJoin_2 rfl rfl ?_
  refine g_iload_n C dL_mayJoin_3 rfl rfl ?_
  refine g_iload_n C dL_mayJoin_4 rfl rfl ?_
  refine g_callV (Cl := RX0) (T := TX0) (N := 18) (ci := 0) (q0 := 0) (na := 2) C dL_mayJoin_5 (c_mayJoinY hl (eG E) σ τ o nw nl lm a v I ha hv) gL_mayJoin_X0_mayJoin rfl rfl (by decide +kernel) rfl rfl rfl (Nat.le_of_ble_eq_true rfl) (by rw [R]; exact ⟨by decide, by decide⟩) (by rw [R]; exact ⟨by decide, by decide⟩) (fun X σ' τ' o' h => ?_) (fun v σ' τ' o' h => h.elim)
  obtain ⟨rfl, rfl, rfl, rfl⟩ := h
  refine gx_catch C T hNc [] (0, 17, 20, 21) [] rfl (fun z hz => absurd hz List.not_mem_nil) (by decide) (by decide) mwL_mayJoin_h21 (by decide +kernel) (fun q => ?_)
  refine g_astore C [(4, _), (0, _), (1, _), (2, _), (3, _)] dL_mayJoin_20 (by decide) rfl ?_
  refine g_iconst (v := 1) C dL_mayJoin_22 (by decide) ?_
  exact g_iret C F dL_mayJoin_23 (by decide) (by decide) ⟨rfl, rfl, rfl, rfl⟩
set_option maxHeartbeats 4000000 in
set_option maxRecDepth 100000 in
theorem h_wordAt {l : Launch} (hl : l.stackTraces = false) (Γ : gG) (σ : gS) (τ : gT) (o : gO) (nw nl lm : Nat) (p : Nat) (I : IX σ τ nw nl lm) (hp : p < nl) : CtL l yL_wordAt wsL_wordAt 3 96 0 0 [.ref (Γ.2.1 100), .int (nI p), .ref (Γ.2.1 102)] Γ σ τ o (pE (some (.int 0)) σ τ (vp_updL o 0 ((τ 7 p).toInt64))) := by
  refine ctL_of hl (by decide +kernel) rfl (Nat.le_of_ble_eq_true rfl) ?_
  intro E C F T hNc hΓ hL R
  subst hΓ
  subst hL
  show G E 0 0 0 [(0, .ref ((eG E).2.1 100)), (1, .int (nI p)), (2, .ref ((eG E).2.1 102))] [] σ τ o
  refine g_aload_n C dL_wordAt_0 rfl rfl ?_
  refine g_iconst (v := 0) C dL_wordAt_1 (by decide) ?_
  refine g_aload_n C dL_wordAt_2 rfl rfl ?_
  refine g_iload_n C dL_wordAt_3 rfl rfl ?_
  refine g_callVEi (Cl := RX0) (T := TX0) (N := 18) (ci := 0) (q0 := 0) (na := 1) C dL_wordAt_4 (c_wordAt hl (eG E) σ τ o nw nl lm p I hp) gL_wordAt_X0_wordAt rfl rfl (by decide +kernel) rfl rfl rfl (Nat.le_of_ble_eq_true rfl) (by rw [R]; exact ⟨by decide, by decide⟩) (by rw [R]; exact ⟨by decide, by decide⟩) ?_
  refine g_i2l C dL_wordAt_7 ?_
  refine g_last C dL_wordAt_8 ?_
  refine g_goto (tgt := 15) C dL_wordAt_9 (by decide) ?_
  refine g_iconst (v := 0) C dL_wordAt_15 (by decide) ?_
  exact g_iret C F dL_wordAt_16 (by decide) (by decide) ⟨rfl, rfl, rfl, rfl⟩
set_option maxRecDepth 100000 in
theorem mwL_wordAt_h21 : Cond.classLink RL 21 "java/lang/IndexOutOfBoundsException" ∈ wsL_wordAt := by decide +kernel
set_option maxHeartbeats 4000000 in
set_option maxRecDepth 100000 in
theorem h_wordAtX {l : Launch} (hl : l.stackTraces = false) (Γ : gG) (σ : gS) (τ : gT) (o : gO) (w : Int32) (hw : w < 0 ∨ ¬ w < σ 9) : CtL l yL_wordAt wsL_wordAt 8 256 1 6 [.ref (Γ.2.1 100), .int w, .ref (Γ.2.1 102)] Γ σ τ o (pE (some (.int 1)) σ τ o) := by
  refine ctL_of hl (by decide +kernel) rfl (Nat.le_of_ble_eq_true rfl) ?_
  intro E C F T hNc hΓ hL R
  subst hΓ
  subst hL
  show G E 0 0 0 [(0, .ref ((eG E).2.1 100)), (1, .int w), (2, .ref ((eG E).2.1 102))] [] σ τ o
  refine g_aload_n C dL_wordAt_0 rfl rfl ?_
  refine g_iconst (v := 0) C dL_wordAt_1 (by decide) ?_
  refine g_aload_n C dL_wordAt_2 rfl rfl ?_
  refine g_iload_n C dL_wordAt_3 rfl rfl ?_
  refine g_callV (Cl := RX0) (T := TX0) (N := 18) (ci := 0) (q0 := 0) (na := 1) C dL_wordAt_4 (c_wordAtX hl (eG E) σ τ o w hw) gL_wordAt_X0_wordAt rfl rfl (by decide +kernel) rfl rfl rfl (Nat.le_of_ble_eq_true rfl) (by rw [R]; exact ⟨by decide, by decide⟩) (by rw [R]; exact ⟨by decide, by decide⟩) (fun X σ' τ' o' h => ?_) (fun v σ' τ' o' h => h.elim)
  obtain ⟨rfl, rfl, rfl, rfl⟩ := h
  refine gx_catch C T hNc [] (0, 9, 12, 21) [] rfl (fun z hz => absurd hz List.not_mem_nil) (by decide) (by decide) mwL_wordAt_h21 (by decide +kernel) (fun q => ?_)
  refine g_astore_n C [(3, _), (0, _), (1, _), (2, _)] dL_wordAt_12 rfl (by decide) rfl ?_
  refine g_iconst (v := 1) C dL_wordAt_13 (by decide) ?_
  exact g_iret C F dL_wordAt_14 (by decide) (by decide) ⟨rfl, rfl, rfl, rfl⟩
set_option maxHeartbeats 4000000 in
set_option maxRecDepth 100000 in
theorem h_isJoined {l : Launch} (hl : l.stackTraces = false) (Γ : gG) (σ : gS) (τ : gT) (o : gO) (nw nl lm : Nat) (p : Nat) (I : IX σ τ nw nl lm) (hp : p < nl) : CtL l yL_isJoined wsL_isJoined 3 96 0 0 [.ref (Γ.2.1 100), .int (nI p), .ref (Γ.2.1 102)] Γ σ τ o (pE (some (.int 0)) σ τ (vp_updL o 0 (lb (τ 8 p)))) := by
  refine ctL_of hl (by decide +kernel) rfl (Nat.le_of_ble_eq_true rfl) ?_
  intro E C F T hNc hΓ hL R
  subst hΓ
  subst hL
  show G E 0 0 0 [(0, .ref ((eG E).2.1 100)), (1, .int (nI p)), (2, .ref ((eG E).2.1 102))] [] σ τ o
  refine g_aload_n C dL_isJoined_0 rfl rfl ?_
  refine g_iconst (v := 0) C dL_isJoined_1 (by decide) ?_
  refine g_aload_n C dL_isJoined_2 rfl rfl ?_
  refine g_iload_n C dL_isJoined_3 rfl rfl ?_
  refine g_callVEi (Cl := RX0) (T := TX0) (N := 18) (ci := 0) (q0 := 0) (na := 1) C dL_isJoined_4 (c_isJoined hl (eG E) σ τ o nw nl lm p I hp) gL_isJoined_X0_isJoined rfl rfl (by decide +kernel) rfl rfl rfl (Nat.le_of_ble_eq_true rfl) (by rw [R]; exact ⟨by decide, by decide⟩) (by rw [R]; exact ⟨by decide, by decide⟩) ?_
  refine g_if_eq (tgt := 14) C dL_isJoined_7 (by decide) (fun c_7 => ?_) (fun c_7 => ?_)
  · have e : lb (τ 8 p) = 0 := if_pos c_7
    refine g_lconst (v := 0) C dL_isJoined_14 (by decide) ?_
    refine g_last C dL_isJoined_15 ?_
    refine g_goto (tgt := 22) C dL_isJoined_16 (by decide) ?_
    refine g_iconst (v := 0) C dL_isJoined_22 (by decide) ?_
    exact g_iret C F dL_isJoined_23 (by decide) (by decide) ⟨rfl, rfl, rfl, by rw [e]⟩
  · have e : lb (τ 8 p) = 1 := if_neg c_7
    refine g_lconst (v := 1) C dL_isJoined_10 (by decide) ?_
    refine g_goto (tgt := 15) C dL_isJoined_11 (by decide) ?_
    refine g_last C dL_isJoined_15 ?_
    refine g_goto (tgt := 22) C dL_isJoined_16 (by decide) ?_
    refine g_iconst (v := 0) C dL_isJoined_22 (by decide) ?_
    exact g_iret C F dL_isJoined_23 (by decide) (by decide) ⟨rfl, rfl, rfl, by rw [e]⟩
set_option maxRecDepth 100000 in
theorem mwL_isJoined_h21 : Cond.classLink RL 21 "java/lang/IndexOutOfBoundsException" ∈ wsL_isJoined := by decide +kernel
set_option maxHeartbeats 4000000 in
set_option maxRecDepth 100000 in
theorem h_isJoinedX {l : Launch} (hl : l.stackTraces = false) (Γ : gG) (σ : gS) (τ : gT) (o : gO) (w : Int32) (hw : w < 0 ∨ ¬ w < σ 9) : CtL l yL_isJoined wsL_isJoined 8 256 1 6 [.ref (Γ.2.1 100), .int w, .ref (Γ.2.1 102)] Γ σ τ o (pE (some (.int 1)) σ τ o) := by
  refine ctL_of hl (by decide +kernel) rfl (Nat.le_of_ble_eq_true rfl) ?_
  intro E C F T hNc hΓ hL R
  subst hΓ
  subst hL
  show G E 0 0 0 [(0, .ref ((eG E).2.1 100)), (1, .int w), (2, .ref ((eG E).2.1 102))] [] σ τ o
  refine g_aload_n C dL_isJoined_0 rfl rfl ?_
  refine g_iconst (v := 0) C dL_isJoined_1 (by decide) ?_
  refine g_aload_n C dL_isJoined_2 rfl rfl ?_
  refine g_iload_n C dL_isJoined_3 rfl rfl ?_
  refine g_callV (Cl := RX0) (T := TX0) (N := 18) (ci := 0) (q0 := 0) (na := 1) C dL_isJoined_4 (c_isJoinedX hl (eG E) σ τ o w hw) gL_isJoined_X0_isJoined rfl rfl (by decide +kernel) rfl rfl rfl (Nat.le_of_ble_eq_true rfl) (by rw [R]; exact ⟨by decide, by decide⟩) (by rw [R]; exact ⟨by decide, by decide⟩) (fun X σ' τ' o' h => ?_) (fun v σ' τ' o' h => h.elim)
  obtain ⟨rfl, rfl, rfl, rfl⟩ := h
  refine gx_catch C T hNc [] (0, 16, 19, 21) [] rfl (fun z hz => absurd hz List.not_mem_nil) (by decide) (by decide) mwL_isJoined_h21 (by decide +kernel) (fun q => ?_)
  refine g_astore_n C [(3, _), (0, _), (1, _), (2, _)] dL_isJoined_19 rfl (by decide) rfl ?_
  refine g_iconst (v := 1) C dL_isJoined_20 (by decide) ?_
  exact g_iret C F dL_isJoined_21 (by decide) (by decide) ⟨rfl, rfl, rfl, rfl⟩
set_option maxHeartbeats 4000000 in
set_option maxRecDepth 100000 in
theorem h_cheapestWordAt {l : Launch} (hl : l.stackTraces = false) (Γ : gG) (σ : gS) (τ : gT) (o : gO) (nw nl lm : Nat) (p : Nat) (I : IX σ τ nw nl lm) (hp : p < nl) : CtL l yL_cheapestWordAt wsL_cheapestWordAt 7 224 0 0 [.ref (Γ.2.1 100), .int (nI p), .ref (Γ.2.1 102)] Γ σ τ o (pI (fun r σ' τ' o' => r = 0 ∧ σ' = σ ∧ o' = vp_updL o 0 ((cwd (prx σ τ nw nl) (Sx σ τ nw nl) (Ax σ τ nw nl) (Bx σ τ nw nl) p).toInt64) ∧ CH σ τ nw nl nl τ')) := by
  refine ctL_of hl (by decide +kernel) rfl (Nat.le_of_ble_eq_true rfl) ?_
  intro E C F T hNc hΓ hL R
  subst hΓ
  subst hL
  show G E 0 0 0 [(0, .ref ((eG E).2.1 100)), (1, .int (nI p)), (2, .ref ((eG E).2.1 102))] [] σ τ o
  refine g_aload_n C dL_cheapestWordAt_0 rfl rfl ?_
  refine g_iconst (v := 0) C dL_cheapestWordAt_1 (by decide) ?_
  refine g_aload_n C dL_cheapestWordAt_2 rfl rfl ?_
  refine g_iload_n C dL_cheapestWordAt_3 rfl rfl ?_
  refine g_callVi (Cl := RX0) (T := TX0) (N := 18) (ci := 0) (q0 := 0) (na := 1) C dL_cheapestWordAt_4 (c_cheapestWordAt hl (eG E) σ τ o nw nl lm p I hp) gL_cheapestWordAt_X0_cheapestWordAt rfl rfl (by decide +kernel) rfl rfl rfl (Nat.le_of_ble_eq_true rfl) (by rw [R]; exact ⟨by decide, by decide⟩) (by rw [R]; exact ⟨by decide, by decide⟩) noX_kx (fun r1 σ1 τ1 o1 h1 => ?_)
  obtain ⟨e0, e1, e2, h1⟩ := h1
  rw [e0, e1, e2]
  refine g_i2l C dL_cheapestWordAt_7 ?_
  refine g_last C dL_cheapestWordAt_8 ?_
  refine g_goto (tgt := 15) C dL_cheapestWordAt_9 (by decide) ?_
  refine g_iconst (v := 0) C dL_cheapestWordAt_15 (by decide) ?_
  exact g_iret C F dL_cheapestWordAt_16 (by decide) (by decide) ⟨_, rfl, rfl, rfl, rfl, h1⟩
set_option maxRecDepth 100000 in
theorem mwL_cheapestWordAt_h21 : Cond.classLink RL 21 "java/lang/IndexOutOfBoundsException" ∈ wsL_cheapestWordAt := by decide +kernel
set_option maxHeartbeats 4000000 in
set_option maxRecDepth 100000 in
theorem h_cheapestWordAtX {l : Launch} (hl : l.stackTraces = false) (Γ : gG) (σ : gS) (τ : gT) (o : gO) (w : Int32) (hw : w < 0 ∨ ¬ w < σ 9) : CtL l yL_cheapestWordAt wsL_cheapestWordAt 8 256 1 6 [.ref (Γ.2.1 100), .int w, .ref (Γ.2.1 102)] Γ σ τ o (pE (some (.int 1)) σ τ o) := by
  refine ctL_of hl (by decide +kernel) rfl (Nat.le_of_ble_eq_true rfl) ?_
  intro E C F T hNc hΓ hL R
  subst hΓ
  subst hL
  show G E 0 0 0 [(0, .ref ((eG E).2.1 100)), (1, .int w), (2, .ref ((eG E).2.1 102))] [] σ τ o
  refine g_aload_n C dL_cheapestWordAt_0 rfl rfl ?_
  refine g_iconst (v := 0) C dL_cheapestWordAt_1 (by decide) ?_
  refine g_aload_n C dL_cheapestWordAt_2 rfl rfl ?_
  refine g_iload_n C dL_cheapestWordAt_3 rfl rfl ?_
  refine g_callV (Cl := RX0) (T := TX0) (N := 18) (ci := 0) (q0 := 0) (na := 1) C dL_cheapestWordAt_4 (c_cheapestWordAtX hl (eG E) σ τ o w hw) gL_cheapestWordAt_X0_cheapestWordAt rfl rfl (by decide +kernel) rfl rfl rfl (Nat.le_of_ble_eq_true rfl) (by rw [R]; exact ⟨by decide, by decide⟩) (by rw [R]; exact ⟨by decide, by decide⟩) (fun X σ' τ' o' h => ?_) (fun v σ' τ' o' h => h.elim)
  obtain ⟨rfl, rfl, rfl, rfl⟩ := h
  refine gx_catch C T hNc [] (0, 9, 12, 21) [] rfl (fun z hz => absurd hz List.not_mem_nil) (by decide) (by decide) mwL_cheapestWordAt_h21 (by decide +kernel) (fun q => ?_)
  refine g_astore_n C [(3, _), (0, _), (1, _), (2, _)] dL_cheapestWordAt_12 rfl (by decide) rfl ?_
  refine g_iconst (v := 1) C dL_cheapestWordAt_13 (by decide) ?_
  exact g_iret C F dL_cheapestWordAt_14 (by decide) (by decide) ⟨rfl, rfl, rfl, rfl⟩
set_option maxHeartbeats 4000000 in
set_option maxRecDepth 100000 in
theorem h_isJoinedInCheapest {l : Launch} (hl : l.stackTraces = false) (Γ : gG) (σ : gS) (τ : gT) (o : gO) (nw nl lm : Nat) (p : Nat) (I : IX σ τ nw nl lm) (hp : p < nl) : CtL l yL_isJoinedInCheapest wsL_isJoinedInCheapest 7 224 0 0 [.ref (Γ.2.1 100), .int (nI p), .ref (Γ.2.1 102)] Γ σ τ o (pI (fun r σ' τ' o' => r = 0 ∧ σ' = σ ∧ o' = vp_updL o 0 (lb (cjd (prx σ τ nw nl) p)) ∧ CH σ τ nw nl nl τ')) := by
  refine ctL_of hl (by decide +kernel) rfl (Nat.le_of_ble_eq_true rfl) ?_
  intro E C F T hNc hΓ hL R
  subst hΓ
  subst hL
  show G E 0 0 0 [(0, .ref ((eG E).2.1 100)), (1, .int (nI p)), (2, .ref ((eG E).2.1 102))] [] σ τ o
  refine g_aload_n C dL_isJoinedInCheapest_0 rfl rfl ?_
  refine g_iconst (v := 0) C dL_isJoinedInCheapest_1 (by decide) ?_
  refine g_aload_n C dL_isJoinedInCheapest_2 rfl rfl ?_
  refine g_iload_n C dL_isJoinedInCheapest_3 rfl rfl ?_
  refine g_callVi (Cl := RX0) (T := TX0) (N := 18) (ci := 0) (q0 := 0) (na := 1) C dL_isJoinedInCheapest_4 (c_isJoinedInCheapest hl (eG E) σ τ o nw nl lm p I hp) gL_isJoinedInCheapest_X0_isJoinedInCheapest rfl rfl (by decide +kernel) rfl rfl rfl (Nat.le_of_ble_eq_true rfl) (by rw [R]; exact ⟨by decide, by decide⟩) (by rw [R]; exact ⟨by decide, by decide⟩) noX_kx (fun r1 σ1 τ1 o1 h1 => ?_)
  obtain ⟨e0, e1, e2, h1⟩ := h1
  rw [e0, e1, e2]
  refine g_if_eq (tgt := 14) C dL_isJoinedInCheapest_7 (by decide) (fun c_7 => ?_) (fun c_7 => ?_)
  · have e : lb (cjd (prx σ τ nw nl) p) = 0 := if_pos c_7
    refine g_lconst (v := 0) C dL_isJoinedInCheapest_14 (by decide) ?_
    refine g_last C dL_isJoinedInCheapest_15 ?_
    refine g_goto (tgt := 22) C dL_isJoinedInCheapest_16 (by decide) ?_
    refine g_iconst (v := 0) C dL_isJoinedInCheapest_22 (by decide) ?_
    exact g_iret C F dL_isJoinedInCheapest_23 (by decide) (by decide) ⟨_, rfl, rfl, rfl, by rw [e], h1⟩
  · have e : lb (cjd (prx σ τ nw nl) p) = 1 := if_neg c_7
    refine g_lconst (v := 1) C dL_isJoinedInCheapest_10 (by decide) ?_
    refine g_goto (tgt := 15) C dL_isJoinedInCheapest_11 (by decide) ?_
    refine g_last C dL_isJoinedInCheapest_15 ?_
    refine g_goto (tgt := 22) C dL_isJoinedInCheapest_16 (by decide) ?_
    refine g_iconst (v := 0) C dL_isJoinedInCheapest_22 (by decide) ?_
    exact g_iret C F dL_isJoinedInCheapest_23 (by decide) (by decide) ⟨_, rfl, rfl, rfl, by rw [e], h1⟩
set_option maxRecDepth 100000 in
theorem mwL_isJoinedInCheapest_h21 : Cond.classLink RL 21 "java/lang/IndexOutOfBoundsException" ∈ wsL_isJoinedInCheapest := by decide +kernel
set_option maxHeartbeats 4000000 in
set_option maxRecDepth 100000 in
theorem h_isJoinedInCheapestX {l : Launch} (hl : l.stackTraces = false) (Γ : gG) (σ : gS) (τ : gT) (o : gO) (w : Int32) (hw : w < 0 ∨ ¬ w < σ 9) : CtL l yL_isJoinedInCheapest wsL_isJoinedInCheapest 8 256 1 6 [.ref (Γ.2.1 100), .int w, .ref (Γ.2.1 102)] Γ σ τ o (pE (some (.int 1)) σ τ o) := by
  refine ctL_of hl (by decide +kernel) rfl (Nat.le_of_ble_eq_true rfl) ?_
  intro E C F T hNc hΓ hL R
  subst hΓ
  subst hL
  show G E 0 0 0 [(0, .ref ((eG E).2.1 100)), (1, .int w), (2, .ref ((eG E).2.1 102))] [] σ τ o
  refine g_aload_n C dL_isJoinedInCheapest_0 rfl rfl ?_
  refine g_iconst (v := 0) C dL_isJoinedInCheapest_1 (by decide) ?_
  refine g_aload_n C dL_isJoinedInCheapest_2 rfl rfl ?_
  refine g_iload_n C dL_isJoinedInCheapest_3 rfl rfl ?_
  refine g_callV (Cl := RX0) (T := TX0) (N := 18) (ci := 0) (q0 := 0) (na := 1) C dL_isJoinedInCheapest_4 (c_isJoinedInCheapestX hl (eG E) σ τ o w hw) gL_isJoinedInCheapest_X0_isJoinedInCheapest rfl rfl (by decide +kernel) rfl rfl rfl (Nat.le_of_ble_eq_true rfl) (by rw [R]; exact ⟨by decide, by decide⟩) (by rw [R]; exact ⟨by decide, by decide⟩) (fun X σ' τ' o' h => ?_) (fun v σ' τ' o' h => h.elim)
  obtain ⟨rfl, rfl, rfl, rfl⟩ := h
  refine gx_catch C T hNc [] (0, 16, 19, 21) [] rfl (fun z hz => absurd hz List.not_mem_nil) (by decide) (by decide) mwL_isJoinedInCheapest_h21 (by decide +kernel) (fun q => ?_)
  refine g_astore_n C [(3, _), (0, _), (1, _), (2, _)] dL_isJoinedInCheapest_19 rfl (by decide) rfl ?_
  refine g_iconst (v := 1) C dL_isJoinedInCheapest_20 (by decide) ?_
  exact g_iret C F dL_isJoinedInCheapest_21 (by decide) (by decide) ⟨rfl, rfl, rfl, rfl⟩
set_option maxHeartbeats 4000000 in
set_option maxRecDepth 100000 in
theorem h_setLimit {l : Launch} (hl : l.stackTraces = false) (Γ : gG) (σ : gS) (τ : gT) (o : gO) (x : Int32) (h1 : ¬ x < 3) (h2 : x ≤ 15) : CtL l yL_setLimit wsL_setLimit 2 64 0 0 [.ref (Γ.2.1 100), .int x, .ref (Γ.2.1 102)] Γ σ τ o (pE (some (.int 0)) (uS σ 4 x) τ (vp_updL o 0 ((σ 4).toInt64))) := by
  refine ctL_of hl (by decide +kernel) rfl (Nat.le_of_ble_eq_true rfl) ?_
  intro E C F T hNc hΓ hL R
  subst hΓ
  subst hL
  show G E 0 0 0 [(0, .ref ((eG E).2.1 100)), (1, .int x), (2, .ref ((eG E).2.1 102))] [] σ τ o
  refine g_aload_n C dL_setLimit_0 rfl rfl ?_
  refine g_iconst (v := 0) C dL_setLimit_1 (by decide) ?_
  refine g_aload_n C dL_setLimit_2 rfl rfl ?_
  refine g_iload_n C dL_setLimit_3 rfl rfl ?_
  refine g_callVEi (Cl := RX0) (T := TX0) (N := 18) (ci := 0) (q0 := 0) (na := 1) C dL_setLimit_4 (c_setLimit hl (eG E) σ τ o x h1 h2) gL_setLimit_X0_setLimit rfl rfl (by decide +kernel) rfl rfl rfl (Nat.le_of_ble_eq_true rfl) (by rw [R]; exact ⟨by decide, by decide⟩) (by rw [R]; exact ⟨by decide, by decide⟩) ?_
  refine g_i2l C dL_setLimit_7 ?_
  refine g_last C dL_setLimit_8 ?_
  refine g_goto (tgt := 15) C dL_setLimit_9 (by decide) ?_
  refine g_iconst (v := 0) C dL_setLimit_15 (by decide) ?_
  exact g_iret C F dL_setLimit_16 (by decide) (by decide) ⟨rfl, rfl, rfl, rfl⟩
set_option maxRecDepth 100000 in
theorem mwL_setLimit_h13 : Cond.classLink RL 13 "java/lang/IllegalArgumentException" ∈ wsL_setLimit := by decide +kernel
set_option maxHeartbeats 4000000 in
set_option maxRecDepth 100000 in
theorem h_setLimitX {l : Launch} (hl : l.stackTraces = false) (Γ : gG) (σ : gS) (τ : gT) (o : gO) (x : Int32) (hx : x < 3 ∨ ¬ x ≤ 15) : CtL l yL_setLimit wsL_setLimit 7 224 1 6 [.ref (Γ.2.1 100), .int x, .ref (Γ.2.1 102)] Γ σ τ o (pE (some (.int 1)) σ τ o) := by
  refine ctL_of hl (by decide +kernel) rfl (Nat.le_of_ble_eq_true rfl) ?_
  intro E C F T hNc hΓ hL R
  subst hΓ
  subst hL
  show G E 0 0 0 [(0, .ref ((eG E).2.1 100)), (1, .int x), (2, .ref ((eG E).2.1 102))] [] σ τ o
  refine g_aload_n C dL_setLimit_0 rfl rfl ?_
  refine g_iconst (v := 0) C dL_setLimit_1 (by decide) ?_
  refine g_aload_n C dL_setLimit_2 rfl rfl ?_
  refine g_iload_n C dL_setLimit_3 rfl rfl ?_
  refine g_callV (Cl := RX0) (T := TX0) (N := 18) (ci := 0) (q0 := 0) (na := 1) C dL_setLimit_4 (c_setLimitX hl (eG E) σ τ o x hx) gL_setLimit_X0_setLimit rfl rfl (by decide +kernel) rfl rfl rfl (Nat.le_of_ble_eq_true rfl) (by rw [R]; exact ⟨by decide, by decide⟩) (by rw [R]; exact ⟨by decide, by decide⟩) (fun X σ' τ' o' h => ?_) (fun v σ' τ' o' h => h.elim)
  obtain ⟨rfl, rfl, rfl, rfl⟩ := h
  refine gx_catch C T hNc [] (0, 9, 12, 13) [] rfl (fun z hz => absurd hz List.not_mem_nil) (by decide) (by decide) mwL_setLimit_h13 (by decide +kernel) (fun q => ?_)
  refine g_astore_n C [(3, _), (0, _), (1, _), (2, _)] dL_setLimit_12 rfl (by decide) rfl ?_
  refine g_iconst (v := 1) C dL_setLimit_13 (by decide) ?_
  exact g_iret C F dL_setLimit_14 (by decide) (by decide) ⟨rfl, rfl, rfl, rfl⟩
set_option maxHeartbeats 4000000 in
set_option maxRecDepth 100000 in
theorem h_setLeastCount {l : Launch} (hl : l.stackTraces = false) (Γ : gG) (σ : gS) (τ : gT) (o : gO) (x : Int32) (h1 : ¬ x < 0) (h2 : x ≤ 20) : CtL l yL_setLeastCount wsL_setLeastCount 2 64 0 0 [.ref (Γ.2.1 100), .int x, .ref (Γ.2.1 102)] Γ σ τ o (pE (some (.int 0)) (uS σ 5 x) τ (vp_updL o 0 ((σ 5).toInt64))) := by
  refine ctL_of hl (by decide +kernel) rfl (Nat.le_of_ble_eq_true rfl) ?_
  intro E C F T hNc hΓ hL R
  subst hΓ
  subst hL
  show G E 0 0 0 [(0, .ref ((eG E).2.1 100)), (1, .int x), (2, .ref ((eG E).2.1 102))] [] σ τ o
  refine g_aload_n C dL_setLeastCount_0 rfl rfl ?_
  refine g_iconst (v := 0) C dL_setLeastCount_1 (by decide) ?_
  refine g_aload_n C dL_setLeastCount_2 rfl rfl ?_
  refine g_iload_n C dL_setLeastCount_3 rfl rfl ?_
  refine g_callVEi (Cl := RX0) (T := TX0) (N := 18) (ci := 0) (q0 := 0) (na := 1) C dL_setLeastCount_4 (c_setLeastCount hl (eG E) σ τ o x h1 h2) gL_setLeastCount_X0_setLeastCount rfl rfl (by decide +kernel) rfl rfl rfl (Nat.le_of_ble_eq_true rfl) (by rw [R]; exact ⟨by decide, by decide⟩) (by rw [R]; exact ⟨by decide, by decide⟩) ?_
  refine g_i2l C dL_setLeastCount_7 ?_
  refine g_last C dL_setLeastCount_8 ?_
  refine g_goto (tgt := 15) C dL_setLeastCount_9 (by decide) ?_
  refine g_iconst (v := 0) C dL_setLeastCount_15 (by decide) ?_
  exact g_iret C F dL_setLeastCount_16 (by decide) (by decide) ⟨rfl, rfl, rfl, rfl⟩
set_option maxRecDepth 100000 in
theorem mwL_setLeastCount_h13 : Cond.classLink RL 13 "java/lang/IllegalArgumentException" ∈ wsL_setLeastCount := by decide +kernel
set_option maxHeartbeats 4000000 in
set_option maxRecDepth 100000 in
theorem h_setLeastCountX {l : Launch} (hl : l.stackTraces = false) (Γ : gG) (σ : gS) (τ : gT) (o : gO) (x : Int32) (hx : x < 0 ∨ ¬ x ≤ 20) : CtL l yL_setLeastCount wsL_setLeastCount 7 224 1 6 [.ref (Γ.2.1 100), .int x, .ref (Γ.2.1 102)] Γ σ τ o (pE (some (.int 1)) σ τ o) := by
  refine ctL_of hl (by decide +kernel) rfl (Nat.le_of_ble_eq_true rfl) ?_
  intro E C F T hNc hΓ hL R
  subst hΓ
  subst hL
  show G E 0 0 0 [(0, .ref ((eG E).2.1 100)), (1, .int x), (2, .ref ((eG E).2.1 102))] [] σ τ o
  refine g_aload_n C dL_setLeastCount_0 rfl rfl ?_
  refine g_iconst (v := 0) C dL_setLeastCount_1 (by decide) ?_
  refine g_aload_n C dL_setLeastCount_2 rfl rfl ?_
  refine g_iload_n C dL_setLeastCount_3 rfl rfl ?_
  refine g_callV (Cl := RX0) (T := TX0) (N := 18) (ci := 0) (q0 := 0) (na := 1) C dL_setLeastCount_4 (c_setLeastCountX hl (eG E) σ τ o x hx) gL_setLeastCount_X0_setLeastCount rfl rfl (by decide +kernel) rfl rfl rfl (Nat.le_of_ble_eq_true rfl) (by rw [R]; exact ⟨by decide, by decide⟩) (by rw [R]; exact ⟨by decide, by decide⟩) (fun X σ' τ' o' h => ?_) (fun v σ' τ' o' h => h.elim)
  obtain ⟨rfl, rfl, rfl, rfl⟩ := h
  refine gx_catch C T hNc [] (0, 9, 12, 13) [] rfl (fun z hz => absurd hz List.not_mem_nil) (by decide) (by decide) mwL_setLeastCount_h13 (by decide +kernel) (fun q => ?_)
  refine g_astore_n C [(3, _), (0, _), (1, _), (2, _)] dL_setLeastCount_12 rfl (by decide) rfl ?_
  refine g_iconst (v := 1) C dL_setLeastCount_13 (by decide) ?_
  exact g_iret C F dL_setLeastCount_14 (by decide) (by decide) ⟨rfl, rfl, rfl, rfl⟩
set_option maxHeartbeats 4000000 in
set_option maxRecDepth 100000 in
theorem h_setCoins {l : Launch} (hl : l.stackTraces = false) (Γ : gG) (σ : gS) (τ : gT) (o : gO) (x : Int32) (h1 : ¬ x < 1) (h2 : x ≤ 50) : CtL l yL_setCoins wsL_setCoins 2 64 0 0 [.ref (Γ.2.1 100), .int x, .ref (Γ.2.1 102)] Γ σ τ o (pE (some (.int 0)) (uS σ 6 x) τ (vp_updL o 0 ((σ 6).toInt64))) := by
  refine ctL_of hl (by decide +kernel) rfl (Nat.le_of_ble_eq_true rfl) ?_
  intro E C F T hNc hΓ hL R
  subst hΓ
  subst hL
  show G E 0 0 0 [(0, .ref ((eG E).2.1 100)), (1, .int x), (2, .ref ((eG E).2.1 102))] [] σ τ o
  refine g_aload_n C dL_setCoins_0 rfl rfl ?_
  refine g_iconst (v := 0) C dL_setCoins_1 (by decide) ?_
  refine g_aload_n C dL_setCoins_2 rfl rfl ?_
  refine g_iload_n C dL_setCoins_3 rfl rfl ?_
  refine g_callVEi (Cl := RX0) (T := TX0) (N := 18) (ci := 0) (q0 := 0) (na := 1) C dL_setCoins_4 (c_setCoins hl (eG E) σ τ o x h1 h2) gL_setCoins_X0_setCoins rfl rfl (by decide +kernel) rfl rfl rfl (Nat.le_of_ble_eq_true rfl) (by rw [R]; exact ⟨by decide, by decide⟩) (by rw [R]; exact ⟨by decide, by decide⟩) ?_
  refine g_i2l C dL_setCoins_7 ?_
  refine g_last C dL_setCoins_8 ?_
  refine g_goto (tgt := 15) C dL_setCoins_9 (by decide) ?_
  refine g_iconst (v := 0) C dL_setCoins_15 (by decide) ?_
  exact g_iret C F dL_setCoins_16 (by decide) (by decide) ⟨rfl, rfl, rfl, rfl⟩
set_option maxRecDepth 100000 in
theorem mwL_setCoins_h13 : Cond.classLink RL 13 "java/lang/IllegalArgumentException" ∈ wsL_setCoins := by decide +kernel
set_option maxHeartbeats 4000000 in
set_option maxRecDepth 100000 in
theorem h_setCoinsX {l : Launch} (hl : l.stackTraces = false) (Γ : gG) (σ : gS) (τ : gT) (o : gO) (x : Int32) (hx : x < 1 ∨ ¬ x ≤ 50) : CtL l yL_setCoins wsL_setCoins 7 224 1 6 [.ref (Γ.2.1 100), .int x, .ref (Γ.2.1 102)] Γ σ τ o (pE (some (.int 1)) σ τ o) := by
  refine ctL_of hl (by decide +kernel) rfl (Nat.le_of_ble_eq_true rfl) ?_
  intro E C F T hNc hΓ hL R
  subst hΓ
  subst hL
  show G E 0 0 0 [(0, .ref ((eG E).2.1 100)), (1, .int x), (2, .ref ((eG E).2.1 102))] [] σ τ o
  refine g_aload_n C dL_setCoins_0 rfl rfl ?_
  refine g_iconst (v := 0) C dL_setCoins_1 (by decide) ?_
  refine g_aload_n C dL_setCoins_2 rfl rfl ?_
  refine g_iload_n C dL_setCoins_3 rfl rfl ?_
  refine g_callV (Cl := RX0) (T := TX0) (N := 18) (ci := 0) (q0 := 0) (na := 1) C dL_setCoins_4 (c_setCoinsX hl (eG E) σ τ o x hx) gL_setCoins_X0_setCoins rfl rfl (by decide +kernel) rfl rfl rfl (Nat.le_of_ble_eq_true rfl) (by rw [R]; exact ⟨by decide, by decide⟩) (by rw [R]; exact ⟨by decide, by decide⟩) (fun X σ' τ' o' h => ?_) (fun v σ' τ' o' h => h.elim)
  obtain ⟨rfl, rfl, rfl, rfl⟩ := h
  refine gx_catch C T hNc [] (0, 9, 12, 13) [] rfl (fun z hz => absurd hz List.not_mem_nil) (by decide) (by decide) mwL_setCoins_h13 (by decide +kernel) (fun q => ?_)
  refine g_astore_n C [(3, _), (0, _), (1, _), (2, _)] dL_setCoins_12 rfl (by decide) rfl ?_
  refine g_iconst (v := 1) C dL_setCoins_13 (by decide) ?_
  exact g_iret C F dL_setCoins_14 (by decide) (by decide) ⟨rfl, rfl, rfl, rfl⟩
set_option maxHeartbeats 4000000 in
set_option maxRecDepth 100000 in
theorem h_addWord {l : Launch} (hl : l.stackTraces = false) (Γ : gG) (σ : gS) (τ : gT) (o : gO) (nw nl lm : Nat) (x : Int32) (I : IX σ τ nw nl lm) (h1 : ¬ x < 1) (h2 : x ≤ 30) (hw : nw < 12) : CtL l yL_addWord wsL_addWord 2 64 0 0 [.ref (Γ.2.1 100), .int x, .ref (Γ.2.1 102)] Γ σ τ o (pE (some (.int 0)) (uS σ 3 (nI (nw + 1))) (uT (uT (uT τ 0 nw x) 1 nw ((1 : Int32) <<< (nI nw &&& 31))) 2 nw 0) (vp_updL o 0 ((nI nw).toInt64))) := by
  refine ctL_of hl (by decide +kernel) rfl (Nat.le_of_ble_eq_true rfl) ?_
  intro E C F T hNc hΓ hL R
  subst hΓ
  subst hL
  show G E 0 0 0 [(0, .ref ((eG E).2.1 100)), (1, .int x), (2, .ref ((eG E).2.1 102))] [] σ τ o
  refine g_aload_n C dL_addWord_0 rfl rfl ?_
  refine g_iconst (v := 0) C dL_addWord_1 (by decide) ?_
  refine g_aload_n C dL_addWord_2 rfl rfl ?_
  refine g_iload_n C dL_addWord_3 rfl rfl ?_
  refine g_callVEi (Cl := RX0) (T := TX0) (N := 18) (ci := 0) (q0 := 0) (na := 1) C dL_addWord_4 (c_addWord hl (eG E) σ τ o nw nl lm x I h1 h2 hw) gL_addWord_X0_addWord rfl rfl (by decide +kernel) rfl rfl rfl (Nat.le_of_ble_eq_true rfl) (by rw [R]; exact ⟨by decide, by decide⟩) (by rw [R]; exact ⟨by decide, by decide⟩) ?_
  refine g_i2l C dL_addWord_7 ?_
  refine g_last C dL_addWord_8 ?_
  refine g_goto (tgt := 18) C dL_addWord_9 (by decide) ?_
  refine g_iconst (v := 0) C dL_addWord_18 (by decide) ?_
  exact g_iret C F dL_addWord_19 (by decide) (by decide) ⟨rfl, rfl, rfl, rfl⟩
set_option maxRecDepth 100000 in
theorem mwL_addWord_h13 : Cond.classLink RL 13 "java/lang/IllegalArgumentException" ∈ wsL_addWord := by decide +kernel
set_option maxHeartbeats 4000000 in
set_option maxRecDepth 100000 in
theorem h_addWordX {l : Launch} (hl : l.stackTraces = false) (Γ : gG) (σ : gS) (τ : gT) (o : gO) (x : Int32) (hx : x < 1 ∨ ¬ x ≤ 30) : CtL l yL_addWord wsL_addWord 7 224 1 6 [.ref (Γ.2.1 100), .int x, .ref (Γ.2.1 102)] Γ σ τ o (pE (some (.int 1)) σ τ o) := by
  refine ctL_of hl (by decide +kernel) rfl (Nat.le_of_ble_eq_true rfl) ?_
  intro E C F T hNc hΓ hL R
  subst hΓ
  subst hL
  show G E 0 0 0 [(0, .ref ((eG E).2.1 100)), (1, .int x), (2, .ref ((eG E).2.1 102))] [] σ τ o
  refine g_aload_n C dL_addWord_0 rfl rfl ?_
  refine g_iconst (v := 0) C dL_addWord_1 (by decide) ?_
  refine g_aload_n C dL_addWord_2 rfl rfl ?_
  refine g_iload_n C dL_addWord_3 rfl rfl ?_
  refine g_callV (Cl := RX0) (T := TX0) (N := 18) (ci := 0) (q0 := 0) (na := 1) C dL_addWord_4 (c_addWordX hl (eG E) σ τ o x hx) gL_addWord_X0_addWord rfl rfl (by decide +kernel) rfl rfl rfl (Nat.le_of_ble_eq_true rfl) (by rw [R]; exact ⟨by decide, by decide⟩) (by rw [R]; exact ⟨by decide, by decide⟩) (fun X σ' τ' o' h => ?_) (fun v σ' τ' o' h => h.elim)
  obtain ⟨rfl, rfl, rfl, rfl⟩ := h
  refine gx_catch C T hNc [] (0, 9, 12, 13) [(0, 9, 15, 15)] rfl (fun z hz => absurd hz List.not_mem_nil) (by decide) (by decide) mwL_addWord_h13 (by decide +kernel) (fun q => ?_)
  refine g_astore_n C [(3, _), (0, _), (1, _), (2, _)] dL_addWord_12 rfl (by decide) rfl ?_
  refine g_iconst (v := 1) C dL_addWord_13 (by decide) ?_
  exact g_iret C F dL_addWord_14 (by decide) (by decide) ⟨rfl, rfl, rfl, rfl⟩
set_option maxRecDepth 100000 in
theorem mwL_addWord_h15 : Cond.classLink RL 15 "java/lang/IllegalStateException" ∈ wsL_addWord := by decide +kernel
set_option maxHeartbeats 4000000 in
set_option maxRecDepth 100000 in
theorem h_addWordY {l : Launch} (hl : l.stackTraces = false) (Γ : gG) (σ : gS) (τ : gT) (o : gO) (x : Int32) (h1 : ¬ x < 1) (h2 : x ≤ 30) (hw : ¬ σ 3 < 12) : CtL l yL_addWord wsL_addWord 7 224 1 6 [.ref (Γ.2.1 100), .int x, .ref (Γ.2.1 102)] Γ σ τ o (pE (some (.int 2)) σ τ o) := by
  refine ctL_of hl (by decide +kernel) rfl (Nat.le_of_ble_eq_true rfl) ?_
  intro E C F T hNc hΓ hL R
  subst hΓ
  subst hL
  show G E 0 0 0 [(0, .ref ((eG E).2.1 100)), (1, .int x), (2, .ref ((eG E).2.1 102))] [] σ τ o
  refine g_aload_n C dL_addWord_0 rfl rfl ?_
  refine g_iconst (v := 0) C dL_addWord_1 (by decide) ?_
  refine g_aload_n C dL_addWord_2 rfl rfl ?_
  refine g_iload_n C dL_addWord_3 rfl rfl ?_
  refine g_callV (Cl := RX0) (T := TX0) (N := 18) (ci := 0) (q0 := 0) (na := 1) C dL_addWord_4 (c_addWordY hl (eG E) σ τ o x h1 h2 hw) gL_addWord_X0_addWord rfl rfl (by decide +kernel) rfl rfl rfl (Nat.le_of_ble_eq_true rfl) (by rw [R]; exact ⟨by decide, by decide⟩) (by rw [R]; exact ⟨by decide, by decide⟩) (fun X σ' τ' o' h => ?_) (fun v σ' τ' o' h => h.elim)
  obtain ⟨rfl, rfl, rfl, rfl⟩ := h
  refine gx_catch C T hNc [(0, 9, 12, 13)] (0, 9, 15, 15) [] rfl (fun z hz => by
        obtain rfl := List.mem_singleton.mp hz
        exact ⟨by decide, _, mwL_addWord_h13, by decide +kernel⟩) (by decide) (by decide) mwL_addWord_h15 (by decide +kernel) (fun q => ?_)
  refine g_astore_n C [(3, _), (0, _), (1, _), (2, _)] dL_addWord_15 rfl (by decide) rfl ?_
  refine g_iconst (v := 2) C dL_addWord_16 (by decide) ?_
  exact g_iret C F dL_addWord_17 (by decide) (by decide) ⟨rfl, rfl, rfl, rfl⟩
set_option maxHeartbeats 4000000 in
set_option maxRecDepth 100000 in
theorem h_turnStandIn {l : Launch} (hl : l.stackTraces = false) (Γ : gG) (σ : gS) (τ : gT) (o : gO) (nw nl lm : Nat) (a b : Nat) (I : IX σ τ nw nl lm) (ha : a < nw) (hb9 : b < nw) (hne : a ≠ b) : CtL l yL_turnStandIn wsL_turnStandIn 3 96 0 0 [.ref (Γ.2.1 100), .int (nI a), .int (nI b), .ref (Γ.2.1 102)] Γ σ τ o (pE (some (.int 0)) σ (uT τ 1 a (τ 1 a ^^^ ((1 : Int32) <<< (nI b &&& 31)))) (vp_updL o 0 (lb (hb (τ 1 a ^^^ ((1 : Int32) <<< (nI b &&& 31))) (nI b))))) := by
  refine ctL_of hl (by decide +kernel) rfl (Nat.le_of_ble_eq_true rfl) ?_
  intro E C F T hNc hΓ hL R
  subst hΓ
  subst hL
  show G E 0 0 0 [(0, .ref ((eG E).2.1 100)), (1, .int (nI a)), (2, .int (nI b)), (3, .ref ((eG E).2.1 102))] [] σ τ o
  refine g_aload_n C dL_turnStandIn_0 rfl rfl ?_
  refine g_iconst (v := 0) C dL_turnStandIn_1 (by decide) ?_
  refine g_aload_n C dL_turnStandIn_2 rfl rfl ?_
  refine g_iload_n C dL_turnStandIn_3 rfl rfl ?_
  refine g_iload_n C dL_turnStandIn_4 rfl rfl ?_
  refine g_callVEi (Cl := RX0) (T := TX0) (N := 18) (ci := 0) (q0 := 0) (na := 2) C dL_turnStandIn_5 (c_turnStandIn hl (eG E) σ τ o nw nl lm a b I ha hb9 hne) gL_turnStandIn_X0_turnStandIn rfl rfl (by decide +kernel) rfl rfl rfl (Nat.le_of_ble_eq_true rfl) (by rw [R]; exact ⟨by decide, by decide⟩) (by rw [R]; exact ⟨by decide, by decide⟩) ?_
  refine g_if_eq (tgt := 15) C dL_turnStandIn_8 (by decide) (fun c_8 => ?_) (fun c_8 => ?_)
  · have e : lb (hb (τ 1 a ^^^ ((1 : Int32) <<< (nI b &&& 31))) (nI b)) = 0 := if_pos c_8
    refine g_lconst (v := 0) C dL_turnStandIn_15 (by decide) ?_
    refine g_last C dL_turnStandIn_16 ?_
    refine g_goto (tgt := 28) C dL_turnStandIn_17 (by decide) ?_
    refine g_iconst (v := 0) C dL_turnStandIn_28 (by decide) ?_
    exact g_iret C F dL_turnStandIn_29 (by decide) (by decide) ⟨rfl, rfl, rfl, by rw [e]⟩
  · have e : lb (hb (τ 1 a ^^^ ((1 : Int32) <<< (nI b &&& 31))) (nI b)) = 1 := if_neg c_8
    refine g_lconst (v := 1) C dL_turnStandIn_11 (by decide) ?_
    refine g_goto (tgt := 16) C dL_turnStandIn_12 (by decide) ?_
    refine g_last C dL_turnStandIn_16 ?_
    refine g_goto (tgt := 28) C dL_turnStandIn_17 (by decide) ?_
    refine g_iconst (v := 0) C dL_turnStandIn_28 (by decide) ?_
    exact g_iret C F dL_turnStandIn_29 (by decide) (by decide) ⟨rfl, rfl, rfl, by rw [e]⟩
set_option maxRecDepth 100000 in
theorem mwL_turnStandIn_h21 : Cond.classLink RL 21 "java/lang/IndexOutOfBoundsException" ∈ wsL_turnStandIn := by decide +kernel
set_option maxHeartbeats 4000000 in
set_option maxRecDepth 100000 in
theorem h_turnStandInX {l : Launch} (hl : l.stackTraces = false) (Γ : gG) (σ : gS) (τ : gT) (o : gO) (w v : Int32) (hw : w < 0 ∨ ¬ w < σ 3) : CtL l yL_turnStandIn wsL_turnStandIn 8 256 1 6 [.ref (Γ.2.1 100), .int w, .int v, .ref (Γ.2.1 102)] Γ σ τ o (pE (some (.int 1)) σ τ o) := by
  refine ctL_of hl (by decide +kernel) rfl (Nat.le_of_ble_eq_true rfl) ?_
  intro E C F T hNc hΓ hL R
  subst hΓ
  subst hL
  show G E 0 0 0 [(0, .ref ((eG E).2.1 100)), (1, .int w), (2, .int v), (3, .ref ((eG E).2.1 102))] [] σ τ o
  refine g_aload_n C dL_turnStandIn_0 rfl rfl ?_
  refine g_iconst (v := 0) C dL_turnStandIn_1 (by decide) ?_
  refine g_aload_n C dL_turnStandIn_2 rfl rfl ?_
  refine g_iload_n C dL_turnStandIn_3 rfl rfl ?_
  refine g_iload_n C dL_turnStandIn_4 rfl rfl ?_
  refine g_callV (Cl := RX0) (T := TX0) (N := 18) (ci := 0) (q0 := 0) (na := 2) C dL_turnStandIn_5 (c_turnStandInX hl (eG E) σ τ o w v hw) gL_turnStandIn_X0_turnStandIn rfl rfl (by decide +kernel) rfl rfl rfl (Nat.le_of_ble_eq_true rfl) (by rw [R]; exact ⟨by decide, by decide⟩) (by rw [R]; exact ⟨by decide, by decide⟩) (fun X σ' τ' o' h => ?_) (fun v σ' τ' o' h => h.elim)
  obtain ⟨rfl, rfl, rfl, rfl⟩ := h
  refine gx_catch C T hNc [] (0, 17, 20, 21) [(0, 17, 24, 13)] rfl (fun z hz => absurd hz List.not_mem_nil) (by decide) (by decide) mwL_turnStandIn_h21 (by decide +kernel) (fun q => ?_)
  refine g_astore C [(4, _), (0, _), (1, _), (2, _), (3, _)] dL_turnStandIn_20 (by decide) rfl ?_
  refine g_iconst (v := 1) C dL_turnStandIn_22 (by decide) ?_
  exact g_iret C F dL_turnStandIn_23 (by decide) (by decide) ⟨rfl, rfl, rfl, rfl⟩
set_option maxHeartbeats 4000000 in
set_option maxRecDepth 100000 in
theorem h_turnStandInY {l : Launch} (hl : l.stackTraces = false) (Γ : gG) (σ : gS) (τ : gT) (o : gO) (nw nl lm : Nat) (a : Nat) (v : Int32) (I : IX σ τ nw nl lm) (ha : a < nw) (hv : v < 0 ∨ ¬ v < σ 3) : CtL l yL_turnStandIn wsL_turnStandIn 8 256 1 6 [.ref (Γ.2.1 100), .int (nI a), .int v, .ref (Γ.2.1 102)] Γ σ τ o (pE (some (.int 1)) σ τ o) := by
  refine ctL_of hl (by decide +kernel) rfl (Nat.le_of_ble_eq_true rfl) ?_
  intro E C F T hNc hΓ hL R
  subst hΓ
  subst hL
  show G E 0 0 0 [(0, .ref ((eG E).2.1 100)), (1, .int (nI a)), (2, .int v), (3, .ref ((eG E).2.1 102))] [] σ τ o
  refine g_aload_n C dL_turnStandIn_0 rfl rfl ?_
  refine g_iconst (v := 0) C dL_turnStandIn_1 (by decide) ?_
  refine g_aload_n C dL_turnStandIn_2 rfl rfl ?_
  refine g_iload_n C dL_turnStandIn_3 rfl rfl ?_
  refine g_iload_n C dL_turnStandIn_4 rfl rfl ?_
  refine g_callV (Cl := RX0) (T := TX0) (N := 18) (ci := 0) (q0 := 0) (na := 2) C dL_turnStandIn_5 (c_turnStandInY hl (eG E) σ τ o nw nl lm a v I ha hv) gL_turnStandIn_X0_turnStandIn rfl rfl (by decide +kernel) rfl rfl rfl (Nat.le_of_ble_eq_true rfl) (by rw [R]; exact ⟨by decide, by decide⟩) (by rw [R]; exact ⟨by decide, by decide⟩) (fun X σ' τ' o' h => ?_) (fun v σ' τ' o' h => h.elim)
  obtain ⟨rfl, rfl, rfl, rfl⟩ := h
  refine gx_catch C T hNc [] (0, 17, 20, 21) [(0, 17, 24, 13)] rfl (fun z hz => absurd hz List.not_mem_nil) (by decide) (by decide) mwL_turnStandIn_h21 (by decide +kernel) (fun q => ?_)
  refine g_astore C [(4, _), (0, _), (1, _), (2, _), (3, _)] dL_turnStandIn_20 (by decide) rfl ?_
  refine g_iconst (v := 1) C dL_turnStandIn_22 (by decide) ?_
  exact g_iret C F dL_turnStandIn_23 (by decide) (by decide) ⟨rfl, rfl, rfl, rfl⟩
set_option maxHeartbeats 4000000 in
set_option maxRecDepth 100000 in
theorem h_turnJoin {l : Launch} (hl : l.stackTraces = false) (Γ : gG) (σ : gS) (τ : gT) (o : gO) (nw nl lm : Nat) (a b : Nat) (I : IX σ τ nw nl lm) (ha : a < nw) (hb9 : b < nw) : CtL l yL_turnJoin wsL_turnJoin 3 96 0 0 [.ref (Γ.2.1 100), .int (nI a), .int (nI b), .ref (Γ.2.1 102)] Γ σ τ o (pE (some (.int 0)) σ (uT τ 2 a (τ 2 a ^^^ ((1 : Int32) <<< (nI b &&& 31)))) (vp_updL o 0 (lb (hb (τ 2 a ^^^ ((1 : Int32) <<< (nI b &&& 31))) (nI b))))) := by
  refine ctL_of hl (by decide +kernel) rfl (Nat.le_of_ble_eq_true rfl) ?_
  intro E C F T hNc hΓ hL R
  subst hΓ
  subst hL
  show G E 0 0 0 [(0, .ref ((eG E).2.1 100)), (1, .int (nI a)), (2, .int (nI b)), (3, .ref ((eG E).2.1 102))] [] σ τ o
  refine g_aload_n C dL_turnJoin_0 rfl rfl ?_
  refine g_iconst (v := 0) C dL_turnJoin_1 (by decide) ?_
  refine g_aload_n C dL_turnJoin_2 rfl rfl ?_
  refine g_iload_n C dL_turnJoin_3 rfl rfl ?_
  refine g_iload_n C dL_turnJoin_4 rfl rfl ?_
  refine g_callVEi (Cl := RX0) (T := TX0) (N := 18) (ci := 0) (q0 := 0) (na := 2) C dL_turnJoin_5 (c_turnJoin hl (eG E) σ τ o nw nl lm a b I ha hb9) gL_turnJoin_X0_turnJoin rfl rfl (by decide +kernel) rfl rfl rfl (Nat.le_of_ble_eq_true rfl) (by rw [R]; exact ⟨by decide, by decide⟩) (by rw [R]; exact ⟨by decide, by decide⟩) ?_
  refine g_if_eq (tgt := 15) C dL_turnJoin_8 (by decide) (fun c_8 => ?_) (fun c_8 => ?_)
  · have e : lb (hb (τ 2 a ^^^ ((1 : Int32) <<< (nI b &&& 31))) (nI b)) = 0 := if_pos c_8
    refine g_lconst (v := 0) C dL_turnJoin_15 (by decide) ?_
    refine g_last C dL_turnJoin_16 ?_
    refine g_goto (tgt := 24) C dL_turnJoin_17 (by decide) ?_
    refine g_iconst (v := 0) C dL_turnJoin_24 (by decide) ?_
    exact g_iret C F dL_turnJoin_25 (by decide) (by decide) ⟨rfl, rfl, rfl, by rw [e]⟩
  · have e : lb (hb (τ 2 a ^^^ ((1 : Int32) <<< (nI b &&& 31))) (nI b)) = 1 := if_neg c_8
    refine g_lconst (v := 1) C dL_turnJoin_11 (by decide) ?_
    refine g_goto (tgt := 16) C dL_turnJoin_12 (by decide) ?_
    refine g_last C dL_turnJoin_16 ?_
    refine g_goto (tgt := 24) C dL_turnJoin_17 (by decide) ?_
    refine g_iconst (v := 0) C dL_turnJoin_24 (by decide) ?_
    exact g_iret C F dL_turnJoin_25 (by decide) (by decide) ⟨rfl, rfl, rfl, by rw [e]⟩
set_option maxRecDepth 100000 in
theorem mwL_turnJoin_h21 : Cond.classLink RL 21 "java/lang/IndexOutOfBoundsException" ∈ wsL_turnJoin := by decide +kernel
set_option maxHeartbeats 4000000 in
set_option maxRecDepth 100000 in
theorem h_turnJoinX {l : Launch} (hl : l.stackTraces = false) (Γ : gG) (σ : gS) (τ : gT) (o : gO) (w v : Int32) (hw : w < 0 ∨ ¬ w < σ 3) : CtL l yL_turnJoin wsL_turnJoin 8 256 1 6 [.ref (Γ.2.1 100), .int w, .int v, .ref (Γ.2.1 102)] Γ σ τ o (pE (some (.int 1)) σ τ o) := by
  refine ctL_of hl (by decide +kernel) rfl (Nat.le_of_ble_eq_true rfl) ?_
  intro E C F T hNc hΓ hL R
  subst hΓ
  subst hL
  show G E 0 0 0 [(0, .ref ((eG E).2.1 100)), (1, .int w), (2, .int v), (3, .ref ((eG E).2.1 102))] [] σ τ o
  refine g_aload_n C dL_turnJoin_0 rfl rfl ?_
  refine g_iconst (v := 0) C dL_turnJoin_1 (by decide) ?_
  refine g_aload_n C dL_turnJoin_2 rfl rfl ?_
  refine g_iload_n C dL_turnJoin_3 rfl rfl ?_
  refine g_iload_n C dL_turnJoin_4 rfl rfl ?_
  refine g_callV (Cl := RX0) (T := TX0) (N := 18) (ci := 0) (q0 := 0) (na := 2) C dL_turnJoin_5 (c_turnJoinX hl (eG E) σ τ o w v hw) gL_turnJoin_X0_turnJoin rfl rfl (by decide +kernel) rfl rfl rfl (Nat.le_of_ble_eq_true rfl) (by rw [R]; exact ⟨by decide, by decide⟩) (by rw [R]; exact ⟨by decide, by decide⟩) (fun X σ' τ' o' h => ?_) (fun v σ' τ' o' h => h.elim)
  obtain ⟨rfl, rfl, rfl, rfl⟩ := h
  refine gx_catch C T hNc [] (0, 17, 20, 21) [] rfl (fun z hz => absurd hz List.not_mem_nil) (by decide) (by decide) mwL_turnJoin_h21 (by decide +kernel) (fun q => ?_)
  refine g_astore C [(4, _), (0, _), (1, _), (2, _), (3, _)] dL_turnJoin_20 (by decide) rfl ?_
  refine g_iconst (v := 1) C dL_turnJoin_22 (by decide) ?_
  exact g_iret C F dL_turnJoin_23 (by decide) (by decide) ⟨rfl, rfl, rfl, rfl⟩
set_option maxHeartbeats 4000000 in
set_option maxRecDepth 100000 in
theorem h_turnJoinY {l : Launch} (hl : l.stackTraces = false) (Γ : gG) (σ : gS) (τ : gT) (o : gO) (nw nl lm : Nat) (a : Nat) (v : Int32) (I : IX σ τ nw nl lm) (ha : a < nw) (hv : v < 0 ∨ ¬ v < σ 3) : CtL l yL_turnJoin wsL_turnJoin 8 256 1 6 [.ref (Γ.2.1 100), .int (nI a), .int v, .ref (Γ.2.1 102)] Γ σ τ o (pE (some (.int 1)) σ τ o) := by
  refine ctL_of hl (by decide +kernel) rfl (Nat.le_of_ble_eq_true rfl) ?_
  intro E C F T hNc hΓ hL R
  subst hΓ
  subst hL
  show G E 0 0 0 [(0, .ref ((eG E).2.1 100)), (1, .int (nI a)), (2, .int v), (3, .ref ((eG E).2.1 102))] [] σ τ o
  refine g_aload_n C dL_turnJoin_0 rfl rfl ?_
  refine g_iconst (v := 0) C dL_turnJoin_1 (by decide) ?_
  refine g_aload_n C dL_turnJoin_2 rfl rfl ?_
  refine g_iload_n C dL_turnJoin_3 rfl rfl ?_
  refine g_iload_n C dL_turnJoin_4 rfl rfl ?_
  refine g_callV (Cl := RX0) (T := TX0) (N := 18) (ci := 0) (q0 := 0) (na := 2) C dL_turnJoin_5 (c_turnJoinY hl (eG E) σ τ o nw nl lm a v I ha hv) gL_turnJoin_X0_turnJoin rfl rfl (by decide +kernel) rfl rfl rfl (Nat.le_of_ble_eq_true rfl) (by rw [R]; exact ⟨by decide, by decide⟩) (by rw [R]; exact ⟨by decide, by decide⟩) (fun X σ' τ' o' h => ?_) (fun v σ' τ' o' h => h.elim)
  obtain ⟨rfl, rfl, rfl, rfl⟩ := h
  refine gx_catch C T hNc [] (0, 17, 20, 21) [] rfl (fun z hz => absurd hz List.not_mem_nil) (by decide) (by decide) mwL_turnJoin_h21 (by decide +kernel) (fun q => ?_)
  refine g_astore C [(4, _), (0, _), (1, _), (2, _), (3, _)] dL_turnJoin_20 (by decide) rfl ?_
  refine g_iconst (v := 1) C dL_turnJoin_22 (by decide) ?_
  exact g_iret C F dL_turnJoin_23 (by decide) (by decide) ⟨rfl, rfl, rfl, rfl⟩
set_option maxRecDepth 100000 in
theorem mwL_turnStandIn_h13 : Cond.classLink RL 13 "java/lang/IllegalArgumentException" ∈ wsL_turnStandIn := by decide +kernel
set_option maxHeartbeats 4000000 in
set_option maxRecDepth 100000 in
theorem h_turnStandInZ {l : Launch} (hl : l.stackTraces = false) (Γ : gG) (σ : gS) (τ : gT) (o : gO) (nw nl lm : Nat) (a : Nat) (I : IX σ τ nw nl lm) (ha : a < nw) : CtL l yL_turnStandIn wsL_turnStandIn 8 256 1 6 [.ref (Γ.2.1 100), .int (nI a), .int (nI a), .ref (Γ.2.1 102)] Γ σ τ o (pE (some (.int 2)) σ τ o) := by
  refine ctL_of hl (by decide +kernel) rfl (Nat.le_of_ble_eq_true rfl) ?_
  intro E C F T hNc hΓ hL R
  subst hΓ
  subst hL
  show G E 0 0 0 [(0, .ref ((eG E).2.1 100)), (1, .int (nI a)), (2, .int (nI a)), (3, .ref ((eG E).2.1 102))] [] σ τ o
  refine g_aload_n C dL_turnStandIn_0 rfl rfl ?_
  refine g_iconst (v := 0) C dL_turnStandIn_1 (by decide) ?_
  refine g_aload_n C dL_turnStandIn_2 rfl rfl ?_
  refine g_iload_n C dL_turnStandIn_3 rfl rfl ?_
  refine g_iload_n C dL_turnStandIn_4 rfl rfl ?_
  refine g_callV (Cl := RX0) (T := TX0) (N := 18) (ci := 0) (q0 := 0) (na := 2) C dL_turnStandIn_5 (c_turnStandInZ hl (eG E) σ τ o nw nl lm a I ha) gL_turnStandIn_X0_turnStandIn rfl rfl (by decide +kernel) rfl rfl rfl (Nat.le_of_ble_eq_true rfl) (by rw [R]; exact ⟨by decide, by decide⟩) (by rw [R]; exact ⟨by decide, by decide⟩) (fun X σ' τ' o' h => ?_) (fun v σ' τ' o' h => h.elim)
  obtain ⟨rfl, rfl, rfl, rfl⟩ := h
  refine gx_catch C T hNc [(0, 17, 20, 21)] (0, 17, 24, 13) [] rfl (fun z hz => by
        obtain rfl := List.mem_singleton.mp hz
        exact ⟨by decide, _, mwL_turnStandIn_h21, by decide +kernel⟩) (by decide) (by decide) mwL_turnStandIn_h13 (by decide +kernel) (fun q => ?_)
  refine g_astore C [(4, _), (0, _), (1, _), (2, _), (3, _)] dL_turnStandIn_24 (by decide) rfl ?_
  refine g_iconst (v := 2) C dL_turnStandIn_26 (by decide) ?_
  exact g_iret C F dL_turnStandIn_27 (by decide) (by decide) ⟨rfl, rfl, rfl, rfl⟩
set_option maxHeartbeats 4000000 in
set_option maxRecDepth 100000 in
theorem h_write {l : Launch} (hl : l.stackTraces = false) (Γ : gG) (σ : gS) (τ : gT) (o : gO) (nw nl lm : Nat) (a : Nat) (I : IX σ τ nw nl lm) (ha : a < nw) (h16 : nl < 16) : CtL l yL_write wsL_write 3 96 0 0 [.ref (Γ.2.1 100), .int (nI a), .ref (Γ.2.1 102)] Γ σ τ o (pE (some (.int 0)) (uS σ 9 (nI (nl + 1))) (uT (uT τ 7 nl (nI a)) 8 nl 0) (vp_updL o 0 ((nI (nl + 1)).toInt64))) := by
  refine ctL_of hl (by decide +kernel) rfl (Nat.le_of_ble_eq_true rfl) ?_
  intro E C F T hNc hΓ hL R
  subst hΓ
  subst hL
  show G E 0 0 0 [(0, .ref ((eG E).2.1 100)), (1, .int (nI a)), (2, .ref ((eG E).2.1 102))] [] σ τ o
  refine g_aload_n C dL_write_0 rfl rfl ?_
  refine g_iconst (v := 0) C dL_write_1 (by decide) ?_
  refine g_aload_n C dL_write_2 rfl rfl ?_
  refine g_iload_n C dL_write_3 rfl rfl ?_
  refine g_callVEi (Cl := RX0) (T := TX0) (N := 18) (ci := 0) (q0 := 0) (na := 1) C dL_write_4 (c_write hl (eG E) σ τ o nw nl lm a I ha h16) gL_write_X0_write rfl rfl (by decide +kernel) rfl rfl rfl (Nat.le_of_ble_eq_true rfl) (by rw [R]; exact ⟨by decide, by decide⟩) (by rw [R]; exact ⟨by decide, by decide⟩) ?_
  refine g_i2l C dL_write_7 ?_
  refine g_last C dL_write_8 ?_
  refine g_goto (tgt := 18) C dL_write_9 (by decide) ?_
  refine g_iconst (v := 0) C dL_write_18 (by decide) ?_
  exact g_iret C F dL_write_19 (by decide) (by decide) ⟨rfl, rfl, rfl, rfl⟩
set_option maxRecDepth 100000 in
theorem mwL_write_h21 : Cond.classLink RL 21 "java/lang/IndexOutOfBoundsException" ∈ wsL_write := by decide +kernel
set_option maxHeartbeats 4000000 in
set_option maxRecDepth 100000 in
theorem h_writeX {l : Launch} (hl : l.stackTraces = false) (Γ : gG) (σ : gS) (τ : gT) (o : gO) (w : Int32) (hw : w < 0 ∨ ¬ w < σ 3) : CtL l yL_write wsL_write 8 256 1 6 [.ref (Γ.2.1 100), .int w, .ref (Γ.2.1 102)] Γ σ τ o (pE (some (.int 1)) σ τ o) := by
  refine ctL_of hl (by decide +kernel) rfl (Nat.le_of_ble_eq_true rfl) ?_
  intro E C F T hNc hΓ hL R
  subst hΓ
  subst hL
  show G E 0 0 0 [(0, .ref ((eG E).2.1 100)), (1, .int w), (2, .ref ((eG E).2.1 102))] [] σ τ o
  refine g_aload_n C dL_write_0 rfl rfl ?_
  refine g_iconst (v := 0) C dL_write_1 (by decide) ?_
  refine g_aload_n C dL_write_2 rfl rfl ?_
  refine g_iload_n C dL_write_3 rfl rfl ?_
  refine g_callV (Cl := RX0) (T := TX0) (N := 18) (ci := 0) (q0 := 0) (na := 1) C dL_write_4 (c_writeX hl (eG E) σ τ o w hw) gL_write_X0_write rfl rfl (by decide +kernel) rfl rfl rfl (Nat.le_of_ble_eq_true rfl) (by rw [R]; exact ⟨by decide, by decide⟩) (by rw [R]; exact ⟨by decide, by decide⟩) (fun X σ' τ' o' h => ?_) (fun v σ' τ' o' h => h.elim)
  obtain ⟨rfl, rfl, rfl, rfl⟩ := h
  refine gx_catch C T hNc [] (0, 9, 12, 21) [(0, 9, 15, 15)] rfl (fun z hz => absurd hz List.not_mem_nil) (by decide) (by decide) mwL_write_h21 (by decide +kernel) (fun q => ?_)
  refine g_astore_n C [(3, _), (0, _), (1, _), (2, _)] dL_write_12 rfl (by decide) rfl ?_
  refine g_iconst (v := 1) C dL_write_13 (by decide) ?_
  exact g_iret C F dL_write_14 (by decide) (by decide) ⟨rfl, rfl, rfl, rfl⟩
set_option maxRecDepth 100000 in
theorem mwL_write_h15 : Cond.classLink RL 15 "java/lang/IllegalStateException" ∈ wsL_write := by decide +kernel
set_option maxHeartbeats 4000000 in
set_option maxRecDepth 100000 in
theorem h_writeY {l : Launch} (hl : l.stackTraces = false) (Γ : gG) (σ : gS) (τ : gT) (o : gO) (nw nl lm : Nat) (a : Nat) (I : IX σ τ nw nl lm) (ha : a < nw) (h16 : ¬ σ 9 < 16) : CtL l yL_write wsL_write 8 256 1 6 [.ref (Γ.2.1 100), .int (nI a), .ref (Γ.2.1 102)] Γ σ τ o (pE (some (.int 2)) σ τ o) := by
  refine ctL_of hl (by decide +kernel) rfl (Nat.le_of_ble_eq_true rfl) ?_
  intro E C F T hNc hΓ hL R
  subst hΓ
  subst hL
  show G E 0 0 0 [(0, .ref ((eG E).2.1 100)), (1, .int (nI a)), (2, .ref ((eG E).2.1 102))] [] σ τ o
  refine g_aload_n C dL_write_0 rfl rfl ?_
  refine g_iconst (v := 0) C dL_write_1 (by decide) ?_
  refine g_aload_n C dL_write_2 rfl rfl ?_
  refine g_iload_n C dL_write_3 rfl rfl ?_
  refine g_callV (Cl := RX0) (T := TX0) (N := 18) (ci := 0) (q0 := 0) (na := 1) C dL_write_4 (c_writeY hl (eG E) σ τ o nw nl lm a I ha h16) gL_write_X0_write rfl rfl (by decide +kernel) rfl rfl rfl (Nat.le_of_ble_eq_true rfl) (by rw [R]; exact ⟨by decide, by decide⟩) (by rw [R]; exact ⟨by decide, by decide⟩) (fun X σ' τ' o' h => ?_) (fun v σ' τ' o' h => h.elim)
  obtain ⟨rfl, rfl, rfl, rfl⟩ := h
  refine gx_catch C T hNc [(0, 9, 12, 21)] (0, 9, 15, 15) [] rfl (fun z hz => by
        obtain rfl := List.mem_singleton.mp hz
        exact ⟨by decide, _, mwL_write_h21, by decide +kernel⟩) (by decide) (by decide) mwL_write_h15 (by decide +kernel) (fun q => ?_)
  refine g_astore_n C [(3, _), (0, _), (1, _), (2, _)] dL_write_15 rfl (by decide) rfl ?_
  refine g_iconst (v := 2) C dL_write_16 (by decide) ?_
  exact g_iret C F dL_write_17 (by decide) (by decide) ⟨rfl, rfl, rfl, rfl⟩
set_option maxHeartbeats 4000000 in
set_option maxRecDepth 100000 in
theorem h_send {l : Launch} (hl : l.stackTraces = false) (Γ : gG) (σ : gS) (τ : gT) (o : gO) (nw nl lm : Nat) (z : Int32) (I : IX σ τ nw nl lm) (hz : ¬ z < 0 ∧ z < 4) (h0 : nl ≠ 0) : CtL l yL_send wsL_send 7 224 0 0 [.ref (Γ.2.1 100), .int z, .ref (Γ.2.1 102)] Γ σ τ o (pE (some (.int 0)) (uS (uS (uS σ 10 (σ 10 + 1)) 11 (σ 11 + CTx σ τ nl * σ 6 * (z + 2) / 2)) 9 0) τ (vp_updL o 0 ((CTx σ τ nl * σ 6 * (z + 2) / 2).toInt64))) := by
  refine ctL_of hl (by decide +kernel) rfl (Nat.le_of_ble_eq_true rfl) ?_
  intro E C F T hNc hΓ hL R
  subst hΓ
  subst hL
  show G E 0 0 0 [(0, .ref ((eG E).2.1 100)), (1, .int z), (2, .ref ((eG E).2.1 102))] [] σ τ o
  refine g_aload_n C dL_send_0 rfl rfl ?_
  refine g_iconst (v := 0) C dL_send_1 (by decide) ?_
  refine g_aload_n C dL_send_2 rfl rfl ?_
  refine g_iload_n C dL_send_3 rfl rfl ?_
  refine g_callVEi (Cl := RX0) (T := TX0) (N := 18) (ci := 0) (q0 := 0) (na := 1) C dL_send_4 (c_send hl (eG E) σ τ o nw nl lm z I hz h0) gL_send_X0_send rfl rfl (by decide +kernel) rfl rfl rfl (Nat.le_of_ble_eq_true rfl) (by rw [R]; exact ⟨by decide, by decide⟩) (by rw [R]; exact ⟨by decide, by decide⟩) ?_
  refine g_i2l C dL_send_7 ?_
  refine g_last C dL_send_8 ?_
  refine g_goto (tgt := 18) C dL_send_9 (by decide) ?_
  refine g_iconst (v := 0) C dL_send_18 (by decide) ?_
  exact g_iret C F dL_send_19 (by decide) (by decide) ⟨rfl, rfl, rfl, rfl⟩
set_option maxRecDepth 100000 in
theorem mwL_send_h21 : Cond.classLink RL 21 "java/lang/IndexOutOfBoundsException" ∈ wsL_send := by decide +kernel
set_option maxHeartbeats 4000000 in
set_option maxRecDepth 100000 in
theorem h_sendX {l : Launch} (hl : l.stackTraces = false) (Γ : gG) (σ : gS) (τ : gT) (o : gO) (z : Int32) (hz : z < 0 ∨ ¬ z < 4) : CtL l yL_send wsL_send 8 256 1 6 [.ref (Γ.2.1 100), .int z, .ref (Γ.2.1 102)] Γ σ τ o (pE (some (.int 1)) σ τ o) := by
  refine ctL_of hl (by decide +kernel) rfl (Nat.le_of_ble_eq_true rfl) ?_
  intro E C F T hNc hΓ hL R
  subst hΓ
  subst hL
  show G E 0 0 0 [(0, .ref ((eG E).2.1 100)), (1, .int z), (2, .ref ((eG E).2.1 102))] [] σ τ o
  refine g_aload_n C dL_send_0 rfl rfl ?_
  refine g_iconst (v := 0) C dL_send_1 (by decide) ?_
  refine g_aload_n C dL_send_2 rfl rfl ?_
  refine g_iload_n C dL_send_3 rfl rfl ?_
  refine g_callV (Cl := RX0) (T := TX0) (N := 18) (ci := 0) (q0 := 0) (na := 1) C dL_send_4 (c_sendX hl (eG E) σ τ o z hz) gL_send_X0_send rfl rfl (by decide +kernel) rfl rfl rfl (Nat.le_of_ble_eq_true rfl) (by rw [R]; exact ⟨by decide, by decide⟩) (by rw [R]; exact ⟨by decide, by decide⟩) (fun X σ' τ' o' h => ?_) (fun v σ' τ' o' h => h.elim)
  obtain ⟨rfl, rfl, rfl, rfl⟩ := h
  refine gx_catch C T hNc [] (0, 9, 12, 21) [(0, 9, 15, 15)] rfl (fun z hz => absurd hz List.not_mem_nil) (by decide) (by decide) mwL_send_h21 (by decide +kernel) (fun q => ?_)
  refine g_astore_n C [(3, _), (0, _), (1, _), (2, _)] dL_send_12 rfl (by decide) rfl ?_
  refine g_iconst (v := 1) C dL_send_13 (by decide) ?_
  exact g_iret C F dL_send_14 (by decide) (by decide) ⟨rfl, rfl, rfl, rfl⟩
set_option maxRecDepth 100000 in
theorem mwL_send_h15 : Cond.classLink RL 15 "java/lang/IllegalStateException" ∈ wsL_send := by decide +kernel
set_option maxHeartbeats 4000000 in
set_option maxRecDepth 100000 in
theorem h_sendY {l : Launch} (hl : l.stackTraces = false) (Γ : gG) (σ : gS) (τ : gT) (o : gO) (nw nl lm : Nat) (z : Int32) (I : IX σ τ nw nl lm) (hz : ¬ z < 0 ∧ z < 4) (h0 : nl = 0) : CtL l yL_send wsL_send 8 256 1 6 [.ref (Γ.2.1 100), .int z, .ref (Γ.2.1 102)] Γ σ τ o (pE (some (.int 2)) σ τ o) := by
  refine ctL_of hl (by decide +kernel) rfl (Nat.le_of_ble_eq_true rfl) ?_
  intro E C F T hNc hΓ hL R
  subst hΓ
  subst hL
  show G E 0 0 0 [(0, .ref ((eG E).2.1 100)), (1, .int z), (2, .ref ((eG E).2.1 102))] [] σ τ o
  refine g_aload_n C dL_send_0 rfl rfl ?_
  refine g_iconst (v := 0) C dL_send_1 (by decide) ?_
  refine g_aload_n C dL_send_2 rfl rfl ?_
  refine g_iload_n C dL_send_3 rfl rfl ?_
  refine g_callV (Cl := RX0) (T := TX0) (N := 18) (ci := 0) (q0 := 0) (na := 1) C dL_send_4 (c_sendY hl (eG E) σ τ o nw nl lm z I hz h0) gL_send_X0_send rfl rfl (by decide +kernel) rfl rfl rfl (Nat.le_of_ble_eq_true rfl) (by rw [R]; exact ⟨by decide, by decide⟩) (by rw [R]; exact ⟨by decide, by decide⟩) (fun X σ' τ' o' h => ?_) (fun v σ' τ' o' h => h.elim)
  obtain ⟨rfl, rfl, rfl, rfl⟩ := h
  refine gx_catch C T hNc [(0, 9, 12, 21)] (0, 9, 15, 15) [] rfl (fun z hz => by
        obtain rfl := List.mem_singleton.mp hz
        exact ⟨by decide, _, mwL_send_h21, by decide +kernel⟩) (by decide) (by decide) mwL_send_h15 (by decide +kernel) (fun q => ?_)
  refine g_astore_n C [(3, _), (0, _), (1, _), (2, _)] dL_send_15 rfl (by decide) rfl ?_
  refine g_iconst (v := 2) C dL_send_16 (by decide) ?_
  exact g_iret C F dL_send_17 (by decide) (by decide) ⟨rfl, rfl, rfl, rfl⟩
set_option maxHeartbeats 4000000 in
set_option maxRecDepth 100000 in
theorem h_turnJoinedOff {l : Launch} (hl : l.stackTraces = false) (Γ : gG) (σ : gS) (τ : gT) (o : gO) (nw nl lm : Nat) (p : Nat) (I : IX σ τ nw nl lm) (hp : p + 1 < nl) (hj : ¬ τ 8 p = 0) : CtL l yL_turnJoined wsL_turnJoined 4 128 0 0 [.ref (Γ.2.1 100), .int (nI p), .ref (Γ.2.1 102)] Γ σ τ o (pE (some (.int 0)) σ (uT τ 8 p 0) (vp_updL o 0 (lb (0)))) := by
  refine ctL_of hl (by decide +kernel) rfl (Nat.le_of_ble_eq_true rfl) ?_
  intro E C F T hNc hΓ hL R
  subst hΓ
  subst hL
  show G E 0 0 0 [(0, .ref ((eG E).2.1 100)), (1, .int (nI p)), (2, .ref ((eG E).2.1 102))] [] σ τ o
  refine g_aload_n C dL_turnJoined_0 rfl rfl ?_
  refine g_iconst (v := 0) C dL_turnJoined_1 (by decide) ?_
  refine g_aload_n C dL_turnJoined_2 rfl rfl ?_
  refine g_iload_n C dL_turnJoined_3 rfl rfl ?_
  refine g_callVEi (Cl := RX0) (T := TX0) (N := 18) (ci := 0) (q0 := 0) (na := 1) C dL_turnJoined_4 (c_turnJoinedOff hl (eG E) σ τ o nw nl lm p I hp hj) gL_turnJoined_X0_turnJoined rfl rfl (by decide +kernel) rfl rfl rfl (Nat.le_of_ble_eq_true rfl) (by rw [R]; exact ⟨by decide, by decide⟩) (by rw [R]; exact ⟨by decide, by decide⟩) ?_
  refine g_if_eq (tgt := 14) C dL_turnJoined_7 (by decide) (fun c_7 => ?_) (fun c_7 => ?_)
  · have e : lb (0) = 0 := if_pos c_7
    refine g_lconst (v := 0) C dL_turnJoined_14 (by decide) ?_
    refine g_last C dL_turnJoined_15 ?_
    refine g_goto (tgt := 25) C dL_turnJoined_16 (by decide) ?_
    refine g_iconst (v := 0) C dL_turnJoined_25 (by decide) ?_
    exact g_iret C F dL_turnJoined_26 (by decide) (by decide) ⟨rfl, rfl, rfl, by rw [e]⟩
  · have e : lb (0) = 1 := if_neg c_7
    refine g_lconst (v := 1) C dL_turnJoined_10 (by decide) ?_
    refine g_goto (tgt := 15) C dL_turnJoined_11 (by decide) ?_
    refine g_last C dL_turnJoined_15 ?_
    refine g_goto (tgt := 25) C dL_turnJoined_16 (by decide) ?_
    refine g_iconst (v := 0) C dL_turnJoined_25 (by decide) ?_
    exact g_iret C F dL_turnJoined_26 (by decide) (by decide) ⟨rfl, rfl, rfl, by rw [e]⟩
set_option maxHeartbeats 4000000 in
set_option maxRecDepth 100000 in
theorem h_turnJoinedOn {l : Launch} (hl : l.stackTraces = false) (Γ : gG) (σ : gS) (τ : gT) (o : gO) (nw nl lm : Nat) (p : Nat) (I : IX σ τ nw nl lm) (hp : p + 1 < nl) (hj : τ 8 p = 0) (hc : ¬ cbj (τ 2) (τ 7) (τ 8) p = 0) : CtL l yL_turnJoined wsL_turnJoined 4 128 0 0 [.ref (Γ.2.1 100), .int (nI p), .ref (Γ.2.1 102)] Γ σ τ o (pE (some (.int 0)) σ (uT τ 8 p 1) (vp_updL o 0 (lb (1)))) := by
  refine ctL_of hl (by decide +kernel) rfl (Nat.le_of_ble_eq_true rfl) ?_
  intro E C F T hNc hΓ hL R
  subst hΓ
  subst hL
  show G E 0 0 0 [(0, .ref ((eG E).2.1 100)), (1, .int (nI p)), (2, .ref ((eG E).2.1 102))] [] σ τ o
  refine g_aload_n C dL_turnJoined_0 rfl rfl ?_
  refine g_iconst (v := 0) C dL_turnJoined_1 (by decide) ?_
  refine g_aload_n C dL_turnJoined_2 rfl rfl ?_
  refine g_iload_n C dL_turnJoined_3 rfl rfl ?_
  refine g_callVEi (Cl := RX0) (T := TX0) (N := 18) (ci := 0) (q0 := 0) (na := 1) C dL_turnJoined_4 (c_turnJoinedOn hl (eG E) σ τ o nw nl lm p I hp hj hc) gL_turnJoined_X0_turnJoined rfl rfl (by decide +kernel) rfl rfl rfl (Nat.le_of_ble_eq_true rfl) (by rw [R]; exact ⟨by decide, by decide⟩) (by rw [R]; exact ⟨by decide, by decide⟩) ?_
  refine g_if_eq (tgt := 14) C dL_turnJoined_7 (by decide) (fun c_7 => ?_) (fun c_7 => ?_)
  · have e : lb (1) = 0 := if_pos c_7
    refine g_lconst (v := 0) C dL_turnJoined_14 (by decide) ?_
    refine g_last C dL_turnJoined_15 ?_
    refine g_goto (tgt := 25) C dL_turnJoined_16 (by decide) ?_
    refine g_iconst (v := 0) C dL_turnJoined_25 (by decide) ?_
    exact g_iret C F dL_turnJoined_26 (by decide) (by decide) ⟨rfl, rfl, rfl, by rw [e]⟩
  · have e : lb (1) = 1 := if_neg c_7
    refine g_lconst (v := 1) C dL_turnJoined_10 (by decide) ?_
    refine g_goto (tgt := 15) C dL_turnJoined_11 (by decide) ?_
    refine g_last C dL_turnJoined_15 ?_
    refine g_goto (tgt := 25) C dL_turnJoined_16 (by decide) ?_
    refine g_iconst (v := 0) C dL_turnJoined_25 (by decide) ?_
    exact g_iret C F dL_turnJoined_26 (by decide) (by decide) ⟨rfl, rfl, rfl, by rw [e]⟩
set_option maxRecDepth 100000 in
theorem mwL_turnJoined_h21 : Cond.classLink RL 21 "java/lang/IndexOutOfBoundsException" ∈ wsL_turnJoined := by decide +kernel
set_option maxHeartbeats 4000000 in
set_option maxRecDepth 100000 in
theorem h_turnJoinedX {l : Launch} (hl : l.stackTraces = false) (Γ : gG) (σ : gS) (τ : gT) (o : gO) (w : Int32) (hw : w < 0 ∨ ¬ w < σ 9) : CtL l yL_turnJoined wsL_turnJoined 8 256 1 6 [.ref (Γ.2.1 100), .int w, .ref (Γ.2.1 102)] Γ σ τ o (pE (some (.int 1)) σ τ o) := by
  refine ctL_of hl (by decide +kernel) rfl (Nat.le_of_ble_eq_true rfl) ?_
  intro E C F T hNc hΓ hL R
  subst hΓ
  subst hL
  show G E 0 0 0 [(0, .ref ((eG E).2.1 100)), (1, .int w), (2, .ref ((eG E).2.1 102))] [] σ τ o
  refine g_aload_n C dL_turnJoined_0 rfl rfl ?_
  refine g_iconst (v := 0) C dL_turnJoined_1 (by decide) ?_
  refine g_aload_n C dL_turnJoined_2 rfl rfl ?_
  refine g_iload_n C dL_turnJoined_3 rfl rfl ?_
  refine g_callV (Cl := RX0) (T := TX0) (N := 18) (ci := 0) (q0 := 0) (na := 1) C dL_turnJoined_4 (c_turnJoinedX hl (eG E) σ τ o w hw) gL_turnJoined_X0_turnJoined rfl rfl (by decide +kernel) rfl rfl rfl (Nat.le_of_ble_eq_true rfl) (by rw [R]; exact ⟨by decide, by decide⟩) (by rw [R]; exact ⟨by decide, by decide⟩) (fun X σ' τ' o' h => ?_) (fun v σ' τ' o' h => h.elim)
  obtain ⟨rfl, rfl, rfl, rfl⟩ := h
  refine gx_catch C T hNc [] (0, 16, 19, 21) [(0, 16, 22, 15)] rfl (fun z hz => absurd hz List.not_mem_nil) (by decide) (by decide) mwL_turnJoined_h21 (by decide +kernel) (fun q => ?_)
  refine g_astore_n C [(3, _), (0, _), (1, _), (2, _)] dL_turnJoined_19 rfl (by decide) rfl ?_
  refine g_iconst (v := 1) C dL_turnJoined_20 (by decide) ?_
  exact g_iret C F dL_turnJoined_21 (by decide) (by decide) ⟨rfl, rfl, rfl, rfl⟩
set_option maxHeartbeats 4000000 in
set_option maxRecDepth 100000 in
theorem h_turnJoinedY {l : Launch} (hl : l.stackTraces = false) (Γ : gG) (σ : gS) (τ : gT) (o : gO) (nw nl lm : Nat) (p : Nat) (I : IX σ τ nw nl lm) (hp : p + 1 = nl) : CtL l yL_turnJoined wsL_turnJoined 8 256 1 6 [.ref (Γ.2.1 100), .int (nI p), .ref (Γ.2.1 102)] Γ σ τ o (pE (some (.int 1)) σ τ o) := by
  refine ctL_of hl (by decide +kernel) rfl (Nat.le_of_ble_eq_true rfl) ?_
  intro E C F T hNc hΓ hL R
  subst hΓ
  subst hL
  show G E 0 0 0 [(0, .ref ((eG E).2.1 100)), (1, .int (nI p)), (2, .ref ((eG E).2.1 102))] [] σ τ o
  refine g_aload_n C dL_turnJoined_0 rfl rfl ?_
  refine g_iconst (v := 0) C dL_turnJoined_1 (by decide) ?_
  refine g_aload_n C dL_turnJoined_2 rfl rfl ?_
  refine g_iload_n C dL_turnJoined_3 rfl rfl ?_
  refine g_callV (Cl := RX0) (T := TX0) (N := 18) (ci := 0) (q0 := 0) (na := 1) C dL_turnJoined_4 (c_turnJoinedY hl (eG E) σ τ o nw nl lm p I hp) gL_turnJoined_X0_turnJoined rfl rfl (by decide +kernel) rfl rfl rfl (Nat.le_of_ble_eq_true rfl) (by rw [R]; exact ⟨by decide, by decide⟩) (by rw [R]; exact ⟨by decide, by decide⟩) (fun X σ' τ' o' h => ?_) (fun v σ' τ' o' h => h.elim)
  obtain ⟨rfl, rfl, rfl, rfl⟩ := h
  refine gx_catch C T hNc [] (0, 16, 19, 21) [(0, 16, 22, 15)] rfl (fun z hz => absurd hz List.not_mem_nil) (by decide) (by decide) mwL_turnJoined_h21 (by decide +kernel) (fun q => ?_)
  refine g_astore_n C [(3, _), (0, _), (1, _), (2, _)] dL_turnJoined_19 rfl (by decide) rfl ?_
  refine g_iconst (v := 1) C dL_turnJoined_20 (by decide) ?_
  exact g_iret C F dL_turnJoined_21 (by decide) (by decide) ⟨rfl, rfl, rfl, rfl⟩
set_option maxRecDepth 100000 in
theorem mwL_turnJoined_h15 : Cond.classLink RL 15 "java/lang/IllegalStateException" ∈ wsL_turnJoined := by decide +kernel
set_option maxHeartbeats 4000000 in
set_option maxRecDepth 100000 in
theorem h_turnJoinedZ {l : Launch} (hl : l.stackTraces = false) (Γ : gG) (σ : gS) (τ : gT) (o : gO) (nw nl lm : Nat) (p : Nat) (I : IX σ τ nw nl lm) (hp : p + 1 < nl) (hj : τ 8 p = 0) (hc : cbj (τ 2) (τ 7) (τ 8) p = 0) : CtL l yL_turnJoined wsL_turnJoined 8 256 1 6 [.ref (Γ.2.1 100), .int (nI p), .ref (Γ.2.1 102)] Γ σ τ o (pE (some (.int 2)) σ τ o) := by
  refine ctL_of hl (by decide +kernel) rfl (Nat.le_of_ble_eq_true rfl) ?_
  intro E C F T hNc hΓ hL R
  subst hΓ
  subst hL
  show G E 0 0 0 [(0, .ref ((eG E).2.1 100)), (1, .int (nI p)), (2, .ref ((eG E).2.1 102))] [] σ τ o
  refine g_aload_n C dL_turnJoined_0 rfl rfl ?_
  refine g_iconst (v := 0) C dL_turnJoined_1 (by decide) ?_
  refine g_aload_n C dL_turnJoined_2 rfl rfl ?_
  refine g_iload_n C dL_turnJoined_3 rfl rfl ?_
  refine g_callV (Cl := RX0) (T := TX0) (N := 18) (ci := 0) (q0 := 0) (na := 1) C dL_turnJoined_4 (c_turnJoinedZ hl (eG E) σ τ o nw nl lm p I hp hj hc) gL_turnJoined_X0_turnJoined rfl rfl (by decide +kernel) rfl rfl rfl (Nat.le_of_ble_eq_true rfl) (by rw [R]; exact ⟨by decide, by decide⟩) (by rw [R]; exact ⟨by decide, by decide⟩) (fun X σ' τ' o' h => ?_) (fun v σ' τ' o' h => h.elim)
  obtain ⟨rfl, rfl, rfl, rfl⟩ := h
  refine gx_catch C T hNc [(0, 16, 19, 21)] (0, 16, 22, 15) [] rfl (fun z hz => by
        obtain rfl := List.mem_singleton.mp hz
        exact ⟨by decide, _, mwL_turnJoined_h21, by decide +kernel⟩) (by decide) (by decide) mwL_turnJoined_h15 (by decide +kernel) (fun q => ?_)
  refine g_astore_n C [(3, _), (0, _), (1, _), (2, _)] dL_turnJoined_22 rfl (by decide) rfl ?_
  refine g_iconst (v := 2) C dL_turnJoined_23 (by decide) ?_
  exact g_iret C F dL_turnJoined_24 (by decide) (by decide) ⟨rfl, rfl, rfl, rfl⟩
set_option maxHeartbeats 4000000 in
set_option maxRecDepth 100000 in
theorem h_strike {l : Launch} (hl : l.stackTraces = false) (Γ : gG) (σ : gS) (τ : gT) (o : gO) (nw nl lm : Nat) (p : Nat) (I : IX σ τ nw nl lm) (hp : p < nl) : CtL l yL_strike wsL_strike 3 96 0 0 [.ref (Γ.2.1 100), .int (nI p), .ref (Γ.2.1 102)] Γ σ τ o (pI (fun r σ' τ' o' => r = 0 ∧ σ' = uS σ 9 (nI (nl - 1)) ∧ o' = vp_updL o 0 ((nI (nl - 1)).toInt64) ∧ SK 7 8 p (nl - 1) τ τ')) := by
  refine ctL_of hl (by decide +kernel) rfl (Nat.le_of_ble_eq_true rfl) ?_
  intro E C F T hNc hΓ hL R
  subst hΓ
  subst hL
  show G E 0 0 0 [(0, .ref ((eG E).2.1 100)), (1, .int (nI p)), (2, .ref ((eG E).2.1 102))] [] σ τ o
  refine g_aload_n C dL_strike_0 rfl rfl ?_
  refine g_iconst (v := 0) C dL_strike_1 (by decide) ?_
  refine g_aload_n C dL_strike_2 rfl rfl ?_
  refine g_iload_n C dL_strike_3 rfl rfl ?_
  refine g_callVi (Cl := RX0) (T := TX0) (N := 18) (ci := 0) (q0 := 0) (na := 1) C dL_strike_4 (c_strike hl (eG E) σ τ o nw nl lm p I hp) gL_strike_X0_strike rfl rfl (by decide +kernel) rfl rfl rfl (Nat.le_of_ble_eq_true rfl) (by rw [R]; exact ⟨by decide, by decide⟩) (by rw [R]; exact ⟨by decide, by decide⟩) noX_kx (fun r1 σ1 τ1 o1 h1 => ?_)
  obtain ⟨e0, e1, e2, h1⟩ := h1
  rw [e0, e1, e2]
  refine g_i2l C dL_strike_7 ?_
  refine g_last C dL_strike_8 ?_
  refine g_goto (tgt := 15) C dL_strike_9 (by decide) ?_
  refine g_iconst (v := 0) C dL_strike_15 (by decide) ?_
  exact g_iret C F dL_strike_16 (by decide) (by decide) ⟨_, rfl, rfl, rfl, rfl, h1⟩
set_option maxRecDepth 100000 in
theorem mwL_strike_h21 : Cond.classLink RL 21 "java/lang/IndexOutOfBoundsException" ∈ wsL_strike := by decide +kernel
set_option maxHeartbeats 4000000 in
set_option maxRecDepth 100000 in
theorem h_strikeX {l : Launch} (hl : l.stackTraces = false) (Γ : gG) (σ : gS) (τ : gT) (o : gO) (w : Int32) (hw : w < 0 ∨ ¬ w < σ 9) : CtL l yL_strike wsL_strike 8 256 1 6 [.ref (Γ.2.1 100), .int w, .ref (Γ.2.1 102)] Γ σ τ o (pE (some (.int 1)) σ τ o) := by
  refine ctL_of hl (by decide +kernel) rfl (Nat.le_of_ble_eq_true rfl) ?_
  intro E C F T hNc hΓ hL R
  subst hΓ
  subst hL
  show G E 0 0 0 [(0, .ref ((eG E).2.1 100)), (1, .int w), (2, .ref ((eG E).2.1 102))] [] σ τ o
  refine g_aload_n C dL_strike_0 rfl rfl ?_
  refine g_iconst (v := 0) C dL_strike_1 (by decide) ?_
  refine g_aload_n C dL_strike_2 rfl rfl ?_
  refine g_iload_n C dL_strike_3 rfl rfl ?_
  refine g_callV (Cl := RX0) (T := TX0) (N := 18) (ci := 0) (q0 := 0) (na := 1) C dL_strike_4 (c_strikeX hl (eG E) σ τ o w hw) gL_strike_X0_strike rfl rfl (by decide +kernel) rfl rfl rfl (Nat.le_of_ble_eq_true rfl) (by rw [R]; exact ⟨by decide, by decide⟩) (by rw [R]; exact ⟨by decide, by decide⟩) (fun X σ' τ' o' h => ?_) (fun v σ' τ' o' h => h.elim)
  obtain ⟨rfl, rfl, rfl, rfl⟩ := h
  refine gx_catch C T hNc [] (0, 9, 12, 21) [] rfl (fun z hz => absurd hz List.not_mem_nil) (by decide) (by decide) mwL_strike_h21 (by decide +kernel) (fun q => ?_)
  refine g_astore_n C [(3, _), (0, _), (1, _), (2, _)] dL_strike_12 rfl (by decide) rfl ?_
  refine g_iconst (v := 1) C dL_strike_13 (by decide) ?_
  exact g_iret C F dL_strike_14 (by decide) (by decide) ⟨rfl, rfl, rfl, rfl⟩
