/-! ANY WORLD: the world is a list of cells w, its addresses variables; cells may be made (they go in front). A script (x) may be read that lies outside. -/
abbrev jS : Type := Option (Nat × Nat × (Nat → Int32))
/-- the script outside of A: its address, its length, what it holds -/
def jX (x : jS) (A : Nat → Prop) (U : State) (H : Heap) : Prop := match x with
  | none => True
  | some (b, L, xs) => va_X b L xs U H ∧ b < H.size ∧ ¬ A b
/-- what is asked of the tables beside the words: boolean[][] stands, the Sim's constructor is a nest mate's -/
def jN (U : State) : Prop := va_AOA .boolean U ∧ va_Nw (.methodLinkNest RL 100 yX1_init RL) U
theorem jN_warm {s U : State} (h : jN s) (hW : s.WarmedH U.vm) : jN U := ⟨h.1.moved hW.alike, va_Nw.warmM hW h.2⟩
abbrev jC0 (E : gE) : ClassId := (eG E).2.2.1
abbrev jC1 (E : gE) : ClassId := (eG E).2.2.2.1
abbrev jC2 (E : gE) : ClassId := (eG E).2.2.2.2.1
def J (E : gE) (k n pc : Nat) (lv : List (Nat × Value)) (st : List Value) (w : va_W) : Prop :=
  ∀ (H : Heap) (locs : List Loc) (ls : Array Slot), va_P (eG E).1 vwCl w H → va_D (eA E) w → va_S (eA E) (eS E).heap H locs → lv_has ls (eC E).maxLocals lv →
    W (eP E) (eL E) (eE E) (eR E) (eS E) (eM E) (eV E) (eB E) (eMt E) (eC E) H locs k n (eQ E) (F0 (eM E) pc ls st)
def jC (E : gE) (cc : ByteArray) (nL : Nat) (own : String) (ws : List Cond) (x : jS) : Prop :=
  (eP E).tables.exec = Jvm.exec ∧ (eC E).code = cc ∧ (eC E).maxLocals = nL ∧ (eS E).vm.findClass own = some (eM E).cls ∧ (∀ w ∈ ws, w.before (eV E) (eS E) = true) ∧
  va_K (eG E).1 vwCl (gTy (eG E)) (eS E) ∧ (∀ q : Nat, (eS E).heap.size ≤ q → eA E q) ∧ uZ (eA E) (eS E) (eS E).heap ∧ jN (eS E) ∧ jX x (eA E) (eS E) (eS E).heap
abbrev jPost : Type := Option Value → va_W → Prop
def jQ (Γ : gG) (A : Nat → Prop) (post : jPost) : Array Value → State → Outcome → State → Prop := fun _ st oc t => (∃ (v : Option Value) (w' : va_W), oc = .returned v ∧ post v w' ∧ va_P Γ.1 vwCl w' t.heap ∧ va_K Γ.1 vwCl (gTy Γ) t ∧ va_D A w') ∧ va_F A st t
def jF (E : gE) (post : jPost) (mc ms : Nat) (ret : Option FieldType) : Prop :=
  eQ E = MQ (eB E) (jQ (eG E) (eA E) post) (eV E) (eS E) mc ms (eA E) ∧ (eMt E).locks = false ∧ (eMt E).sig.returnType = ret
def jP (Γ : gG) (w : va_W) (x : jS) (sz : Nat) (U : State) : Prop := U.heap.size = sz ∧ va_P Γ.1 vwCl w U.heap ∧ va_K Γ.1 vwCl (gTy Γ) U ∧ va_D (fun _ => True) w ∧ uZ (va_A w sz) U U.heap ∧ jN U ∧ jX x (va_A w sz) U U.heap
/-- a method's contract over any world -/
def CtJ (l : Launch) (y : MethodName) (ws : List Cond) (fr lo mc ms : Nat) (As : List Value) (Γ : gG) (x : jS) (w : va_W) (post : jPost) : Prop :=
  ∀ sz : Nat, Met l y ws { frames := fr, cells := mc, slots := ms, locals := lo } (va_Pc As (jP Γ w x sz)) (jQ Γ (va_A w sz) post) mc ms (va_A w sz)
/-- the answer v, the world w1 -/
def jE (v : Option Value) (w1 : va_W) : jPost := fun v' w' => v' = v ∧ w' = w1
theorem jX_pass {x : jS} {A B : Nat → Prop} {s U : State} {H : Heap} {locs : List Loc} (h : jX x A s s.heap) (hS : va_S A s.heap H locs) (hal : s.vm.Alike U.vm) (hU : U.heap = H) (hBA : ∀ q, B q → A q) : jX x B U U.heap := by
  match x, h with
  | none, _ => exact trivial
  | some (b, L, xs), ⟨h1, h2, h3⟩ =>
    rw [hU]
    exact ⟨va_X.moved hal (h1.kept (hS.2.1 b h2 h3)), Nat.lt_of_lt_of_le h2 hS.1, fun q => h3 (hBA b q)⟩
theorem jX_none {x : jS} {A : Nat → Prop} {s : State} {H : Heap} (_ : jX x A s H) : jX none A s H := trivial
theorem jP_blind {As : List Value} {Γ : gG} {x : jS} {sz : Nat} {w : va_W} : FrameBlind (va_Pc As (jP Γ w x sz)) := fun a U g mk q => by
  obtain ⟨q0, q1, qP, qK, qD, ⟨q2, q3, q4, q5, q6⟩, q7, q8⟩ := q
  refine ⟨q0, q1, qP, va_K.moved (u := U) (U := U.calling g mk a) (Vm.Alike.refl U.vm) qK, qD, ⟨vx_Zq.moved (u := U) (U := U.calling g mk a) (Vm.Alike.refl U.vm) q2, vx_Zq.moved (u := U) (U := U.calling g mk a) (Vm.Alike.refl U.vm) q3, fun q hq => ?_, fun X hX => va_Nw.same (u := U) (U := U.calling g mk a) rfl rfl (q5 X hX), fun x hx => va_Nw.same (u := U) (U := U.calling g mk a) rfl rfl (q6 x hx)⟩, ⟨va_AOA.moved (u := U) (U := U.calling g mk a) (Vm.Alike.refl U.vm) q7.1, va_Nw.same (u := U) (U := U.calling g mk a) rfl rfl q7.2⟩, ?_⟩
  · obtain ⟨sa, hs⟩ := q4 q hq
    exact ⟨sa, vk_R.same (u := U) (U := U.calling g mk a) rfl hs⟩
  · match x, q8 with
    | none, _ => exact trivial
    | some (b, L, xs), ⟨h1, h2, h3⟩ => exact ⟨va_X.moved (u := U) (U := U.calling g mk a) (Vm.Alike.refl U.vm) h1, h2, h3⟩
theorem jD_any {A : Nat → Prop} {w1 w2 : va_W} (h : va_D A w1) (e : w1.map Prod.fst = w2.map Prod.fst) : va_D A w2 := uD_map h e
section JR
variable {E : gE} {cc : ByteArray} {nL : Nat} {own : String} {ws : List Cond} {x : jS} {k n pc : Nat} {lv : List (Nat × Value)} {st : List Value} {w : va_W}
theorem j_iconst (C : jC E cc nL own ws x) {m : Int} {v : Int32} (d : decode cc pc = .ok (.iconst m, 1)) (hv : Int32.ofInt m = v) (kk : J E k n (pc + 1) lv (.int v :: st) w) : J E k n pc lv (st) w := fun H locs ls hP hD hS hl => lv_iconst C.1 C.2.1 d hv (kk H locs ls hP hD hS hl)
theorem j_bipush (C : jC E cc nL own ws x) {m : Int} {v : Int32} (d : decode cc pc = .ok (.bipush m, 2)) (hv : (Int8.ofInt m).toInt32 = v) (kk : J E k n (pc + 2) lv (.int v :: st) w) : J E k n pc lv (st) w := fun H locs ls hP hD hS hl => lv_bipush C.1 C.2.1 d hv (kk H locs ls hP hD hS hl)
theorem j_sipush (C : jC E cc nL own ws x) {m : Int} {v : Int32} (d : decode cc pc = .ok (.sipush m, 3)) (hv : (Int16.ofInt m).toInt32 = v) (kk : J E k n (pc + 3) lv (.int v :: st) w) : J E k n pc lv (st) w := fun H locs ls hP hD hS hl => lv_sipush C.1 C.2.1 d hv (kk H locs ls hP hD hS hl)
theorem j_lconst (C : jC E cc nL own ws x) {m : Fin 2} {v : Int64} (d : decode cc pc = .ok (.lconst m, 1)) (hv : Int64.ofNat (m : Nat) = v) (kk : J E k n (pc + 1) lv (.long v :: st) w) : J E k n pc lv (st) w := fun H locs ls hP hD hS hl => lv_lconst C.1 C.2.1 d hv (kk H locs ls hP hD hS hl)
theorem j_dconst0 (C : jC E cc nL own ws x)  (d : decode cc pc = .ok (.dconst 0, 1)) (kk : J E k n (pc + 1) lv (.double FP.dconst0 :: st) w) : J E k n pc lv (st) w := fun H locs ls hP hD hS hl => lv_dconst0 C.1 C.2.1 d (kk H locs ls hP hD hS hl)
theorem j_ldc (C : jC E cc nL own ws x) {idx : Nat} {v : Int32} (d : decode cc pc = .ok (.ldc idx, 2)) (hw : Cond.constant own idx v ∈ ws) (kk : J E k n (pc + 2) lv (.int v :: st) w) : J E k n pc lv (st) w := fun H locs ls hP hD hS hl => lv_ldc C.1 C.2.1 C.2.2.2.1 (C.2.2.2.2.1 _ hw) d (kk H locs ls hP hD hS hl)
theorem j_ldc2 (C : jC E cc nL own ws x) {idx : Nat} {v : Int64} (d : decode cc pc = .ok (.ldc2_w idx, 3)) (hw : Cond.constantLong own idx v ∈ ws) (kk : J E k n (pc + 3) lv (.long v :: st) w) : J E k n pc lv (st) w := fun H locs ls hP hD hS hl => lv_ldc2 C.1 C.2.1 C.2.2.2.1 (C.2.2.2.2.1 _ hw) d (kk H locs ls hP hD hS hl)
theorem j_iload_n (C : jC E cc nL own ws x) {j : Fin 4} {i : Nat} {y : Int32} (d : decode cc pc = .ok (.iload_n j, 1)) (hi : (j : Nat) = i) (h : lvg lv i = some (.int y)) (kk : J E k n (pc + 1) lv (.int y :: st) w) : J E k n pc lv (st) w := fun H locs ls hP hD hS hl => lv_iload_n C.1 C.2.1 d hi (lvg_at hl h) (kk H locs ls hP hD hS hl)
theorem j_iload (C : jC E cc nL own ws x) {i : Nat} {y : Int32} (d : decode cc pc = .ok (.iload i, 2)) (h : lvg lv i = some (.int y)) (kk : J E k n (pc + 2) lv (.int y :: st) w) : J E k n pc lv (st) w := fun H locs ls hP hD hS hl => lv_iload C.1 C.2.1 d (lvg_at hl h) (kk H locs ls hP hD hS hl)
theorem j_istore_n (C : jC E cc nL own ws x) {j : Fin 4} {i : Nat} {y : Int32} (lv' : List (Nat × Value)) (d : decode cc pc = .ok (.istore_n j, 1)) (hi : (j : Nat) = i) (hn : i < nL) (he : (i, Value.int y) :: lv.filter (fun q => !(q.1 == i) && !(q.1 + 1 == i && q.2.category == 2)) = lv') (kk : J E k n (pc + 1) lv' st w) : J E k n pc lv (.int y :: st) w := fun H locs ls hP hD hS hl => lv_istore_n C.1 C.2.1 d hi hl (by rw [C.2.2.1]; exact hn) he (fun ls' hl' => kk H locs ls' hP hD hS hl')
theorem j_istore (C : jC E cc nL own ws x) {i : Nat} {y : Int32} (lv' : List (Nat × Value)) (d : decode cc pc = .ok (.istore i, 2)) (hn : i < nL) (he : (i, Value.int y) :: lv.filter (fun q => !(q.1 == i) && !(q.1 + 1 == i && q.2.category == 2)) = lv') (kk : J E k n (pc + 2) lv' st w) : J E k n pc lv (.int y :: st) w := fun H locs ls hP hD hS hl => lv_istore C.1 C.2.1 d hl (by rw [C.2.2.1]; exact hn) he (fun ls' hl' => kk H locs ls' hP hD hS hl')
theorem j_lload_n (C : jC E cc nL own ws x) {j : Fin 4} {i : Nat} {y : Int64} (d : decode cc pc = .ok (.lload_n j, 1)) (hi : (j : Nat) = i) (h : lvg lv i = some (.long y)) (kk : J E k n (pc + 1) lv (.long y :: st) w) : J E k n pc lv (st) w := fun H locs ls hP hD hS hl => lv_lload_n C.1 C.2.1 d hi (lvg_at hl h) (kk H locs ls hP hD hS hl)
theorem j_lload (C : jC E cc nL own ws x) {i : Nat} {y : Int64} (d : decode cc pc = .ok (.lload i, 2)) (h : lvg lv i = some (.long y)) (kk : J E k n (pc + 2) lv (.long y :: st) w) : J E k n pc lv (st) w := fun H locs ls hP hD hS hl => lv_lload C.1 C.2.1 d (lvg_at hl h) (kk H locs ls hP hD hS hl)
theorem j_lstore_n (C : jC E cc nL own ws x) {j : Fin 4} {i : Nat} {y : Int64} (lv' : List (Nat × Value)) (d : decode cc pc = .ok (.lstore_n j, 1)) (hi : (j : Nat) = i) (hn : i + 1 < nL) (he : (i, Value.long y) :: lv.filter (fun q => !(q.1 == i) && (!(q.1 == i + 1) && !(q.1 + 1 == i && q.2.category == 2))) = lv') (kk : J E k n (pc + 1) lv' st w) : J E k n pc lv (.long y :: st) w := fun H locs ls hP hD hS hl => lv_lstore_n C.1 C.2.1 d hi hl (by rw [C.2.2.1]; exact hn) he (fun ls' hl' => kk H locs ls' hP hD hS hl')
theorem j_lstore (C : jC E cc nL own ws x) {i : Nat} {y : Int64} (lv' : List (Nat × Value)) (d : decode cc pc = .ok (.lstore i, 2)) (hn : i + 1 < nL) (he : (i, Value.long y) :: lv.filter (fun q => !(q.1 == i) && (!(q.1 == i + 1) && !(q.1 + 1 == i && q.2.category == 2))) = lv') (kk : J E k n (pc + 2) lv' st w) : J E k n pc lv (.long y :: st) w := fun H locs ls hP hD hS hl => lv_lstore C.1 C.2.1 d hl (by rw [C.2.2.1]; exact hn) he (fun ls' hl' => kk H locs ls' hP hD hS hl')
theorem j_aload_n (C : jC E cc nL own ws x) {j : Fin 4} {i : Nat} {y : Nat} (d : decode cc pc = .ok (.aload_n j, 1)) (hi : (j : Nat) = i) (h : lvg lv i = some (.ref y)) (kk : J E k n (pc + 1) lv (.ref y :: st) w) : J E k n pc lv (st) w := fun H locs ls hP hD hS hl => lv_aload_n C.1 C.2.1 d hi (lvg_at hl h) (kk H locs ls hP hD hS hl)
theorem j_aload (C : jC E cc nL own ws x) {i : Nat} {y : Nat} (d : decode cc pc = .ok (.aload i, 2)) (h : lvg lv i = some (.ref y)) (kk : J E k n (pc + 2) lv (.ref y :: st) w) : J E k n pc lv (st) w := fun H locs ls hP hD hS hl => lv_aload C.1 C.2.1 d (lvg_at hl h) (kk H locs ls hP hD hS hl)
theorem j_astore_n (C : jC E cc nL own ws x) {j : Fin 4} {i : Nat} {y : Nat} (lv' : List (Nat × Value)) (d : decode cc pc = .ok (.astore_n j, 1)) (hi : (j : Nat) = i) (hn : i < nL) (he : (i, Value.ref y) :: lv.filter (fun q => !(q.1 == i) && !(q.1 + 1 == i && q.2.category == 2)) = lv') (kk : J E k n (pc + 1) lv' st w) : J E k n pc lv (.ref y :: st) w := fun H locs ls hP hD hS hl => lv_astore_n C.1 C.2.1 d hi hl (by rw [C.2.2.1]; exact hn) he (fun ls' hl' => kk H locs ls' hP hD hS hl')
theorem j_astore (C : jC E cc nL own ws x) {i : Nat} {y : Nat} (lv' : List (Nat × Value)) (d : decode cc pc = .ok (.astore i, 2)) (hn : i < nL) (he : (i, Value.ref y) :: lv.filter (fun q => !(q.1 == i) && !(q.1 + 1 == i && q.2.category == 2)) = lv') (kk : J E k n (pc + 2) lv' st w) : J E k n pc lv (.ref y :: st) w := fun H locs ls hP hD hS hl => lv_astore C.1 C.2.1 d hl (by rw [C.2.2.1]; exact hn) he (fun ls' hl' => kk H locs ls' hP hD hS hl')
theorem j_dload_n (C : jC E cc nL own ws x) {j : Fin 4} {i : Nat} {y : UInt64} (d : decode cc pc = .ok (.dload_n j, 1)) (hi : (j : Nat) = i) (h : lvg lv i = some (.double y)) (kk : J E k n (pc + 1) lv (.double y :: st) w) : J E k n pc lv (st) w := fun H locs ls hP hD hS hl => lv_dload_n C.1 C.2.1 d hi (lvg_at hl h) (kk H locs ls hP hD hS hl)
theorem j_dload (C : jC E cc nL own ws x) {i : Nat} {y : UInt64} (d : decode cc pc = .ok (.dload i, 2)) (h : lvg lv i = some (.double y)) (kk : J E k n (pc + 2) lv (.double y :: st) w) : J E k n pc lv (st) w := fun H locs ls hP hD hS hl => lv_dload C.1 C.2.1 d (lvg_at hl h) (kk H locs ls hP hD hS hl)
theorem j_dstore_n (C : jC E cc nL own ws x) {j : Fin 4} {i : Nat} {y : UInt64} (lv' : List (Nat × Value)) (d : decode cc pc = .ok (.dstore_n j, 1)) (hi : (j : Nat) = i) (hn : i + 1 < nL) (he : (i, Value.double y) :: lv.filter (fun q => !(q.1 == i) && (!(q.1 == i + 1) && !(q.1 + 1 == i && q.2.category == 2))) = lv') (kk : J E k n (pc + 1) lv' st w) : J E k n pc lv (.double y :: st) w := fun H locs ls hP hD hS hl => lv_dstore_n C.1 C.2.1 d hi hl (by rw [C.2.2.1]; exact hn) he (fun ls' hl' => kk H locs ls' hP hD hS hl')
theorem j_dstore (C : jC E cc nL own ws x) {i : Nat} {y : UInt64} (lv' : List (Nat × Value)) (d : decode cc pc = .ok (.dstore i, 2)) (hn : i + 1 < nL) (he : (i, Value.double y) :: lv.filter (fun q => !(q.1 == i) && (!(q.1 == i + 1) && !(q.1 + 1 == i && q.2.category == 2))) = lv') (kk : J E k n (pc + 2) lv' st w) : J E k n pc lv (.double y :: st) w := fun H locs ls hP hD hS hl => lv_dstore C.1 C.2.1 d hl (by rw [C.2.2.1]; exact hn) he (fun ls' hl' => kk H locs ls' hP hD hS hl')
theorem j_iinc (C : jC E cc nL own ws x) {i : Nat} {m : Int} {y v : Int32} (j : Nat) (lv' : List (Nat × Value)) (d : decode cc pc = .ok (.iinc i m, 3)) (hj : lv[j]? = some (i, .int y)) (hv : y + Int32.ofInt m = v) (hn : i < nL) (he : (i, Value.int v) :: lv.filter (fun q => !(q.1 == i) && !(q.1 + 1 == i && q.2.category == 2)) = lv') (kk : J E k n (pc + 3) lv' st w) : J E k n pc lv st w := fun H locs ls hP hD hS hl => lv_iinc C.1 C.2.1 d hl hj hv (by rw [C.2.2.1]; exact hn) he (fun ls' hl' => kk H locs ls' hP hD hS hl')
/-- fewer locals, in another order -/
theorem j_lv (ks : List Nat) (lv' : List (Nat × Value)) (he : lv_pick lv ks = lv') (kk : J E k n pc lv' st w) : J E k n pc lv st w := fun H locs ls hP hD hS hl => kk H locs ls hP hD hS (lv_sub hl ks he)
theorem j_wide (k' n' : Nat) (h1 : k ≤ k') (h2 : n ≤ n') (kk : J E k' n' pc lv st w) : J E k n pc lv st w := fun H locs ls hP hD hS hl => W.widen h1 h2 (kk H locs ls hP hD hS hl)
theorem j_eqw {w' : va_W} (e : w = w') (kk : J E k n pc lv st w') : J E k n pc lv st w := by rw [e]; exact kk
theorem j_topi {a b : Int32} (h : a = b) (kk : J E k n pc lv (.int b :: st) w) : J E k n pc lv (.int a :: st) w := by rw [h]; exact kk
theorem j_topl {a b : Int64} (h : a = b) (kk : J E k n pc lv (.long b :: st) w) : J E k n pc lv (.long a :: st) w := by rw [h]; exact kk
/-- other places of the literal front (fewer, too) -/
theorem j_part {X cx pl : va_W} (is : List Nat) (hn : va_nd is = true) (hs : is.map (fun i => X[i]?) = cx.map some) (kk : J E k n pc lv st (cx ++ pl)) : J E k n pc lv st (X ++ pl) := fun H locs ls hP hD hS hl => kk H locs ls (hP.part is hs) (hD.part is hn hs) hS hl
theorem j_swap {a b c : va_W} (kk : J E k n pc lv st (b ++ (a ++ c))) : J E k n pc lv st (a ++ (b ++ c)) := fun H locs ls hP hD hS hl => by
  refine kk H locs ls ?_ ?_ hS hl
  · have h1 : va_P (eG E).1 vwCl (([] ++ a) ++ (b ++ c)) H := hP
    have h2 : va_P (eG E).1 vwCl (((b ++ c) ++ []) ++ a) H := (va_P.swap h1).by id (fun q r h => by simpa using h)
    have h3 : va_P (eG E).1 vwCl ((b ++ c) ++ a) H := by simpa using h2
    have h4 := va_P.swap h3
    rw [List.append_assoc] at h4
    exact h4
  · have h1 : va_D (eA E) (([] ++ a) ++ (b ++ c)) := hD
    have h2 : va_D (eA E) (([] ++ (b ++ c)) ++ a) := va_D.swap h1
    have h3 : va_D (eA E) ((b ++ c) ++ a) := h2
    have h4 := va_D.swap h3
    rw [List.append_assoc] at h4
    exact h4
/-- the cell in front is forgotten -/
theorem j_drop {a : Nat × va_E} {c : va_W} (kk : J E k n pc lv st c) : J E k n pc lv st (a :: c) := j_part (X := [a]) (cx := []) (pl := c) [] rfl rfl kk
theorem j_iadd (C : jC E cc nL own ws x) {y z : Int32} (d : decode cc pc = .ok (.iadd, 1)) (kk : J E k n (pc + 1) lv (.int (y + z) :: st) w) : J E k n pc lv (.int z :: .int y :: st) w := fun H locs ls hP hD hS hl => lv_iadd C.1 C.2.1 d (kk H locs ls hP hD hS hl)
theorem j_isub (C : jC E cc nL own ws x) {y z : Int32} (d : decode cc pc = .ok (.isub, 1)) (kk : J E k n (pc + 1) lv (.int (y - z) :: st) w) : J E k n pc lv (.int z :: .int y :: st) w := fun H locs ls hP hD hS hl => lv_isub C.1 C.2.1 d (kk H locs ls hP hD hS hl)
theorem j_imul (C : jC E cc nL own ws x) {y z : Int32} (d : decode cc pc = .ok (.imul, 1)) (kk : J E k n (pc + 1) lv (.int (y * z) :: st) w) : J E k n pc lv (.int z :: .int y :: st) w := fun H locs ls hP hD hS hl => lv_imul C.1 C.2.1 d (kk H locs ls hP hD hS hl)
theorem j_iand (C : jC E cc nL own ws x) {y z : Int32} (d : decode cc pc = .ok (.iand, 1)) (kk : J E k n (pc + 1) lv (.int (y &&& z) :: st) w) : J E k n pc lv (.int z :: .int y :: st) w := fun H locs ls hP hD hS hl => lv_iand C.1 C.2.1 d (kk H locs ls hP hD hS hl)
theorem j_ior (C : jC E cc nL own ws x) {y z : Int32} (d : decode cc pc = .ok (.ior, 1)) (kk : J E k n (pc + 1) lv (.int (y ||| z) :: st) w) : J E k n pc lv (.int z :: .int y :: st) w := fun H locs ls hP hD hS hl => lv_ior C.1 C.2.1 d (kk H locs ls hP hD hS hl)
theorem j_ixor (C : jC E cc nL own ws x) {y z : Int32} (d : decode cc pc = .ok (.ixor, 1)) (kk : J E k n (pc + 1) lv (.int (y ^^^ z) :: st) w) : J E k n pc lv (.int z :: .int y :: st) w := fun H locs ls hP hD hS hl => lv_ixor C.1 C.2.1 d (kk H locs ls hP hD hS hl)
theorem j_ishl (C : jC E cc nL own ws x) {y z : Int32} (d : decode cc pc = .ok (.ishl, 1)) (kk : J E k n (pc + 1) lv (.int (y <<< (z &&& 31)) :: st) w) : J E k n pc lv (.int z :: .int y :: st) w := fun H locs ls hP hD hS hl => lv_ishl C.1 C.2.1 d (kk H locs ls hP hD hS hl)
theorem j_ishr (C : jC E cc nL own ws x) {y z : Int32} (d : decode cc pc = .ok (.ishr, 1)) (kk : J E k n (pc + 1) lv (.int (y >>> (z &&& 31)) :: st) w) : J E k n pc lv (.int z :: .int y :: st) w := fun H locs ls hP hD hS hl => lv_ishr C.1 C.2.1 d (kk H locs ls hP hD hS hl)
theorem j_idiv (C : jC E cc nL own ws x) {y z : Int32} (d : decode cc pc = .ok (.idiv, 1)) (hne : ¬ z = 0) (kk : J E k n (pc + 1) lv (.int (y / z) :: st) w) : J E k n pc lv (.int z :: .int y :: st) w := fun H locs ls hP hD hS hl => lv_idiv C.1 C.2.1 d hne (kk H locs ls hP hD hS hl)
theorem j_irem (C : jC E cc nL own ws x) {y z : Int32} (d : decode cc pc = .ok (.irem, 1)) (hne : ¬ z = 0) (kk : J E k n (pc + 1) lv (.int (y - y / z * z) :: st) w) : J E k n pc lv (.int z :: .int y :: st) w := fun H locs ls hP hD hS hl => lv_irem C.1 C.2.1 d hne (kk H locs ls hP hD hS hl)
theorem j_ladd (C : jC E cc nL own ws x) {y z : Int64} (d : decode cc pc = .ok (.ladd, 1)) (kk : J E k n (pc + 1) lv (.long (y + z) :: st) w) : J E k n pc lv (.long z :: .long y :: st) w := fun H locs ls hP hD hS hl => lv_ladd C.1 C.2.1 d (kk H locs ls hP hD hS hl)
theorem j_lmul (C : jC E cc nL own ws x) {y z : Int64} (d : decode cc pc = .ok (.lmul, 1)) (kk : J E k n (pc + 1) lv (.long (y * z) :: st) w) : J E k n pc lv (.long z :: .long y :: st) w := fun H locs ls hP hD hS hl => lv_lmul C.1 C.2.1 d (kk H locs ls hP hD hS hl)
theorem j_i2l (C : jC E cc nL own ws x) {y : Int32} (d : decode cc pc = .ok (.i2l, 1)) (kk : J E k n (pc + 1) lv (.long y.toInt64 :: st) w) : J E k n pc lv (.int y :: st) w := fun H locs ls hP hD hS hl => lv_i2l C.1 C.2.1 d rfl (kk H locs ls hP hD hS hl)
theorem j_i2d (C : jC E cc nL own ws x) {y : Int32} (d : decode cc pc = .ok (.i2d, 1)) (kk : J E k n (pc + 1) lv (.double (FP.i2d y) :: st) w) : J E k n pc lv (.int y :: st) w := fun H locs ls hP hD hS hl => lv_i2d C.1 C.2.1 d (kk H locs ls hP hD hS hl)
theorem j_ddiv (C : jC E cc nL own ws x) {y z : UInt64} (d : decode cc pc = .ok (.ddiv, 1)) (hne : vf_n64 (FP.ddiv y z)) (kk : J E k n (pc + 1) lv (.double (FP.ddiv y z) :: st) w) : J E k n pc lv (.double z :: .double y :: st) w := fun H locs ls hP hD hS hl => lv_ddiv C.1 C.2.1 d hne (kk H locs ls hP hD hS hl)
theorem j_dcmp (C : jC E cc nL own ws x) {y z : UInt64} {op : CmpOp} (d : decode cc pc = .ok (.dcmp op, 1)) (kk : J E k n (pc + 1) lv (.int (Op.cmpValue (FP.dcmp y z) op) :: st) w) : J E k n pc lv (.double z :: .double y :: st) w := fun H locs ls hP hD hS hl => lv_dcmp C.1 C.2.1 d (kk H locs ls hP hD hS hl)
theorem j_dup (C : jC E cc nL own ws x) {v : Value} (d : decode cc pc = .ok (.dup, 1)) (hc : v.category = 1) (kk : J E k n (pc + 1) lv (v :: v :: st) w) : J E k n pc lv (v :: st) w := fun H locs ls hP hD hS hl => lv_dup C.1 C.2.1 d hc (kk H locs ls hP hD hS hl)
theorem j_pop (C : jC E cc nL own ws x) {v : Value} (d : decode cc pc = .ok (.pop, 1)) (hc : v.category = 1) (kk : J E k n (pc + 1) lv (st) w) : J E k n pc lv (v :: st) w := fun H locs ls hP hD hS hl => lv_pop C.1 C.2.1 d hc (kk H locs ls hP hD hS hl)
theorem j_if_eq (C : jC E cc nL own ws x) {y : Int32} {off : Int} {tgt : Nat} (d : decode cc pc = .ok (.ifCond .eq off, 3)) (ht : (pc : Int) + off = (tgt : Int)) (kt : y = 0 → J E k n tgt lv st w) (kf : ¬ y = 0 → J E k n (pc + 3) lv st w) : J E k n pc lv (.int y :: st) w := fun H locs ls hP hD hS hl => lv_if_eq C.1 C.2.1 d ht (fun h => kt h H locs ls hP hD hS hl) (fun h => kf h H locs ls hP hD hS hl)
theorem j_if_ne (C : jC E cc nL own ws x) {y : Int32} {off : Int} {tgt : Nat} (d : decode cc pc = .ok (.ifCond .ne off, 3)) (ht : (pc : Int) + off = (tgt : Int)) (kt : ¬ y = 0 → J E k n tgt lv st w) (kf : y = 0 → J E k n (pc + 3) lv st w) : J E k n pc lv (.int y :: st) w := fun H locs ls hP hD hS hl => lv_if_ne C.1 C.2.1 d ht (fun h => kt h H locs ls hP hD hS hl) (fun h => kf h H locs ls hP hD hS hl)
theorem j_if_lt (C : jC E cc nL own ws x) {y : Int32} {off : Int} {tgt : Nat} (d : decode cc pc = .ok (.ifCond .lt off, 3)) (ht : (pc : Int) + off = (tgt : Int)) (kt : y < 0 → J E k n tgt lv st w) (kf : ¬ y < 0 → J E k n (pc + 3) lv st w) : J E k n pc lv (.int y :: st) w := fun H locs ls hP hD hS hl => lv_if_lt C.1 C.2.1 d ht (fun h => kt h H locs ls hP hD hS hl) (fun h => kf h H locs ls hP hD hS hl)
theorem j_if_ge (C : jC E cc nL own ws x) {y : Int32} {off : Int} {tgt : Nat} (d : decode cc pc = .ok (.ifCond .ge off, 3)) (ht : (pc : Int) + off = (tgt : Int)) (kt : 0 ≤ y → J E k n tgt lv st w) (kf : ¬ 0 ≤ y → J E k n (pc + 3) lv st w) : J E k n pc lv (.int y :: st) w := fun H locs ls hP hD hS hl => lv_if_ge C.1 C.2.1 d ht (fun h => kt h H locs ls hP hD hS hl) (fun h => kf h H locs ls hP hD hS hl)
theorem j_if_gt (C : jC E cc nL own ws x) {y : Int32} {off : Int} {tgt : Nat} (d : decode cc pc = .ok (.ifCond .gt off, 3)) (ht : (pc : Int) + off = (tgt : Int)) (kt : 0 < y → J E k n tgt lv st w) (kf : ¬ 0 < y → J E k n (pc + 3) lv st w) : J E k n pc lv (.int y :: st) w := fun H locs ls hP hD hS hl => lv_if_gt C.1 C.2.1 d ht (fun h => kt h H locs ls hP hD hS hl) (fun h => kf h H locs ls hP hD hS hl)
theorem j_if_le (C : jC E cc nL own ws x) {y : Int32} {off : Int} {tgt : Nat} (d : decode cc pc = .ok (.ifCond .le off, 3)) (ht : (pc : Int) + off = (tgt : Int)) (kt : y ≤ 0 → J E k n tgt lv st w) (kf : ¬ y ≤ 0 → J E k n (pc + 3) lv st w) : J E k n pc lv (.int y :: st) w := fun H locs ls hP hD hS hl => lv_if_le C.1 C.2.1 d ht (fun h => kt h H locs ls hP hD hS hl) (fun h => kf h H locs ls hP hD hS hl)
theorem j_icmp_eq (C : jC E cc nL own ws x) {y z : Int32} {off : Int} {tgt : Nat} (d : decode cc pc = .ok (.if_icmp .eq off, 3)) (ht : (pc : Int) + off = (tgt : Int)) (kt : y = z → J E k n tgt lv st w) (kf : ¬ y = z → J E k n (pc + 3) lv st w) : J E k n pc lv (.int z :: .int y :: st) w := fun H locs ls hP hD hS hl => lv_icmp_eq C.1 C.2.1 d ht (fun h => kt h H locs ls hP hD hS hl) (fun h => kf h H locs ls hP hD hS hl)
theorem j_icmp_ne (C : jC E cc nL own ws x) {y z : Int32} {off : Int} {tgt : Nat} (d : decode cc pc = .ok (.if_icmp .ne off, 3)) (ht : (pc : Int) + off = (tgt : Int)) (kt : ¬ y = z → J E k n tgt lv st w) (kf : y = z → J E k n (pc + 3) lv st w) : J E k n pc lv (.int z :: .int y :: st) w := fun H locs ls hP hD hS hl => lv_icmp_ne C.1 C.2.1 d ht (fun h => kt h H locs ls hP hD hS hl) (fun h => kf h H locs ls hP hD hS hl)
theorem j_icmp_lt (C : jC E cc nL own ws x) {y z : Int32} {off : Int} {tgt : Nat} (d : decode cc pc = .ok (.if_icmp .lt off, 3)) (ht : (pc : Int) + off = (tgt : Int)) (kt : y < z → J E k n tgt lv st w) (kf : ¬ y < z → J E k n (pc + 3) lv st w) : J E k n pc lv (.int z :: .int y :: st) w := fun H locs ls hP hD hS hl => lv_icmp_lt C.1 C.2.1 d ht (fun h => kt h H locs ls hP hD hS hl) (fun h => kf h H locs ls hP hD hS hl)
theorem j_icmp_ge (C : jC E cc nL own ws x) {y z : Int32} {off : Int} {tgt : Nat} (d : decode cc pc = .ok (.if_icmp .ge off, 3)) (ht : (pc : Int) + off = (tgt : Int)) (kt : z ≤ y → J E k n tgt lv st w) (kf : ¬ z ≤ y → J E k n (pc + 3) lv st w) : J E k n pc lv (.int z :: .int y :: st) w := fun H locs ls hP hD hS hl => lv_icmp_ge C.1 C.2.1 d ht (fun h => kt h H locs ls hP hD hS hl) (fun h => kf h H locs ls hP hD hS hl)
theorem j_icmp_gt (C : jC E cc nL own ws x) {y z : Int32} {off : Int} {tgt : Nat} (d : decode cc pc = .ok (.if_icmp .gt off, 3)) (ht : (pc : Int) + off = (tgt : Int)) (kt : z < y → J E k n tgt lv st w) (kf : ¬ z < y → J E k n (pc + 3) lv st w) : J E k n pc lv (.int z :: .int y :: st) w := fun H locs ls hP hD hS hl => lv_icmp_gt C.1 C.2.1 d ht (fun h => kt h H locs ls hP hD hS hl) (fun h => kf h H locs ls hP hD hS hl)
theorem j_icmp_le (C : jC E cc nL own ws x) {y z : Int32} {off : Int} {tgt : Nat} (d : decode cc pc = .ok (.if_icmp .le off, 3)) (ht : (pc : Int) + off = (tgt : Int)) (kt : y ≤ z → J E k n tgt lv st w) (kf : ¬ y ≤ z → J E k n (pc + 3) lv st w) : J E k n pc lv (.int z :: .int y :: st) w := fun H locs ls hP hD hS hl => lv_icmp_le C.1 C.2.1 d ht (fun h => kt h H locs ls hP hD hS hl) (fun h => kf h H locs ls hP hD hS hl)
theorem j_goto (C : jC E cc nL own ws x) {off : Int} {tgt : Nat} (d : decode cc pc = .ok (.goto off, 3)) (ht : (pc : Int) + off = (tgt : Int)) (kk : J E k n tgt lv st w) : J E k n pc lv st w := fun H locs ls hP hD hS hl => lv_goto C.1 C.2.1 d ht (kk H locs ls hP hD hS hl)
theorem j_nonnull (C : jC E cc nL own ws x) {b : Nat} {off : Int} {tgt : Nat} (d : decode cc pc = .ok (.ifnonnull off, 3)) (ht : (pc : Int) + off = (tgt : Int)) (kk : J E k n tgt lv st w) : J E k n pc lv (.ref b :: st) w := fun H locs ls hP hD hS hl => lv_ifnonnull C.1 C.2.1 d ht (kk H locs ls hP hD hS hl)
theorem j_tableIn (C : jC E cc nL own ws x) {dflt lo hi : Int} {offs : Array Int} {len : Nat} {y : Int32} {off : Int} {tgt : Nat} (d : decode cc pc = .ok (.tableswitch dflt lo hi offs, len)) (h1 : ¬ y.toInt < lo) (h2 : ¬ hi < y.toInt) (ho : offs[(y.toInt - lo).toNat]? = some off) (ht : (pc : Int) + off = (tgt : Int)) (kk : J E k n tgt lv st w) : J E k n pc lv (.int y :: st) w := fun H locs ls hP hD hS hl => lv_tableIn C.1 C.2.1 d h1 h2 ho ht (kk H locs ls hP hD hS hl)
theorem j_tableOut (C : jC E cc nL own ws x) {dflt lo hi : Int} {offs : Array Int} {len : Nat} {y : Int32} {tgt : Nat} (d : decode cc pc = .ok (.tableswitch dflt lo hi offs, len)) (h : y.toInt < lo ∨ hi < y.toInt) (ht : (pc : Int) + dflt = (tgt : Int)) (kk : J E k n tgt lv st w) : J E k n pc lv (.int y :: st) w := fun H locs ls hP hD hS hl => lv_tableOut C.1 C.2.1 d h ht (kk H locs ls hP hD hS hl)
theorem j_lcmp (C : jC E cc nL own ws x) {y z : Int64} (d : decode cc pc = .ok (.lcmp, 1)) (kk : J E k n (pc + 1) lv (.int (lg_cmp y z) :: st) w) : J E k n pc lv (.long z :: .long y :: st) w := fun H locs ls hP hD hS hl => W.lcmp C.1 C.2.1 d (kk H locs ls hP hD hS hl)
/-- a field of a Sim at place p -/
theorem j_get (C : jC E cc nL own ws x) {idx : Nat} (p c : Nat) {b : Nat} {fs : List Value} {v : Value} (d : decode cc pc = .ok (.getfield idx, 3)) (hin : ∀ w ∈ wsX10, w ∈ ws) (hk : c < 11) (hw : Cond.fieldLink own idx RX1 (TX1 c).2.1 (TX1 c).2.2.1 ∈ ws) (hT : (TX1 c).1 = RX1) (he : w[p]? = some (b, .inr (1, fs))) (hv : fs[c]? = some v) (kk : J E k n (pc + 3) lv (v :: st) w) : J E k n pc lv (.ref b :: st) w := fun H locs ls hP hD hS hl =>
  va_get (D := (eG E).1) (cl := vwCl) (C := RX1) (T := TX1) (N := 11) (ci := 1) (ref := RX1) C.1 C.2.1 C.2.2.2.2.1 hin C.2.2.2.1 C.2.2.2.2.2.1 hP p he rfl c hk (C.2.2.2.2.1 _ hw) (fun _ h => by rw [← hT]; exact h) hv d (kk H locs ls hP hD hS hl)
theorem j_put (C : jC E cc nL own ws x) {idx : Nat} (p c : Nat) {b : Nat} {fs : List Value} {v : Value} {ty : FieldType} {w' : va_W} (d : decode cc pc = .ok (.putfield idx, 3)) (hin : ∀ w ∈ wsX10, w ∈ ws) (hk : c < 11) (hw : Cond.fieldLink own idx RX1 (TX1 c).2.1 (TX1 c).2.2.1 ∈ ws) (hT : (TX1 c).1 = RX1) (hf : (TX1 c).2.2.2 = false) (he : w[p]? = some (b, .inr (1, fs))) (hd : parseFieldDescriptor (TX1 c).2.2.1 = some ty) (hn : narrow ty v = v) (hfit : fits ty v = true) (hlen : c < fs.length) (hw' : w.set p (b, .inr (1, fs.set c v)) = w') (kk : J E k n (pc + 3) lv st w') : J E k n pc lv (v :: .ref b :: st) w := fun H locs ls hP hD hS hl =>
  va_put (D := (eG E).1) (cl := vwCl) (C := RX1) (T := TX1) (N := 11) (ci := 1) (ref := RX1) C.1 C.2.1 C.2.2.2.2.1 hin tyX1 tyX1_ok nmX1 C.2.2.2.1 C.2.2.2.2.2.1 hP hD hS p he rfl c hk (C.2.2.2.2.1 _ hw) (fun _ h => by rw [← hT]; exact h) hf hd hn hfit hlen d (fun H1 locs1 hP1 hD1 hS1 => kk H1 locs1 ls (by rw [← hw']; exact hP1) (by rw [← hw']; exact hD1) hS1 hl)
/-- a final field, in the constructor -/
theorem j_putF (C : jC E cc nL RX1 ws x) {idx : Nat} (p c : Nat) {b : Nat} {fs : List Value} {v : Value} {ty : FieldType} {w' : va_W} (d : decode cc pc = .ok (.putfield idx, 3)) (hin : ∀ w ∈ wsX10, w ∈ ws) (hk : c < 11) (hw : Cond.fieldLink RX1 idx RX1 (TX1 c).2.1 (TX1 c).2.2.1 ∈ ws) (hT : (TX1 c).1 = RX1) (hf : (TX1 c).2.2.2 = true) (hi : (eMt E).name = "<init>") (he : w[p]? = some (b, .inr (1, fs))) (hd : parseFieldDescriptor (TX1 c).2.2.1 = some ty) (hn : narrow ty v = v) (hfit : fits ty v = true) (hlen : c < fs.length) (hw' : w.set p (b, .inr (1, fs.set c v)) = w') (kk : J E k n (pc + 3) lv st w') : J E k n pc lv (v :: .ref b :: st) w := fun H locs ls hP hD hS hl =>
  va_putF (D := (eG E).1) (cl := vwCl) (C := RX1) (T := TX1) (N := 11) (ci := 1) (ref := RX1) C.1 C.2.1 C.2.2.2.2.1 hin tyX1 tyX1_ok nmX1 C.2.2.2.1 C.2.2.2.2.2.1 hP hD hS p he rfl c hk (C.2.2.2.2.1 _ hw) (fun _ h => by rw [← hT]; exact h) hf hi hT hd hn hfit hlen d (fun H1 locs1 hP1 hD1 hS1 => kk H1 locs1 ls (by rw [← hw']; exact hP1) (by rw [← hw']; exact hD1) hS1 hl)
/-- arrays: an int's, a boolean's element, a row of a two-dimensional one, the length -/
theorem j_iald (C : jC E cc nL own ws x) (p j : Nat) {b N : Nat} {f : Nat → Int32} {i : Int32} (d : decode cc pc = .ok (.iaload, 1)) (ha : w[p]? = some (b, .inl (jC0 E, N, .inl f))) (he : i = nI j) (hj : j < N) (hN : N < 1000) (kk : J E k n (pc + 1) lv (.int (f j) :: st) w) : J E k n pc lv (.int i :: .ref b :: st) w := fun H locs ls hP hD hS hl => by
  subst he
  refine va_iald C.1 C.2.1 C.2.2.2.2.2.1 hP p 0 ha rfl (vp_in_nI hj (by omega)) d ?_
  rw [nI_clamp (by omega)]
  exact kk H locs ls hP hD hS hl
theorem j_zald (C : jC E cc nL own ws x) (p j : Nat) {b N : Nat} {f : Nat → Int32} {i : Int32} (d : decode cc pc = .ok (.baload, 1)) (ha : w[p]? = some (b, .inl (jC1 E, N, .inl f))) (he : i = nI j) (hj : j < N) (hN : N < 1000) (kk : J E k n (pc + 1) lv (.int (f j) :: st) w) : J E k n pc lv (.int i :: .ref b :: st) w := fun H locs ls hP hD hS hl => by
  subst he
  refine va_zald C.1 C.2.1 C.2.2.2.2.2.1 hP p 1 ha rfl (vp_in_nI hj (by omega)) d ?_
  rw [nI_clamp (by omega)]
  exact kk H locs ls hP hD hS hl
theorem j_aald (C : jC E cc nL own ws x) (p j : Nat) {b N r : Nat} {f : Nat → Option Nat} {i : Int32} (d : decode cc pc = .ok (.aaload, 1)) (ha : w[p]? = some (b, .inl (jC2 E, N, .inr (.inr (.inr (.inr f)))))) (he : i = nI j) (hj : j < N) (hN : N < 1000) (hr : f j = some r) (kk : J E k n (pc + 1) lv (.ref r :: st) w) : J E k n pc lv (.int i :: .ref b :: st) w := fun H locs ls hP hD hS hl => by
  subst he
  have hi : ¬ (nI j < 0 ∨ N ≤ (nI j).toNatClampNeg) := vp_in_nI hj (by omega)
  have hc : (nI j).toNatClampNeg = j := nI_clamp (by omega)
  refine W.aald (v := .ref r) (ty := .array .boolean) C.1 C.2.1 (hP p _ ha) ((C.2.2.2.2.2.1.2 2 _ rfl).1 N (fun j => va_rf (f j))) rfl (fun q => by cases q) (by show ¬ (nI j < 0 ∨ (arrV _ _ _).slots.size ≤ _); rw [arrV_size]; exact hi) (by show (arrV _ _ _).slots[_]? = _; rw [hc, arrV_read _ _ hj]; rw [hr]; rfl) rfl rfl d ?_
  exact kk H locs ls hP hD hS hl
theorem j_iast (C : jC E cc nL own ws x) (p j : Nat) {b N : Nat} {f : Nat → Int32} {i y : Int32} {w' : va_W} (d : decode cc pc = .ok (.iastore, 1)) (ha : w[p]? = some (b, .inl (jC0 E, N, .inl f))) (he : i = nI j) (hj : j < N) (hN : N < 1000) (hw : w.set p (b, .inl (jC0 E, N, .inl (upd f j y))) = w') (kk : J E k n (pc + 1) lv st w') : J E k n pc lv (.int y :: .int i :: .ref b :: st) w := fun H locs ls hP hD hS hl => by
  subst he
  refine va_iast C.1 C.2.1 C.2.2.2.2.2.1 hP hD hS p 0 ha rfl (vp_in_nI hj (by omega)) d (fun H1 locs1 hP1 hD1 hS1 => ?_)
  rw [nI_clamp (by omega), hw] at hP1 hD1
  exact kk H1 locs1 ls hP1 hD1 hS1 hl
theorem j_zast (C : jC E cc nL own ws x) (p j : Nat) {b N : Nat} {f : Nat → Int32} {i y : Int32} {w' : va_W} (d : decode cc pc = .ok (.bastore, 1)) (ha : w[p]? = some (b, .inl (jC1 E, N, .inl f))) (he : i = nI j) (hj : j < N) (hN : N < 1000) (hy : y = 0 ∨ y = 1) (hw : w.set p (b, .inl (jC1 E, N, .inl (upd f j y))) = w') (kk : J E k n (pc + 1) lv st w') : J E k n pc lv (.int y :: .int i :: .ref b :: st) w := fun H locs ls hP hD hS hl => by
  subst he
  refine va_zast C.1 C.2.1 C.2.2.2.2.2.1 hP hD hS p 1 ha rfl (vp_in_nI hj (by omega)) d (fun H1 locs1 hP1 hD1 hS1 => ?_)
  rw [nI_clamp (by omega), show vp_nar .boolean y = y by rcases hy with rfl | rfl <;> rfl, hw] at hP1 hD1
  exact kk H1 locs1 ls hP1 hD1 hS1 hl
theorem j_alen (C : jC E cc nL own ws x) (p t : Nat) {b N : Nat} {cA : ClassId} {r : (Nat → Int32) ⊕ (Nat → Int64) ⊕ (Nat → UInt32) ⊕ (Nat → UInt64) ⊕ (Nat → Option Nat)} {ty : FieldType} (d : decode cc pc = .ok (.arraylength, 1)) (ha : w[p]? = some (b, .inl (cA, (N, r)))) (ht : (gTy (eG E))[t]? = some (cA, ty)) (kk : J E k n (pc + 1) lv (.int (nI N) :: st) w) : J E k n pc lv (.ref b :: st) w := fun H locs ls hP hD hS hl => va_alen C.1 C.2.1 C.2.2.2.2.2.1 hP p t ha ht rfl d (kk H locs ls hP hD hS hl)
/-- the script -/
theorem j_slen {b L : Nat} {xs : Nat → Int32} (C : jC E cc nL own ws (some (b, L, xs))) (d : decode cc pc = .ok (.arraylength, 1)) (kk : J E k n (pc + 1) lv (.int (nI L) :: st) w) : J E k n pc lv (.ref b :: st) w := fun H locs ls hP hD hS hl => va_slen C.1 C.2.1 C.2.2.2.2.2.2.2.2.2.1 C.2.2.2.2.2.2.2.2.2.2.1 C.2.2.2.2.2.2.2.2.2.2.2 hS d (kk H locs ls hP hD hS hl)
theorem j_sld {b L : Nat} {xs : Nat → Int32} (C : jC E cc nL own ws (some (b, L, xs))) {i : Int32} (j : Nat) (d : decode cc pc = .ok (.iaload, 1)) (he : i = nI j) (hj : j < L) (hL : L < 1000) (kk : J E k n (pc + 1) lv (.int (xs j) :: st) w) : J E k n pc lv (.int i :: .ref b :: st) w := fun H locs ls hP hD hS hl => by
  subst he
  refine va_sld C.1 C.2.1 C.2.2.2.2.2.2.2.2.2.1 C.2.2.2.2.2.2.2.2.2.2.1 C.2.2.2.2.2.2.2.2.2.2.2 hS (vp_in_nI hj (by omega)) d ?_
  rw [nI_clamp (by omega)]
  exact kk H locs ls hP hD hS hl
/-- new int[N], new boolean[N]: the new one in front -/
theorem j_front {c : va_W} {a : Nat × va_E} (kk : J E k n pc lv st (a :: c)) : J E k n pc lv st (c ++ [a]) := by
  have h : J E k n pc lv st (c ++ ([a] ++ [])) := j_swap (by rw [List.append_nil]; exact kk)
  exact h
theorem j_newI (C : jC E cc nL own ws x) (N M : Nat) {m : Int32} (d : decode cc pc = .ok (.newarray .int, 2)) (harr : Cond.arrayClass .int ∈ ws) (he : m = nI N) (hN : N ≤ M) (hM : M < 1000) (hk : k + 1 ≤ (eR E).cells) (hn : n + M ≤ (eR E).slots) (kk : ∀ q : Nat, J E (k + 1) (n + M) (pc + 2) lv (.ref q :: st) ((q, .inl (jC0 E, N, .inl (fun _ => 0))) :: w)) : J E k n pc lv (.int m :: st) w := fun H locs ls hP hD hS hl => by
  subst he
  refine va_newa (D := (eG E).1) (cl := vwCl) (atype := .int) (ty := .int) (N' := N) (a0 := (N, .inl (fun _ => 0))) C.1 C.2.1 (C.2.2.2.2.1 _ harr) rfl C.2.2.2.2.2.1 hP hD hS C.2.2.2.2.2.2.1 (fun cA => rfl) (nI_nlt (b := 0) (Nat.zero_le _) (by omega)) (nI_clamp (by omega)) (by show N * 4 ≤ _; omega) hk (by omega) d (fun q cA H1 hK1 hP1 hD1 hS1 => ?_)
  have e : cA = jC0 E := Option.some.inj ((show (eS E).vm.findClass _ = some cA from (hK1.2 3 (cA, .int) rfl).2).symm.trans (hK1.2 0 (jC0 E, .int) rfl).2)
  subst e
  exact j_front (j_wide (k + 1) (n + M) (Nat.le_refl _) (by omega) (kk q)) H1 locs ls hP1 hD1 hS1 hl
theorem j_newZ (C : jC E cc nL own ws x) (N M : Nat) {m : Int32} (d : decode cc pc = .ok (.newarray .boolean, 2)) (harr : Cond.arrayClass .boolean ∈ ws) (he : m = nI N) (hN : N ≤ M) (hM : M < 1000) (hk : k + 1 ≤ (eR E).cells) (hn : n + M ≤ (eR E).slots) (kk : ∀ q : Nat, J E (k + 1) (n + M) (pc + 2) lv (.ref q :: st) ((q, .inl (jC1 E, N, .inl (fun _ => 0))) :: w)) : J E k n pc lv (.int m :: st) w := fun H locs ls hP hD hS hl => by
  subst he
  refine va_newa (D := (eG E).1) (cl := vwCl) (atype := .boolean) (ty := .boolean) (N' := N) (a0 := (N, .inl (fun _ => 0))) C.1 C.2.1 (C.2.2.2.2.1 _ harr) rfl C.2.2.2.2.2.1 hP hD hS C.2.2.2.2.2.2.1 (fun cA => rfl) (nI_nlt (b := 0) (Nat.zero_le _) (by omega)) (nI_clamp (by omega)) (by show N * 1 ≤ _; omega) hk (by omega) d (fun q cA H1 hK1 hP1 hD1 hS1 => ?_)
  have e : cA = jC1 E := Option.some.inj ((show (eS E).vm.findClass _ = some cA from (hK1.2 3 (cA, .boolean) rfl).2).symm.trans (hK1.2 1 (jC1 E, .boolean) rfl).2)
  subst e
  exact j_front (j_wide (k + 1) (n + M) (Nat.le_refl _) (by omega) (kk q)) H1 locs ls hP1 hD1 hS1 hl
/-- new Sim: before its constructor -/
abbrev jO (q : Nat) : Nat × va_E := (q, .inr (1, [.int 0, .int 0, .int 0, .int 0, .int 0, .int 0, .null, .null, .null, .null, .null]))
theorem j_new (C : jC E cc nL own ws x) {idx : Nat} (d : decode cc pc = .ok (.new idx, 3)) (hin : ∀ w ∈ wsX10, w ∈ ws) (h1 : Cond.classLink own idx RX1 ∈ ws) (h2 : Cond.instantiable RX1 11 ∈ ws) (h3 : Cond.initialized RX1 ∈ ws) (hk : k + 1 ≤ (eR E).cells) (hn : n + 11 ≤ (eR E).slots) (kk : ∀ q : Nat, J E (k + 1) (n + 11) (pc + 3) lv (.ref q :: st) (jO q :: w)) : J E k n pc lv st w := fun H locs ls hP hD hS hl => by
  refine va_new (ci := 1) (fs := [.int 0, .int 0, .int 0, .int 0, .int 0, .int 0, .null, .null, .null, .null, .null]) (C := RX1) (T := TX1) (N := 11) C.1 C.2.1 C.2.2.2.2.1 hin tyX1 tyX1_ok C.2.2.2.1 (C.2.2.2.2.1 _ h1) (C.2.2.2.2.1 _ h2) (C.2.2.2.2.1 _ h3) C.2.2.2.2.2.1 hP hD hS C.2.2.2.2.2.2.1 rfl (by decide +kernel) hk hn d (fun q H1 hP1 hD1 hS1 => ?_)
  exact j_front (kk q) H1 locs ls hP1 hD1 hS1 hl
/-- new boolean[12][12]: the outer one, then its rows, in front -/
theorem j_new2 (C : jC E cc nL own ws x) {idx : Nat} (d : decode cc pc = .ok (.multianewarray idx 2, 4)) (h1 : Cond.classLink own idx "[[Z" ∈ ws) (h2 : Cond.arrayClass .boolean ∈ ws) (hk : k + 13 ≤ (eR E).cells) (hn : n + 156 ≤ (eR E).slots) (kk : ∀ (q : Nat) (r : Nat → Nat), J E (k + 13) (n + 156) (pc + 4) lv (.ref q :: st) ((q, .inl (jC2 E, 12, .inr (.inr (.inr (.inr (fun i => if i < 12 then some (r i) else none)))))) :: ((List.range 12).map (fun i => ((r i, .inl (jC1 E, 12, .inl (fun _ => 0))) : Nat × va_E)) ++ w))) : J E k n pc lv (.int 12 :: .int 12 :: st) w := fun H locs ls hP hD hS hl => by
  have hP0 : va_P (eG E).1 vwCl (w ++ va_pl [] (fun _ => .inl (0, 0, .inl (fun _ => 0)))) H := by rw [show va_pl [] _ = [] from rfl, List.append_nil]; exact hP
  have hD0 : va_D (eA E) (w ++ va_pl [] (fun _ => .inl (0, 0, .inl (fun _ => 0)))) := by rw [show va_pl [] _ = [] from rfl, List.append_nil]; exact hD
  refine va_mna (ty := .boolean) (N' := 12) (K' := 12) (z := (12, .inl (fun _ => 0))) (cy := jC1 E) C.1 C.2.1 C.2.2.2.1 (C.2.2.2.2.1 _ h1) C.2.2.2.2.2.2.2.2.1.1 (C.2.2.2.2.1 _ h2) (C.2.2.2.2.2.1.2 1 (jC1 E, .boolean) rfl).2 C.2.2.2.2.2.1 hP0 hD0 hS C.2.2.2.2.2.2.1 (by decide) (by decide) (by decide) (by decide) (by decide) (by decide) (by decide) (by decide +kernel) rfl hk hn (fun c => ?_) d (fun q r cA H1 hr hL hK1 hP1 hD1 hS1 => ?_)
  · show ({ cls := c, slots := Array.replicate 12 (.int 0), vm := .none } : Cell) = arrV c 12 (fun _ => .int 0)
    exact arrV_new ..
  · have e : cA = jC2 E := Option.some.inj ((show (eS E).vm.findClass _ = some cA from (hK1.2 3 (cA, .array .boolean) rfl).2).symm.trans (hK1.2 2 (jC2 E, .array .boolean) rfl).2)
    subst e
    have ep : va_pl ([] ++ (List.range 12).map r) (vr_up (fun _ => .inl (0, 0, .inl (fun _ => 0))) ((List.range 12).map r) (.inl (jC1 E, 12, .inl (fun _ => 0)))) = (List.range 12).map (fun i => ((r i, .inl (jC1 E, 12, .inl (fun _ => 0))) : Nat × va_E)) := by
      unfold va_pl
      rw [List.nil_append, List.map_map]
      refine List.map_congr_left (fun i hi => ?_)
      show (r i, vr_up _ _ _ (r i)) = _
      rw [vr_up_in (List.mem_map_of_mem hi)]
    rw [ep] at hP1 hD1
    have h9 : J E (k + 13) (n + 156) (pc + 4) lv (.ref q :: st) ((w ++ [(q, .inl (jC2 E, 12, .inr (.inr (.inr (.inr (fun i => if i < 12 then some (r i) else none))))))]) ++ (List.range 12).map (fun i => ((r i, .inl (jC1 E, 12, .inl (fun _ => 0))) : Nat × va_E))) := by
      rw [List.append_assoc]
      have h7 : J E (k + 13) (n + 156) (pc + 4) lv (.ref q :: st) (w ++ (([(q, .inl (jC2 E, 12, .inr (.inr (.inr (.inr (fun i => if i < 12 then some (r i) else none))))))] ++ (List.range 12).map (fun i => ((r i, .inl (jC1 E, 12, .inl (fun _ => 0))) : Nat × va_E))) ++ [])) := j_swap (by rw [List.append_nil]; exact kk q r)
      rw [List.append_nil] at h7
      exact h7
    exact h9 H1 locs ls hP1 hD1 hS1 hl
/-- the end of a method: what it owes -/
theorem j_end {post : jPost} {v : Option Value} (C : jC E cc nL own ws x) (hq : post v w) {H : Heap} {locs : List Loc} (hP : va_P (eG E).1 vwCl w H) (hD : va_D (eA E) w) (hS : va_S (eA E) (eS E).heap H locs) : ∀ t : State, t.heap = H → (eS E).WarmedH t.vm → jQ (eG E) (eA E) post (eV E) (eS E) (.returned v) t :=
  fun t ht hW => ⟨⟨v, w, rfl, hq, by rw [ht]; exact hP, va_K.moved hW.alike C.2.2.2.2.2.1, hD⟩, hS.F ht⟩
theorem j_iret {post : jPost} {mc ms : Nat} {v : Int32} (C : jC E cc nL own ws x) (F : jF E post mc ms (some .int)) (d : decode cc pc = .ok (.ireturn, 1)) (hk : k ≤ mc) (hn : n ≤ ms) (hq : post (some (.int v)) w) : J E k n pc lv [.int v] w := fun H locs ls hP hD hS hl => by
  rw [F.1]
  exact W.widen hk hn (W.iret C.1 C.2.1 F.2.2 (j_end C hq hP hD hS) hS.2.2 d F.2.1)
theorem j_zret {post : jPost} {mc ms : Nat} {v : Int32} (C : jC E cc nL own ws x) (F : jF E post mc ms (some .boolean)) (d : decode cc pc = .ok (.ireturn, 1)) (hv : v = 0 ∨ v = 1) (hk : k ≤ mc) (hn : n ≤ ms) (hq : post (some (.int v)) w) : J E k n pc lv [.int v] w := fun H locs ls hP hD hS hl => by
  rw [F.1]
  exact W.widen hk hn (W.zret C.1 C.2.1 F.2.2 (by rcases hv with rfl | rfl <;> rfl) (j_end C hq hP hD hS) hS.2.2 d F.2.1)
theorem j_vret {post : jPost} {mc ms : Nat} (C : jC E cc nL own ws x) (F : jF E post mc ms none) (d : decode cc pc = .ok (.return_, 1)) (hk : k ≤ mc) (hn : n ≤ ms) (hq : post none w) : J E k n pc lv [] w := fun H locs ls hP hD hS hl => by
  rw [F.1]
  exact W.widen hk hn (W.vret C.1 C.2.1 F.2.2 (j_end C hq hP hD hS) hS.2.2 d F.2.1)
theorem j_aret {post : jPost} {mc ms : Nat} {rt : FieldType} {b : Nat} (C : jC E cc nL own ws x) (F : jF E post mc ms (some rt)) (hrt : (∃ n, rt = .object n) ∨ ∃ t, rt = .array t) (d : decode cc pc = .ok (.areturn, 1)) (hk : k ≤ mc) (hn : n ≤ ms) (hq : post (some (.ref b)) w) : J E k n pc lv [.ref b] w := fun H locs ls hP hD hS hl => by
  rw [F.1]
  exact W.widen hk hn (W.aret C.1 C.2.1 F.2.2 hrt (Or.inr ⟨b, rfl⟩) (j_end C hq hP hD hS) hS.2.2 d F.2.1)
theorem j_mmin (C : jC E cc nL own ws x) {idx : Nat} {y z : Int32} (d : decode cc pc = .ok (.invokestatic idx, 3)) (h1 : Cond.methodLink own idx Lib.Math.min.name ∈ ws) (h2 : Cond.static Lib.Math.min.name ∈ ws) (h3 : Cond.initialized "java/lang/Math" ∈ ws) (h4 : Cond.code Lib.Math.min.name Lib.Math.min.code 2 (some .int) ∈ ws) (hR : 1 ≤ (eR E).frames ∧ (st.map fun v => v.category).sum + 13 ≤ (eR E).locals ∧ k ≤ (eR E).cells ∧ n ≤ (eR E).slots) (kk : J E k n (pc + 3) lv (.int (if z < y then z else y) :: st) w) : J E k n pc lv (.int z :: .int y :: st) w := fun H locs ls hP hD hS hl => va_mmin C.1 C.2.1 hl.1.symm C.2.2.2.1 (C.2.2.2.2.1 _ h1) (C.2.2.2.2.1 _ h2) (C.2.2.2.2.1 _ h3) (C.2.2.2.2.1 _ h4) hR.1 hR.2.1 hR.2.2.1 hR.2.2.2 d (kk H locs ls hP hD hS hl)
theorem j_mmax (C : jC E cc nL own ws x) {idx : Nat} {y z : Int32} (d : decode cc pc = .ok (.invokestatic idx, 3)) (h1 : Cond.methodLink own idx Lib.Math.max.name ∈ ws) (h2 : Cond.static Lib.Math.max.name ∈ ws) (h3 : Cond.initialized "java/lang/Math" ∈ ws) (h4 : Cond.code Lib.Math.max.name Lib.Math.max.code 2 (some .int) ∈ ws) (hR : 1 ≤ (eR E).frames ∧ (st.map fun v => v.category).sum + 13 ≤ (eR E).locals ∧ k ≤ (eR E).cells ∧ n ≤ (eR E).slots) (kk : J E k n (pc + 3) lv (.int (if y < z then z else y) :: st) w) : J E k n pc lv (.int z :: .int y :: st) w := fun H locs ls hP hD hS hl => va_mmax C.1 C.2.1 hl.1.symm C.2.2.2.1 (C.2.2.2.2.1 _ h1) (C.2.2.2.2.1 _ h2) (C.2.2.2.2.1 _ h3) (C.2.2.2.2.1 _ h4) hR.1 hR.2.1 hR.2.2.1 hR.2.2.2 d (kk H locs ls hP hD hS hl)
end JR
