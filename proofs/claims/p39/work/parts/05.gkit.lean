/-! THE CLASS'S WORLD: its object and arrays, and other cells behind them; the context of a walk as one tuple E; the kit's rows over them. σ: the object's numbers by slot, τ: the arrays by slot (o: nothing, kept from the text that this part began with); ad 100: the object. -/
abbrev gS : Type := Nat → Int32
abbrev gT : Type := Nat → Nat → Int32
abbrev gO : Type := Nat → Int64
/-- D, addresses, class of int[], boolean[], boolean[][], other cells -/
abbrev gG : Type := va_G × (Nat → Nat) × Nat × Nat × Nat × va_W
def z0 : gS := fun _ => 0
def zT : gT := fun _ _ => 0
def zO : gO := fun _ => 0
/-- an array's entry put anew -/
def uT (τ : gT) (c i : Nat) (x : Int32) : gT := fun a => if a = c then upd (τ a) i x else τ a
/-- an array put anew -/
def uA1 (τ : gT) (c : Nat) (f : Nat → Int32) : gT := fun a => if a = c then f else τ a
def uS (σ : gS) (c : Nat) (x : Int32) : gS := fun a => if a = c then x else σ a
def wW (Γ : gG) (σ : gS) (τ : gT) (o : gO) : va_W := [(Γ.2.1 100, .inr (0, [.ref (Γ.2.1 0), .ref (Γ.2.1 1), .ref (Γ.2.1 2), .int (σ 3), .int (σ 4), .int (σ 5), .int (σ 6), .ref (Γ.2.1 7), .ref (Γ.2.1 8), .int (σ 9), .int (σ 10), .int (σ 11), .ref (Γ.2.1 12), .ref (Γ.2.1 13), .ref (Γ.2.1 14), .ref (Γ.2.1 15), .ref (Γ.2.1 16), .ref (Γ.2.1 17)])), (Γ.2.1 0, .inl (Γ.2.2.1, 12, .inl (τ 0))), (Γ.2.1 1, .inl (Γ.2.2.1, 12, .inl (τ 1))), (Γ.2.1 2, .inl (Γ.2.2.1, 12, .inl (τ 2))), (Γ.2.1 7, .inl (Γ.2.2.1, 16, .inl (τ 7))), (Γ.2.1 8, .inl (Γ.2.2.2.1, 16, .inl (τ 8))), (Γ.2.1 12, .inl (Γ.2.2.1, 16, .inl (τ 12))), (Γ.2.1 13, .inl (Γ.2.2.1, 16, .inl (τ 13))), (Γ.2.1 14, .inl (Γ.2.2.1, 16, .inl (τ 14))), (Γ.2.1 15, .inl (Γ.2.2.1, 18, .inl (τ 15))), (Γ.2.1 16, .inl (Γ.2.2.1, 16, .inl (τ 16))), (Γ.2.1 17, .inl (Γ.2.2.2.1, 16, .inl (τ 17)))] ++ Γ.2.2.2.2.2
/-- the place of an array in the world, its length -/
def gAp : Nat → Nat
  | 0 => 1
  | 1 => 2
  | 2 => 3
  | 7 => 4
  | 8 => 5
  | 12 => 6
  | 13 => 7
  | 14 => 8
  | 15 => 9
  | 16 => 10
  | 17 => 11
  | _ => 99
def gAl : Nat → Nat
  | 0 => 12
  | 1 => 12
  | 2 => 12
  | 7 => 16
  | 8 => 16
  | 12 => 16
  | 13 => 16
  | 14 => 16
  | 15 => 18
  | 16 => 16
  | 17 => 16
  | _ => 0
abbrev gTy (Γ : gG) : List (ClassId × FieldType) := [(Γ.2.2.1, .int), (Γ.2.2.2.1, .boolean), (Γ.2.2.2.2.1, .array .boolean)]
def BW (Γ : gG) (σ : gS) (τ : gT) (o : gO) (t : State) : Prop := va_P Γ.1 vwCl (wW Γ σ τ o) t.heap ∧ va_K Γ.1 vwCl (gTy Γ) t
/-- what a method may change: the world, and what is new -/
def uAd (Γ : gG) (sz : Nat) : Nat → Prop := va_A (wW Γ z0 zT zO) sz
theorem uD_map {A : Nat → Prop} {w1 w2 : va_W} (h : va_D A w1) (e : w1.map Prod.fst = w2.map Prod.fst) : va_D A w2 := by
  have key : ∀ (k : Nat) (q : Nat × va_E), w2[k]? = some q → ∃ q0, w1[k]? = some q0 ∧ q0.1 = q.1 := by
    intro k q hk
    have h1 : (w2.map Prod.fst)[k]? = some q.1 := by rw [List.getElem?_map, hk]; rfl
    rw [← e, List.getElem?_map] at h1
    cases h2 : w1[k]? with
    | none => rw [h2] at h1; cases h1
    | some q0 => rw [h2] at h1; exact ⟨q0, rfl, Option.some.inj h1⟩
  refine ⟨fun i j p q hi hj hpq => ?_, fun k q hk => ?_⟩
  · obtain ⟨p0, h1, h2⟩ := key i p hi
    obtain ⟨q0, h3, h4⟩ := key j q hj
    exact h.1 i j p0 q0 h1 h3 (h2.trans (hpq.trans h4.symm))
  · obtain ⟨q0, h1, h2⟩ := key k q hk
    rw [← h2]
    exact h.2 k q0 h1
theorem uD_any {A : Nat → Prop} {Γ : gG} {σ σ' : gS} {τ τ' : gT} {o o' : gO} (h : va_D A (wW Γ σ τ o)) : va_D A (wW Γ σ' τ' o') := uD_map h rfl
theorem uA_any {Γ : gG} {σ σ' : gS} {τ τ' : gT} {o o' : gO} {sz q : Nat} (h : va_A (wW Γ σ τ o) sz q) : va_A (wW Γ σ' τ' o') sz q := by
  rcases h with ⟨k, e, h⟩ | h
  · have h1 : ((wW Γ σ τ o).map Prod.fst)[k]? = some q := by rw [List.getElem?_map, h]; rfl
    have h2 : (wW Γ σ τ o).map Prod.fst = (wW Γ σ' τ' o').map Prod.fst := rfl
    rw [h2, List.getElem?_map] at h1
    cases h3 : (wW Γ σ' τ' o')[k]? with
    | none => rw [h3] at h1; cases h1
    | some q0 =>
      rw [h3] at h1
      obtain ⟨q1, e1⟩ := q0
      cases h1
      exact Or.inl ⟨k, e1, h3⟩
  · exact Or.inr h
/-- the class's String constants -/
abbrev gK : List (Nat × String) := [(171, "there is no such word"), (68, "a word has 1 to 30 letters"), (75, "there are 12 words"), (82, "a word stands for itself anyway"), (88, "the limit is 3 to 15 letters"), (90, "the least count is 0 to 20"), (92, "the coins for each are 1 to 50"), (94, "the telegram has 16 words"), (173, "there is no such place"), (103, "these places may not be joined"), (135, "the zones are 0 to 3"), (116, "the telegram has no word")]
/-- what is thrown, and whose constructors the chain of supers declares -/
abbrev gXc : List String := ["java/lang/IndexOutOfBoundsException", "java/lang/IllegalArgumentException", "java/lang/IllegalStateException"]
abbrev gDc : List MethodName := [Bundle.initS "java/lang/RuntimeException", Bundle.initS "java/lang/Exception", Bundle.initS Bundle.tN]
/-- what a throw asks of the start: two statics of Throwable outside the world, the String constants -/
def uZ (A : Nat → Prop) (U : State) (H : Heap) : Prop := vx_Zq Bundle.tN "UNASSIGNED_STACK" Bundle.steD A U H ∧ vx_Zq Bundle.tN "SUPPRESSED_SENTINEL" Bundle.listD A U H ∧ (∀ q ∈ gK, ∃ sa, vk_R RX0 q.1 q.2 sa U) ∧ (∀ X ∈ gXc, va_Nw (.castable X X) U) ∧ ∀ x ∈ gDc, va_Nw (.declares x) U
/-- the context: program, launch, env, room, start, method, arguments, frames below, method, code, Γ, A, Q -/
abbrev gE : Type := Program × Launch × Env × Room × State × MethodId × Array Value × List Frame × Method × Code × gG × (Nat → Prop) × (State → Prop)
abbrev eP (E : gE) : Program := E.1
abbrev eL (E : gE) : Launch := E.2.1
abbrev eE (E : gE) : Env := E.2.2.1
abbrev eR (E : gE) : Room := E.2.2.2.1
abbrev eS (E : gE) : State := E.2.2.2.2.1
abbrev eM (E : gE) : MethodId := E.2.2.2.2.2.1
abbrev eV (E : gE) : Array Value := E.2.2.2.2.2.2.1
abbrev eB (E : gE) : List Frame := E.2.2.2.2.2.2.2.1
abbrev eMt (E : gE) : Method := E.2.2.2.2.2.2.2.2.1
abbrev eC (E : gE) : Code := E.2.2.2.2.2.2.2.2.2.1
abbrev eG (E : gE) : gG := E.2.2.2.2.2.2.2.2.2.2.1
abbrev eA (E : gE) : Nat → Prop := E.2.2.2.2.2.2.2.2.2.2.2.1
abbrev eQ (E : gE) : State → Prop := E.2.2.2.2.2.2.2.2.2.2.2.2
def G (E : gE) (k n pc : Nat) (lv : List (Nat × Value)) (st : List Value) (σ : gS) (τ : gT) (o : gO) : Prop :=
  ∀ (H : Heap) (locs : List Loc) (ls : Array Slot), va_P (eG E).1 vwCl (wW (eG E) σ τ o) H → va_S (eA E) (eS E).heap H locs → lv_has ls (eC E).maxLocals lv →
    W (eP E) (eL E) (eE E) (eR E) (eS E) (eM E) (eV E) (eB E) (eMt E) (eC E) H locs k n (eQ E) (F0 (eM E) pc ls st)
/-- an exception of class X flies here -/
def GX (E : gE) (k n pc : Nat) (lv : List (Nat × Value)) (st : List Value) (σ : gS) (τ : gT) (o : gO) (X : String) : Prop :=
  ∀ (H : Heap) (locs : List Loc) (ls : Array Slot) (q : Addr) (ce : Cell), va_P (eG E).1 vwCl (wW (eG E) σ τ o) H → va_S (eA E) (eS E).heap H locs → lv_has ls (eC E).maxLocals lv → H[q]? = some ce → ce.vm = .none → (eS E).vm.findClass X = some ce.cls →
    vx_W (eP E) (eL E) (eE E) (eR E) (eS E) (eM E) (eV E) (eB E) (eMt E) (eC E) H locs k n (eQ E) (F0 (eM E) pc ls st) q
/-- what stands all along a method -/
def gC (E : gE) (cc : ByteArray) (nL : Nat) (own : String) (ws : List Cond) : Prop :=
  (eP E).tables.exec = Jvm.exec ∧ (eC E).code = cc ∧ (eC E).maxLocals = nL ∧ (eS E).vm.findClass own = some (eM E).cls ∧ (∀ w ∈ ws, w.before (eV E) (eS E) = true) ∧
  va_K (eG E).1 vwCl (gTy (eG E)) (eS E) ∧ (∀ q : Nat, (eS E).heap.size ≤ q → eA E q) ∧ va_D (eA E) (wW (eG E) z0 zT zO) ∧ uZ (eA E) (eS E) (eS E).heap ∧ (eL E).stackTraces = false
abbrev gPost : Type := Option Value → gS → gT → gO → Prop
abbrev gPX : Type := String → gS → gT → gO → Prop
def uQ (Γ : gG) (A : Nat → Prop) (post : gPost) : Array Value → State → Outcome → State → Prop := fun _ st oc t => (∃ (v : Option Value) (σ : gS) (τ : gT) (o : gO), oc = .returned v ∧ post v σ τ o ∧ BW Γ σ τ o t) ∧ va_F A st t
def uX (Γ : gG) (A : Nat → Prop) (px : gPX) : String → State → State → Prop := fun X st t => (∃ (σ : gS) (τ : gT) (o : gO), px X σ τ o ∧ BW Γ σ τ o t) ∧ va_F A st t
def noX : gPX := fun _ _ _ _ => False
/-- the end of a method: what it owes -/
def gF (E : gE) (post : gPost) (px : gPX) (mc ms : Nat) (ret : Option FieldType) : Prop :=
  eQ E = vx_MQ (eB E) (uQ (eG E) (eA E) post) (uX (eG E) (eA E) px) (eV E) (eS E) mc ms (eA E) ∧ (eMt E).locks = false ∧ (eMt E).sig.returnType = ret
def pI (P : Int32 → gS → gT → gO → Prop) : gPost := fun v σ τ o => ∃ r, v = some (.int r) ∧ P r σ τ o
def pJ (P : Int64 → gS → gT → gO → Prop) : gPost := fun v σ τ o => ∃ r, v = some (.long r) ∧ P r σ τ o
def pD (P : UInt64 → gS → gT → gO → Prop) : gPost := fun v σ τ o => ∃ r, v = some (.double r) ∧ P r σ τ o
def pV (P : gS → gT → gO → Prop) : gPost := fun v σ τ o => v = none ∧ P σ τ o
def uP (Γ : gG) (sz : Nat) (σ : gS) (τ : gT) (o : gO) (U : State) : Prop := U.heap.size = sz ∧ BW Γ σ τ o U ∧ va_D (fun _ => True) (wW Γ z0 zT zO) ∧ uZ (uAd Γ sz) U U.heap
/-- a method's contract: from the world σ τ o, with the arguments As, it returns as post says, or throws as px says -/
def Ct (l : Launch) (y : MethodName) (ws : List Cond) (fr lo mc ms : Nat) (As : List Value) (Γ : gG) (σ : gS) (τ : gT) (o : gO) (post : gPost) (px : gPX) : Prop :=
  ∀ sz : Nat, vx_Met l y ws { frames := fr, cells := mc, slots := ms, locals := lo } (va_Pc As (uP Γ sz σ τ o)) (uQ Γ (uAd Γ sz) post) (uX Γ (uAd Γ sz) px) mc ms (uAd Γ sz)
/-- a local by its number -/
def lvg : List (Nat × Value) → Nat → Option Value
  | [], _ => none
  | (j, v) :: l, i => bif Nat.beq j i then some v else lvg l i
theorem lvg_at {ls : Array Slot} {nL : Nat} : ∀ {lv : List (Nat × Value)} {i : Nat} {v : Value}, lv_has ls nL lv → lvg lv i = some v → ls[i]? = some (.val v)
  | [], _, _, _, h => by cases h
  | (j, u) :: l, i, v, hl, h => by
    cases hb : Nat.beq j i with
    | true =>
      have e : j = i := Nat.eq_of_beq_eq_true hb
      subst e
      simp only [lvg, hb, cond_true] at h
      cases h
      exact hl.2.2 (j, _) List.mem_cons_self
    | false =>
      simp only [lvg, hb, cond_false] at h
      exact lvg_at ⟨hl.1, hl.2.1, fun q hq => hl.2.2 q (List.mem_cons_of_mem _ hq)⟩ h
theorem lvg_mem : ∀ {lv : List (Nat × Value)} {i : Nat} {v : Value}, lvg lv i = some v → (i, v) ∈ lv
  | [], _, _, h => by cases h
  | (j, u) :: l, i, v, h => by
    cases hb : Nat.beq j i with
    | true =>
      have e : j = i := Nat.eq_of_beq_eq_true hb
      subst e
      simp only [lvg, hb, cond_true] at h
      cases h
      exact List.mem_cons_self
    | false =>
      simp only [lvg, hb, cond_false] at h
      exact List.mem_cons_of_mem _ (lvg_mem h)
section GR
variable {E : gE} {cc : ByteArray} {nL : Nat} {own : String} {ws : List Cond} {k n pc : Nat} {lv : List (Nat × Value)} {st : List Value} {σ : gS} {τ : gT} {o : gO}
theorem g_iconst (C : gC E cc nL own ws) {m : Int} {v : Int32} (d : decode cc pc = .ok (.iconst m, 1)) (hv : Int32.ofInt m = v) (kk : G E k n (pc + 1) lv (.int v :: st) σ τ o) : G E k n pc lv (st) σ τ o := fun H locs ls hP hS hl => lv_iconst C.1 C.2.1 d hv (kk H locs ls hP hS hl)
theorem g_bipush (C : gC E cc nL own ws) {m : Int} {v : Int32} (d : decode cc pc = .ok (.bipush m, 2)) (hv : (Int8.ofInt m).toInt32 = v) (kk : G E k n (pc + 2) lv (.int v :: st) σ τ o) : G E k n pc lv (st) σ τ o := fun H locs ls hP hS hl => lv_bipush C.1 C.2.1 d hv (kk H locs ls hP hS hl)
theorem g_lconst (C : gC E cc nL own ws) {m : Fin 2} {v : Int64} (d : decode cc pc = .ok (.lconst m, 1)) (hv : Int64.ofNat (m : Nat) = v) (kk : G E k n (pc + 1) lv (.long v :: st) σ τ o) : G E k n pc lv (st) σ τ o := fun H locs ls hP hS hl => lv_lconst C.1 C.2.1 d hv (kk H locs ls hP hS hl)
theorem g_dconst0 (C : gC E cc nL own ws)  (d : decode cc pc = .ok (.dconst 0, 1)) (kk : G E k n (pc + 1) lv (.double FP.dconst0 :: st) σ τ o) : G E k n pc lv (st) σ τ o := fun H locs ls hP hS hl => lv_dconst0 C.1 C.2.1 d (kk H locs ls hP hS hl)
theorem g_ldc (C : gC E cc nL own ws) {idx : Nat} {v : Int32} (d : decode cc pc = .ok (.ldc idx, 2)) (hw : Cond.constant own idx v ∈ ws) (kk : G E k n (pc + 2) lv (.int v :: st) σ τ o) : G E k n pc lv (st) σ τ o := fun H locs ls hP hS hl => lv_ldc C.1 C.2.1 C.2.2.2.1 (C.2.2.2.2.1 _ hw) d (kk H locs ls hP hS hl)
theorem g_ldcw (C : gC E cc nL own ws) {idx : Nat} {v : Int32} (d : decode cc pc = .ok (.ldc_w idx, 3)) (hw : Cond.constant own idx v ∈ ws) (kk : G E k n (pc + 3) lv (.int v :: st) σ τ o) : G E k n pc lv (st) σ τ o := fun H locs ls hP hS hl => lv_ldcw C.1 C.2.1 C.2.2.2.1 (C.2.2.2.2.1 _ hw) d (kk H locs ls hP hS hl)
theorem g_ldc2 (C : gC E cc nL own ws) {idx : Nat} {v : Int64} (d : decode cc pc = .ok (.ldc2_w idx, 3)) (hw : Cond.constantLong own idx v ∈ ws) (kk : G E k n (pc + 3) lv (.long v :: st) σ τ o) : G E k n pc lv (st) σ τ o := fun H locs ls hP hS hl => lv_ldc2 C.1 C.2.1 C.2.2.2.1 (C.2.2.2.2.1 _ hw) d (kk H locs ls hP hS hl)
theorem g_iload_n (C : gC E cc nL own ws) {j : Fin 4} {i : Nat} {x : Int32} (d : decode cc pc = .ok (.iload_n j, 1)) (hi : (j : Nat) = i) (h : lvg lv i = some (.int x)) (kk : G E k n (pc + 1) lv (.int x :: st) σ τ o) : G E k n pc lv (st) σ τ o := fun H locs ls hP hS hl => lv_iload_n C.1 C.2.1 d hi (lvg_at hl h) (kk H locs ls hP hS hl)
theorem g_iload (C : gC E cc nL own ws) {i : Nat} {x : Int32} (d : decode cc pc = .ok (.iload i, 2)) (h : lvg lv i = some (.int x)) (kk : G E k n (pc + 2) lv (.int x :: st) σ τ o) : G E k n pc lv (st) σ τ o := fun H locs ls hP hS hl => lv_iload C.1 C.2.1 d (lvg_at hl h) (kk H locs ls hP hS hl)
theorem g_istore_n (C : gC E cc nL own ws) {j : Fin 4} {i : Nat} {x : Int32} (lv' : List (Nat × Value)) (d : decode cc pc = .ok (.istore_n j, 1)) (hi : (j : Nat) = i) (hn : i < nL) (he : (i, Value.int x) :: lv.filter (fun q => !(q.1 == i) && !(q.1 + 1 == i && q.2.category == 2)) = lv') (kk : G E k n (pc + 1) lv' st σ τ o) : G E k n pc lv (.int x :: st) σ τ o := fun H locs ls hP hS hl => lv_istore_n C.1 C.2.1 d hi hl (by rw [C.2.2.1]; exact hn) he (fun ls' hl' => kk H locs ls' hP hS hl')
theorem g_istore (C : gC E cc nL own ws) {i : Nat} {x : Int32} (lv' : List (Nat × Value)) (d : decode cc pc = .ok (.istore i, 2)) (hn : i < nL) (he : (i, Value.int x) :: lv.filter (fun q => !(q.1 == i) && !(q.1 + 1 == i && q.2.category == 2)) = lv') (kk : G E k n (pc + 2) lv' st σ τ o) : G E k n pc lv (.int x :: st) σ τ o := fun H locs ls hP hS hl => lv_istore C.1 C.2.1 d hl (by rw [C.2.2.1]; exact hn) he (fun ls' hl' => kk H locs ls' hP hS hl')
theorem g_lload_n (C : gC E cc nL own ws) {j : Fin 4} {i : Nat} {x : Int64} (d : decode cc pc = .ok (.lload_n j, 1)) (hi : (j : Nat) = i) (h : lvg lv i = some (.long x)) (kk : G E k n (pc + 1) lv (.long x :: st) σ τ o) : G E k n pc lv (st) σ τ o := fun H locs ls hP hS hl => lv_lload_n C.1 C.2.1 d hi (lvg_at hl h) (kk H locs ls hP hS hl)
theorem g_lload (C : gC E cc nL own ws) {i : Nat} {x : Int64} (d : decode cc pc = .ok (.lload i, 2)) (h : lvg lv i = some (.long x)) (kk : G E k n (pc + 2) lv (.long x :: st) σ τ o) : G E k n pc lv (st) σ τ o := fun H locs ls hP hS hl => lv_lload C.1 C.2.1 d (lvg_at hl h) (kk H locs ls hP hS hl)
theorem g_lstore_n (C : gC E cc nL own ws) {j : Fin 4} {i : Nat} {x : Int64} (lv' : List (Nat × Value)) (d : decode cc pc = .ok (.lstore_n j, 1)) (hi : (j : Nat) = i) (hn : i + 1 < nL) (he : (i, Value.long x) :: lv.filter (fun q => !(q.1 == i) && (!(q.1 == i + 1) && !(q.1 + 1 == i && q.2.category == 2))) = lv') (kk : G E k n (pc + 1) lv' st σ τ o) : G E k n pc lv (.long x :: st) σ τ o := fun H locs ls hP hS hl => lv_lstore_n C.1 C.2.1 d hi hl (by rw [C.2.2.1]; exact hn) he (fun ls' hl' => kk H locs ls' hP hS hl')
theorem g_lstore (C : gC E cc nL own ws) {i : Nat} {x : Int64} (lv' : List (Nat × Value)) (d : decode cc pc = .ok (.lstore i, 2)) (hn : i + 1 < nL) (he : (i, Value.long x) :: lv.filter (fun q => !(q.1 == i) && (!(q.1 == i + 1) && !(q.1 + 1 == i && q.2.category == 2))) = lv') (kk : G E k n (pc + 2) lv' st σ τ o) : G E k n pc lv (.long x :: st) σ τ o := fun H locs ls hP hS hl => lv_lstore C.1 C.2.1 d hl (by rw [C.2.2.1]; exact hn) he (fun ls' hl' => kk H locs ls' hP hS hl')
theorem g_aload_n (C : gC E cc nL own ws) {j : Fin 4} {i : Nat} {x : Nat} (d : decode cc pc = .ok (.aload_n j, 1)) (hi : (j : Nat) = i) (h : lvg lv i = some (.ref x)) (kk : G E k n (pc + 1) lv (.ref x :: st) σ τ o) : G E k n pc lv (st) σ τ o := fun H locs ls hP hS hl => lv_aload_n C.1 C.2.1 d hi (lvg_at hl h) (kk H locs ls hP hS hl)
theorem g_aload (C : gC E cc nL own ws) {i : Nat} {x : Nat} (d : decode cc pc = .ok (.aload i, 2)) (h : lvg lv i = some (.ref x)) (kk : G E k n (pc + 2) lv (.ref x :: st) σ τ o) : G E k n pc lv (st) σ τ o := fun H locs ls hP hS hl => lv_aload C.1 C.2.1 d (lvg_at hl h) (kk H locs ls hP hS hl)
theorem g_astore_n (C : gC E cc nL own ws) {j : Fin 4} {i : Nat} {x : Nat} (lv' : List (Nat × Value)) (d : decode cc pc = .ok (.astore_n j, 1)) (hi : (j : Nat) = i) (hn : i < nL) (he : (i, Value.ref x) :: lv.filter (fun q => !(q.1 == i) && !(q.1 + 1 == i && q.2.category == 2)) = lv') (kk : G E k n (pc + 1) lv' st σ τ o) : G E k n pc lv (.ref x :: st) σ τ o := fun H locs ls hP hS hl => lv_astore_n C.1 C.2.1 d hi hl (by rw [C.2.2.1]; exact hn) he (fun ls' hl' => kk H locs ls' hP hS hl')
theorem g_astore (C : gC E cc nL own ws) {i : Nat} {x : Nat} (lv' : List (Nat × Value)) (d : decode cc pc = .ok (.astore i, 2)) (hn : i < nL) (he : (i, Value.ref x) :: lv.filter (fun q => !(q.1 == i) && !(q.1 + 1 == i && q.2.category == 2)) = lv') (kk : G E k n (pc + 2) lv' st σ τ o) : G E k n pc lv (.ref x :: st) σ τ o := fun H locs ls hP hS hl => lv_astore C.1 C.2.1 d hl (by rw [C.2.2.1]; exact hn) he (fun ls' hl' => kk H locs ls' hP hS hl')
theorem g_dload_n (C : gC E cc nL own ws) {j : Fin 4} {i : Nat} {x : UInt64} (d : decode cc pc = .ok (.dload_n j, 1)) (hi : (j : Nat) = i) (h : lvg lv i = some (.double x)) (kk : G E k n (pc + 1) lv (.double x :: st) σ τ o) : G E k n pc lv (st) σ τ o := fun H locs ls hP hS hl => lv_dload_n C.1 C.2.1 d hi (lvg_at hl h) (kk H locs ls hP hS hl)
theorem g_dload (C : gC E cc nL own ws) {i : Nat} {x : UInt64} (d : decode cc pc = .ok (.dload i, 2)) (h : lvg lv i = some (.double x)) (kk : G E k n (pc + 2) lv (.double x :: st) σ τ o) : G E k n pc lv (st) σ τ o := fun H locs ls hP hS hl => lv_dload C.1 C.2.1 d (lvg_at hl h) (kk H locs ls hP hS hl)
theorem g_dstore_n (C : gC E cc nL own ws) {j : Fin 4} {i : Nat} {x : UInt64} (lv' : List (Nat × Value)) (d : decode cc pc = .ok (.dstore_n j, 1)) (hi : (j : Nat) = i) (hn : i + 1 < nL) (he : (i, Value.double x) :: lv.filter (fun q => !(q.1 == i) && (!(q.1 == i + 1) && !(q.1 + 1 == i && q.2.category == 2))) = lv') (kk : G E k n (pc + 1) lv' st σ τ o) : G E k n pc lv (.double x :: st) σ τ o := fun H locs ls hP hS hl => lv_dstore_n C.1 C.2.1 d hi hl (by rw [C.2.2.1]; exact hn) he (fun ls' hl' => kk H locs ls' hP hS hl')
theorem g_dstore (C : gC E cc nL own ws) {i : Nat} {x : UInt64} (lv' : List (Nat × Value)) (d : decode cc pc = .ok (.dstore i, 2)) (hn : i + 1 < nL) (he : (i, Value.double x) :: lv.filter (fun q => !(q.1 == i) && (!(q.1 == i + 1) && !(q.1 + 1 == i && q.2.category == 2))) = lv') (kk : G E k n (pc + 2) lv' st σ τ o) : G E k n pc lv (.double x :: st) σ τ o := fun H locs ls hP hS hl => lv_dstore C.1 C.2.1 d hl (by rw [C.2.2.1]; exact hn) he (fun ls' hl' => kk H locs ls' hP hS hl')
theorem g_iinc (C : gC E cc nL own ws) {i : Nat} {m : Int} {x v : Int32} (j : Nat) (lv' : List (Nat × Value)) (d : decode cc pc = .ok (.iinc i m, 3)) (hj : lv[j]? = some (i, .int x)) (hv : x + Int32.ofInt m = v) (hn : i < nL) (he : (i, Value.int v) :: lv.filter (fun q => !(q.1 == i) && !(q.1 + 1 == i && q.2.category == 2)) = lv') (kk : G E k n (pc + 3) lv' st σ τ o) : G E k n pc lv st σ τ o := fun H locs ls hP hS hl => lv_iinc C.1 C.2.1 d hl hj hv (by rw [C.2.2.1]; exact hn) he (fun ls' hl' => kk H locs ls' hP hS hl')
/-- fewer locals, in another order -/
theorem g_lv (ks : List Nat) (lv' : List (Nat × Value)) (he : lv_pick lv ks = lv') (kk : G E k n pc lv' st σ τ o) : G E k n pc lv st σ τ o := fun H locs ls hP hS hl => kk H locs ls hP hS (lv_sub hl ks he)
theorem g_wide (k' n' : Nat) (h1 : k ≤ k') (h2 : n ≤ n') (kk : G E k' n' pc lv st σ τ o) : G E k n pc lv st σ τ o := fun H locs ls hP hS hl => W.widen h1 h2 (kk H locs ls hP hS hl)
theorem g_iadd (C : gC E cc nL own ws) {x y : Int32} (d : decode cc pc = .ok (.iadd, 1)) (kk : G E k n (pc + 1) lv (.int (x + y) :: st) σ τ o) : G E k n pc lv (.int y :: .int x :: st) σ τ o := fun H locs ls hP hS hl => lv_iadd C.1 C.2.1 d (kk H locs ls hP hS hl)
theorem g_isub (C : gC E cc nL own ws) {x y : Int32} (d : decode cc pc = .ok (.isub, 1)) (kk : G E k n (pc + 1) lv (.int (x - y) :: st) σ τ o) : G E k n pc lv (.int y :: .int x :: st) σ τ o := fun H locs ls hP hS hl => lv_isub C.1 C.2.1 d (kk H locs ls hP hS hl)
theorem g_imul (C : gC E cc nL own ws) {x y : Int32} (d : decode cc pc = .ok (.imul, 1)) (kk : G E k n (pc + 1) lv (.int (x * y) :: st) σ τ o) : G E k n pc lv (.int y :: .int x :: st) σ τ o := fun H locs ls hP hS hl => lv_imul C.1 C.2.1 d (kk H locs ls hP hS hl)
theorem g_iand (C : gC E cc nL own ws) {x y : Int32} (d : decode cc pc = .ok (.iand, 1)) (kk : G E k n (pc + 1) lv (.int (x &&& y) :: st) σ τ o) : G E k n pc lv (.int y :: .int x :: st) σ τ o := fun H locs ls hP hS hl => lv_iand C.1 C.2.1 d (kk H locs ls hP hS hl)
theorem g_ior (C : gC E cc nL own ws) {x y : Int32} (d : decode cc pc = .ok (.ior, 1)) (kk : G E k n (pc + 1) lv (.int (x ||| y) :: st) σ τ o) : G E k n pc lv (.int y :: .int x :: st) σ τ o := fun H locs ls hP hS hl => lv_ior C.1 C.2.1 d (kk H locs ls hP hS hl)
theorem g_ixor (C : gC E cc nL own ws) {x y : Int32} (d : decode cc pc = .ok (.ixor, 1)) (kk : G E k n (pc + 1) lv (.int (x ^^^ y) :: st) σ τ o) : G E k n pc lv (.int y :: .int x :: st) σ τ o := fun H locs ls hP hS hl => lv_ixor C.1 C.2.1 d (kk H locs ls hP hS hl)
theorem g_ishl (C : gC E cc nL own ws) {x y : Int32} (d : decode cc pc = .ok (.ishl, 1)) (kk : G E k n (pc + 1) lv (.int (x <<< (y &&& 31)) :: st) σ τ o) : G E k n pc lv (.int y :: .int x :: st) σ τ o := fun H locs ls hP hS hl => lv_ishl C.1 C.2.1 d (kk H locs ls hP hS hl)
theorem g_ishr (C : gC E cc nL own ws) {x y : Int32} (d : decode cc pc = .ok (.ishr, 1)) (kk : G E k n (pc + 1) lv (.int (x >>> (y &&& 31)) :: st) σ τ o) : G E k n pc lv (.int y :: .int x :: st) σ τ o := fun H locs ls hP hS hl => lv_ishr C.1 C.2.1 d (kk H locs ls hP hS hl)
theorem g_idiv (C : gC E cc nL own ws) {x y : Int32} (d : decode cc pc = .ok (.idiv, 1)) (hne : ¬ y = 0) (kk : G E k n (pc + 1) lv (.int (x / y) :: st) σ τ o) : G E k n pc lv (.int y :: .int x :: st) σ τ o := fun H locs ls hP hS hl => lv_idiv C.1 C.2.1 d hne (kk H locs ls hP hS hl)
theorem g_irem (C : gC E cc nL own ws) {x y : Int32} (d : decode cc pc = .ok (.irem, 1)) (hne : ¬ y = 0) (kk : G E k n (pc + 1) lv (.int (x - x / y * y) :: st) σ τ o) : G E k n pc lv (.int y :: .int x :: st) σ τ o := fun H locs ls hP hS hl => lv_irem C.1 C.2.1 d hne (kk H locs ls hP hS hl)
theorem g_iushr (C : gC E cc nL own ws) {x y v : Int32} (d : decode cc pc = .ok (.iushr, 1)) (hv : (x.toUInt32 >>> (y.toUInt32 &&& Int32.toUInt32 31)).toInt32 = v) (kk : G E k n (pc + 1) lv (.int v :: st) σ τ o) : G E k n pc lv (.int y :: .int x :: st) σ τ o := fun H locs ls hP hS hl => lv_iushr C.1 C.2.1 d hv (kk H locs ls hP hS hl)
theorem g_ladd (C : gC E cc nL own ws) {x y : Int64} (d : decode cc pc = .ok (.ladd, 1)) (kk : G E k n (pc + 1) lv (.long (x + y) :: st) σ τ o) : G E k n pc lv (.long y :: .long x :: st) σ τ o := fun H locs ls hP hS hl => lv_ladd C.1 C.2.1 d (kk H locs ls hP hS hl)
theorem g_lmul (C : gC E cc nL own ws) {x y : Int64} (d : decode cc pc = .ok (.lmul, 1)) (kk : G E k n (pc + 1) lv (.long (x * y) :: st) σ τ o) : G E k n pc lv (.long y :: .long x :: st) σ τ o := fun H locs ls hP hS hl => lv_lmul C.1 C.2.1 d (kk H locs ls hP hS hl)
theorem g_i2l (C : gC E cc nL own ws) {x : Int32} (d : decode cc pc = .ok (.i2l, 1)) (kk : G E k n (pc + 1) lv (.long x.toInt64 :: st) σ τ o) : G E k n pc lv (.int x :: st) σ τ o := fun H locs ls hP hS hl => lv_i2l C.1 C.2.1 d rfl (kk H locs ls hP hS hl)
theorem g_i2d (C : gC E cc nL own ws) {x : Int32} (d : decode cc pc = .ok (.i2d, 1)) (kk : G E k n (pc + 1) lv (.double (FP.i2d x) :: st) σ τ o) : G E k n pc lv (.int x :: st) σ τ o := fun H locs ls hP hS hl => lv_i2d C.1 C.2.1 d (kk H locs ls hP hS hl)
theorem g_ddiv (C : gC E cc nL own ws) {x y : UInt64} (d : decode cc pc = .ok (.ddiv, 1)) (hne : vf_n64 (FP.ddiv x y)) (kk : G E k n (pc + 1) lv (.double (FP.ddiv x y) :: st) σ τ o) : G E k n pc lv (.double y :: .double x :: st) σ τ o := fun H locs ls hP hS hl => lv_ddiv C.1 C.2.1 d hne (kk H locs ls hP hS hl)
theorem g_dcmp (C : gC E cc nL own ws) {x y : UInt64} {op : CmpOp} (d : decode cc pc = .ok (.dcmp op, 1)) (kk : G E k n (pc + 1) lv (.int (Op.cmpValue (FP.dcmp x y) op) :: st) σ τ o) : G E k n pc lv (.double y :: .double x :: st) σ τ o := fun H locs ls hP hS hl => lv_dcmp C.1 C.2.1 d (kk H locs ls hP hS hl)
theorem g_dup (C : gC E cc nL own ws) {v : Value} (d : decode cc pc = .ok (.dup, 1)) (hc : v.category = 1) (kk : G E k n (pc + 1) lv (v :: v :: st) σ τ o) : G E k n pc lv (v :: st) σ τ o := fun H locs ls hP hS hl => lv_dup C.1 C.2.1 d hc (kk H locs ls hP hS hl)
theorem g_pop (C : gC E cc nL own ws) {v : Value} (d : decode cc pc = .ok (.pop, 1)) (hc : v.category = 1) (kk : G E k n (pc + 1) lv (st) σ τ o) : G E k n pc lv (v :: st) σ τ o := fun H locs ls hP hS hl => lv_pop C.1 C.2.1 d hc (kk H locs ls hP hS hl)
theorem g_dup2 (C : gC E cc nL own ws) {u v : Value} (d : decode cc pc = .ok (.dup2, 1)) (hu : u.category = 1) (hc : v.category = 1) (kk : G E k n (pc + 1) lv (u :: v :: u :: v :: st) σ τ o) : G E k n pc lv (u :: v :: st) σ τ o := fun H locs ls hP hS hl => lv_dup2_11 C.1 C.2.1 d hu hc (kk H locs ls hP hS hl)
theorem g_if_eq (C : gC E cc nL own ws) {x : Int32} {off : Int} {tgt : Nat} (d : decode cc pc = .ok (.ifCond .eq off, 3)) (ht : (pc : Int) + off = (tgt : Int)) (kt : x = 0 → G E k n tgt lv st σ τ o) (kf : ¬ x = 0 → G E k n (pc + 3) lv st σ τ o) : G E k n pc lv (.int x :: st) σ τ o := fun H locs ls hP hS hl => lv_if_eq C.1 C.2.1 d ht (fun h => kt h H locs ls hP hS hl) (fun h => kf h H locs ls hP hS hl)
theorem g_if_ne (C : gC E cc nL own ws) {x : Int32} {off : Int} {tgt : Nat} (d : decode cc pc = .ok (.ifCond .ne off, 3)) (ht : (pc : Int) + off = (tgt : Int)) (kt : ¬ x = 0 → G E k n tgt lv st σ τ o) (kf : x = 0 → G E k n (pc + 3) lv st σ τ o) : G E k n pc lv (.int x :: st) σ τ o := fun H locs ls hP hS hl => lv_if_ne C.1 C.2.1 d ht (fun h => kt h H locs ls hP hS hl) (fun h => kf h H locs ls hP hS hl)
theorem g_if_lt (C : gC E cc nL own ws) {x : Int32} {off : Int} {tgt : Nat} (d : decode cc pc = .ok (.ifCond .lt off, 3)) (ht : (pc : Int) + off = (tgt : Int)) (kt : x < 0 → G E k n tgt lv st σ τ o) (kf : ¬ x < 0 → G E k n (pc + 3) lv st σ τ o) : G E k n pc lv (.int x :: st) σ τ o := fun H locs ls hP hS hl => lv_if_lt C.1 C.2.1 d ht (fun h => kt h H locs ls hP hS hl) (fun h => kf h H locs ls hP hS hl)
theorem g_if_ge (C : gC E cc nL own ws) {x : Int32} {off : Int} {tgt : Nat} (d : decode cc pc = .ok (.ifCond .ge off, 3)) (ht : (pc : Int) + off = (tgt : Int)) (kt : 0 ≤ x → G E k n tgt lv st σ τ o) (kf : ¬ 0 ≤ x → G E k n (pc + 3) lv st σ τ o) : G E k n pc lv (.int x :: st) σ τ o := fun H locs ls hP hS hl => lv_if_ge C.1 C.2.1 d ht (fun h => kt h H locs ls hP hS hl) (fun h => kf h H locs ls hP hS hl)
theorem g_if_gt (C : gC E cc nL own ws) {x : Int32} {off : Int} {tgt : Nat} (d : decode cc pc = .ok (.ifCond .gt off, 3)) (ht : (pc : Int) + off = (tgt : Int)) (kt : 0 < x → G E k n tgt lv st σ τ o) (kf : ¬ 0 < x → G E k n (pc + 3) lv st σ τ o) : G E k n pc lv (.int x :: st) σ τ o := fun H locs ls hP hS hl => lv_if_gt C.1 C.2.1 d ht (fun h => kt h H locs ls hP hS hl) (fun h => kf h H locs ls hP hS hl)
theorem g_if_le (C : gC E cc nL own ws) {x : Int32} {off : Int} {tgt : Nat} (d : decode cc pc = .ok (.ifCond .le off, 3)) (ht : (pc : Int) + off = (tgt : Int)) (kt : x ≤ 0 → G E k n tgt lv st σ τ o) (kf : ¬ x ≤ 0 → G E k n (pc + 3) lv st σ τ o) : G E k n pc lv (.int x :: st) σ τ o := fun H locs ls hP hS hl => lv_if_le C.1 C.2.1 d ht (fun h => kt h H locs ls hP hS hl) (fun h => kf h H locs ls hP hS hl)
theorem g_icmp_eq (C : gC E cc nL own ws) {x y : Int32} {off : Int} {tgt : Nat} (d : decode cc pc = .ok (.if_icmp .eq off, 3)) (ht : (pc : Int) + off = (tgt : Int)) (kt : x = y → G E k n tgt lv st σ τ o) (kf : ¬ x = y → G E k n (pc + 3) lv st σ τ o) : G E k n pc lv (.int y :: .int x :: st) σ τ o := fun H locs ls hP hS hl => lv_icmp_eq C.1 C.2.1 d ht (fun h => kt h H locs ls hP hS hl) (fun h => kf h H locs ls hP hS hl)
theorem g_icmp_ne (C : gC E cc nL own ws) {x y : Int32} {off : Int} {tgt : Nat} (d : decode cc pc = .ok (.if_icmp .ne off, 3)) (ht : (pc : Int) + off = (tgt : Int)) (kt : ¬ x = y → G E k n tgt lv st σ τ o) (kf : x = y → G E k n (pc + 3) lv st σ τ o) : G E k n pc lv (.int y :: .int x :: st) σ τ o := fun H locs ls hP hS hl => lv_icmp_ne C.1 C.2.1 d ht (fun h => kt h H locs ls hP hS hl) (fun h => kf h H locs ls hP hS hl)
theorem g_icmp_lt (C : gC E cc nL own ws) {x y : Int32} {off : Int} {tgt : Nat} (d : decode cc pc = .ok (.if_icmp .lt off, 3)) (ht : (pc : Int) + off = (tgt : Int)) (kt : x < y → G E k n tgt lv st σ τ o) (kf : ¬ x < y → G E k n (pc + 3) lv st σ τ o) : G E k n pc lv (.int y :: .int x :: st) σ τ o := fun H locs ls hP hS hl => lv_icmp_lt C.1 C.2.1 d ht (fun h => kt h H locs ls hP hS hl) (fun h => kf h H locs ls hP hS hl)
theorem g_icmp_ge (C : gC E cc nL own ws) {x y : Int32} {off : Int} {tgt : Nat} (d : decode cc pc = .ok (.if_icmp .ge off, 3)) (ht : (pc : Int) + off = (tgt : Int)) (kt : y ≤ x → G E k n tgt lv st σ τ o) (kf : ¬ y ≤ x → G E k n (pc + 3) lv st σ τ o) : G E k n pc lv (.int y :: .int x :: st) σ τ o := fun H locs ls hP hS hl => lv_icmp_ge C.1 C.2.1 d ht (fun h => kt h H locs ls hP hS hl) (fun h => kf h H locs ls hP hS hl)
theorem g_icmp_gt (C : gC E cc nL own ws) {x y : Int32} {off : Int} {tgt : Nat} (d : decode cc pc = .ok (.if_icmp .gt off, 3)) (ht : (pc : Int) + off = (tgt : Int)) (kt : y < x → G E k n tgt lv st σ τ o) (kf : ¬ y < x → G E k n (pc + 3) lv st σ τ o) : G E k n pc lv (.int y :: .int x :: st) σ τ o := fun H locs ls hP hS hl => lv_icmp_gt C.1 C.2.1 d ht (fun h => kt h H locs ls hP hS hl) (fun h => kf h H locs ls hP hS hl)
theorem g_icmp_le (C : gC E cc nL own ws) {x y : Int32} {off : Int} {tgt : Nat} (d : decode cc pc = .ok (.if_icmp .le off, 3)) (ht : (pc : Int) + off = (tgt : Int)) (kt : x ≤ y → G E k n tgt lv st σ τ o) (kf : ¬ x ≤ y → G E k n (pc + 3) lv st σ τ o) : G E k n pc lv (.int y :: .int x :: st) σ τ o := fun H locs ls hP hS hl => lv_icmp_le C.1 C.2.1 d ht (fun h => kt h H locs ls hP hS hl) (fun h => kf h H locs ls hP hS hl)
theorem g_goto (C : gC E cc nL own ws) {off : Int} {tgt : Nat} (d : decode cc pc = .ok (.goto off, 3)) (ht : (pc : Int) + off = (tgt : Int)) (kk : G E k n tgt lv st σ τ o) : G E k n pc lv st σ τ o := fun H locs ls hP hS hl => lv_goto C.1 C.2.1 d ht (kk H locs ls hP hS hl)
/-- a field of the class's object -/
theorem g_getX (C : gC E cc nL own ws) {idx : Nat} (c : Nat) {v : Value} (d : decode cc pc = .ok (.getfield idx, 3)) (hin : ∀ w ∈ wsX00, w ∈ ws) (hk : c < 18) (hw : Cond.fieldLink own idx RX0 (TX0 c).2.1 (TX0 c).2.2.1 ∈ ws) (hT : (TX0 c).1 = RX0) (hv : (wW (eG E) σ τ o)[0]?.bind (fun q => match q.2 with | .inr (_, fs) => fs[c]? | .inl _ => none) = some v) (kk : G E k n (pc + 3) lv (v :: st) σ τ o) : G E k n pc lv (.ref ((eG E).2.1 100) :: st) σ τ o := fun H locs ls hP hS hl =>
  va_get (D := (eG E).1) (cl := vwCl) (C := RX0) (T := TX0) (N := 18) (ci := 0) (ref := RX0) C.1 C.2.1 C.2.2.2.2.1 hin C.2.2.2.1 C.2.2.2.2.2.1 hP 0 rfl rfl c hk (C.2.2.2.2.1 _ hw) (fun _ h => by rw [← hT]; exact h) hv d (kk H locs ls hP hS hl)
theorem uD_of (C : gC E cc nL own ws) : va_D (eA E) (wW (eG E) σ τ o) := uD_any C.2.2.2.2.2.2.2.1
theorem g_putX (C : gC E cc nL own ws) {idx : Nat} (c : Nat) {x : Int32} (d : decode cc pc = .ok (.putfield idx, 3)) (hin : ∀ w ∈ wsX00, w ∈ ws) (hk : c < 18) (hw : Cond.fieldLink own idx RX0 (TX0 c).2.1 (TX0 c).2.2.1 ∈ ws) (hT : (TX0 c).1 = RX0) (hf : (TX0 c).2.2.2 = false) (hd : parseFieldDescriptor (TX0 c).2.2.1 = some .int) (he : (wW (eG E) σ τ o).set 0 ((eG E).2.1 100, .inr (0, [.ref ((eG E).2.1 0), .ref ((eG E).2.1 1), .ref ((eG E).2.1 2), .int (σ 3), .int (σ 4), .int (σ 5), .int (σ 6), .ref ((eG E).2.1 7), .ref ((eG E).2.1 8), .int (σ 9), .int (σ 10), .int (σ 11), .ref ((eG E).2.1 12), .ref ((eG E).2.1 13), .ref ((eG E).2.1 14), .ref ((eG E).2.1 15), .ref ((eG E).2.1 16), .ref ((eG E).2.1 17)].set c (.int x))) = wW (eG E) (uS σ c x) τ o) (kk : G E k n (pc + 3) lv st (uS σ c x) τ o) : G E k n pc lv (.int x :: .ref ((eG E).2.1 100) :: st) σ τ o := fun H locs ls hP hS hl =>
  va_put (D := (eG E).1) (cl := vwCl) (C := RX0) (T := TX0) (N := 18) (ci := 0) (ref := RX0) (ty := .int) (v := .int x) C.1 C.2.1 C.2.2.2.2.1 hin tyX0 tyX0_ok nmX0 C.2.2.2.1 C.2.2.2.2.2.1 hP (uD_of C) hS 0 rfl rfl c hk (C.2.2.2.2.1 _ hw) (fun _ h => by rw [← hT]; exact h) hf hd rfl rfl hk d (fun H1 locs1 hP1 _ hS1 => kk H1 locs1 ls (by rw [he] at hP1; exact hP1) hS1 hl)
/-- an element of an int array, a boolean array, of out -/
theorem g_iald (C : gC E cc nL own ws) {c : Nat} {i : Int32} (d : decode cc pc = .ok (.iaload, 1)) (ha : (wW (eG E) σ τ o)[gAp c]? = some ((eG E).2.1 c, .inl ((eG E).2.2.1, gAl c, .inl (τ c)))) (hi : vp_in i (gAl c)) (kk : G E k n (pc + 1) lv (.int (τ c i.toNatClampNeg) :: st) σ τ o) : G E k n pc lv (.int i :: .ref ((eG E).2.1 c) :: st) σ τ o := fun H locs ls hP hS hl => va_iald C.1 C.2.1 C.2.2.2.2.2.1 hP (gAp c) 0 ha rfl hi d (kk H locs ls hP hS hl)
theorem g_ialdN (C : gC E cc nL own ws) {c : Nat} {i : Int32} (j : Nat) (d : decode cc pc = .ok (.iaload, 1)) (ha : (wW (eG E) σ τ o)[gAp c]? = some ((eG E).2.1 c, .inl ((eG E).2.2.1, gAl c, .inl (τ c)))) (he : i = nI j) (hj : j < gAl c) (hz : gAl c < 19) (kk : G E k n (pc + 1) lv (.int (τ c j) :: st) σ τ o) : G E k n pc lv (.int i :: .ref ((eG E).2.1 c) :: st) σ τ o := by
  subst he
  have h2 : j < 2 ^ 31 := Nat.lt_trans hj (Nat.lt_trans hz (by decide))
  refine g_iald C d ha (vp_in_nI hj (Nat.lt_trans hz (by decide))) ?_
  rw [nI_clamp h2]
  exact kk
theorem g_zald (C : gC E cc nL own ws) {c : Nat} {i : Int32} (d : decode cc pc = .ok (.baload, 1)) (ha : (wW (eG E) σ τ o)[gAp c]? = some ((eG E).2.1 c, .inl ((eG E).2.2.2.1, gAl c, .inl (τ c)))) (hi : vp_in i (gAl c)) (kk : G E k n (pc + 1) lv (.int (τ c i.toNatClampNeg) :: st) σ τ o) : G E k n pc lv (.int i :: .ref ((eG E).2.1 c) :: st) σ τ o := fun H locs ls hP hS hl => va_zald C.1 C.2.1 C.2.2.2.2.2.1 hP (gAp c) 1 ha rfl hi d (kk H locs ls hP hS hl)
theorem g_zaldN (C : gC E cc nL own ws) {c : Nat} {i : Int32} (j : Nat) (d : decode cc pc = .ok (.baload, 1)) (ha : (wW (eG E) σ τ o)[gAp c]? = some ((eG E).2.1 c, .inl ((eG E).2.2.2.1, gAl c, .inl (τ c)))) (he : i = nI j) (hj : j < gAl c) (hz : gAl c < 19) (kk : G E k n (pc + 1) lv (.int (τ c j) :: st) σ τ o) : G E k n pc lv (.int i :: .ref ((eG E).2.1 c) :: st) σ τ o := by
  subst he
  have h2 : j < 2 ^ 31 := Nat.lt_trans hj (Nat.lt_trans hz (by decide))
  refine g_zald C d ha (vp_in_nI hj (Nat.lt_trans hz (by decide))) ?_
  rw [nI_clamp h2]
  exact kk
theorem g_iast (C : gC E cc nL own ws) {c : Nat} {i x : Int32} (j : Nat) (d : decode cc pc = .ok (.iastore, 1)) (ha : (wW (eG E) σ τ o)[gAp c]? = some ((eG E).2.1 c, .inl ((eG E).2.2.1, gAl c, .inl (τ c)))) (he : i.toNatClampNeg = j) (hi : vp_in i (gAl c)) (hw : (wW (eG E) σ τ o).set (gAp c) ((eG E).2.1 c, .inl ((eG E).2.2.1, gAl c, .inl (upd (τ c) j x))) = wW (eG E) σ (uT τ c j x) o) (kk : G E k n (pc + 1) lv st σ (uT τ c j x) o) : G E k n pc lv (.int x :: .int i :: .ref ((eG E).2.1 c) :: st) σ τ o := fun H locs ls hP hS hl => va_iast C.1 C.2.1 C.2.2.2.2.2.1 hP (uD_of C) hS (gAp c) 0 ha rfl hi d (fun H1 locs1 hP1 _ hS1 => kk H1 locs1 ls (by rw [he, hw] at hP1; exact hP1) hS1 hl)
theorem g_iastN (C : gC E cc nL own ws) {c : Nat} {i x : Int32} (j : Nat) (d : decode cc pc = .ok (.iastore, 1)) (ha : (wW (eG E) σ τ o)[gAp c]? = some ((eG E).2.1 c, .inl ((eG E).2.2.1, gAl c, .inl (τ c)))) (he : i = nI j) (hj : j < gAl c) (hz : gAl c < 19) (hw : (wW (eG E) σ τ o).set (gAp c) ((eG E).2.1 c, .inl ((eG E).2.2.1, gAl c, .inl (upd (τ c) j x))) = wW (eG E) σ (uT τ c j x) o) (kk : G E k n (pc + 1) lv st σ (uT τ c j x) o) : G E k n pc lv (.int x :: .int i :: .ref ((eG E).2.1 c) :: st) σ τ o := by
  subst he
  exact g_iast C j d ha (nI_clamp (Nat.lt_trans hj (Nat.lt_trans hz (by decide)))) (vp_in_nI hj (Nat.lt_trans hz (by decide))) hw kk
theorem g_zast (C : gC E cc nL own ws) {c : Nat} {i x : Int32} (j : Nat) (d : decode cc pc = .ok (.bastore, 1)) (ha : (wW (eG E) σ τ o)[gAp c]? = some ((eG E).2.1 c, .inl ((eG E).2.2.2.1, gAl c, .inl (τ c)))) (he : i.toNatClampNeg = j) (hi : vp_in i (gAl c)) (hx : x = 0 ∨ x = 1) (hw : (wW (eG E) σ τ o).set (gAp c) ((eG E).2.1 c, .inl ((eG E).2.2.2.1, gAl c, .inl (upd (τ c) j x))) = wW (eG E) σ (uT τ c j x) o) (kk : G E k n (pc + 1) lv st σ (uT τ c j x) o) : G E k n pc lv (.int x :: .int i :: .ref ((eG E).2.1 c) :: st) σ τ o := fun H locs ls hP hS hl => va_zast C.1 C.2.1 C.2.2.2.2.2.1 hP (uD_of C) hS (gAp c) 1 ha rfl hi d (fun H1 locs1 hP1 _ hS1 => kk H1 locs1 ls (by rw [he, show vp_nar .boolean x = x by rcases hx with rfl | rfl <;> rfl, hw] at hP1; exact hP1) hS1 hl)
theorem g_zastN (C : gC E cc nL own ws) {c : Nat} {i x : Int32} (j : Nat) (d : decode cc pc = .ok (.bastore, 1)) (ha : (wW (eG E) σ τ o)[gAp c]? = some ((eG E).2.1 c, .inl ((eG E).2.2.2.1, gAl c, .inl (τ c)))) (he : i = nI j) (hj : j < gAl c) (hz : gAl c < 19) (hx : x = 0 ∨ x = 1) (hw : (wW (eG E) σ τ o).set (gAp c) ((eG E).2.1 c, .inl ((eG E).2.2.2.1, gAl c, .inl (upd (τ c) j x))) = wW (eG E) σ (uT τ c j x) o) (kk : G E k n (pc + 1) lv st σ (uT τ c j x) o) : G E k n pc lv (.int x :: .int i :: .ref ((eG E).2.1 c) :: st) σ τ o := by
  subst he
  exact g_zast C j d ha (nI_clamp (Nat.lt_trans hj (Nat.lt_trans hz (by decide)))) (vp_in_nI hj (Nat.lt_trans hz (by decide))) hx hw kk
/-- Math.max, Math.min -/
theorem g_mmax (C : gC E cc nL own ws) {idx : Nat} {x y : Int32} (d : decode cc pc = .ok (.invokestatic idx, 3)) (h1 : Cond.methodLink own idx Lib.Math.max.name ∈ ws) (h2 : Cond.static Lib.Math.max.name ∈ ws) (h3 : Cond.initialized "java/lang/Math" ∈ ws) (h4 : Cond.code Lib.Math.max.name Lib.Math.max.code 2 (some .int) ∈ ws) (hR : 1 ≤ (eR E).frames ∧ (st.map fun v => v.category).sum + 13 ≤ (eR E).locals ∧ k ≤ (eR E).cells ∧ n ≤ (eR E).slots) (kk : G E k n (pc + 3) lv (.int (if x < y then y else x) :: st) σ τ o) : G E k n pc lv (.int y :: .int x :: st) σ τ o := fun H locs ls hP hS hl => va_mmax C.1 C.2.1 hl.1.symm C.2.2.2.1 (C.2.2.2.2.1 _ h1) (C.2.2.2.2.1 _ h2) (C.2.2.2.2.1 _ h3) (C.2.2.2.2.1 _ h4) hR.1 hR.2.1 hR.2.2.1 hR.2.2.2 d (kk H locs ls hP hS hl)
theorem g_mmin (C : gC E cc nL own ws) {idx : Nat} {x y : Int32} (d : decode cc pc = .ok (.invokestatic idx, 3)) (h1 : Cond.methodLink own idx Lib.Math.min.name ∈ ws) (h2 : Cond.static Lib.Math.min.name ∈ ws) (h3 : Cond.initialized "java/lang/Math" ∈ ws) (h4 : Cond.code Lib.Math.min.name Lib.Math.min.code 2 (some .int) ∈ ws) (hR : 1 ≤ (eR E).frames ∧ (st.map fun v => v.category).sum + 13 ≤ (eR E).locals ∧ k ≤ (eR E).cells ∧ n ≤ (eR E).slots) (kk : G E k n (pc + 3) lv (.int (if y < x then y else x) :: st) σ τ o) : G E k n pc lv (.int y :: .int x :: st) σ τ o := fun H locs ls hP hS hl => va_mmin C.1 C.2.1 hl.1.symm C.2.2.2.1 (C.2.2.2.2.1 _ h1) (C.2.2.2.2.1 _ h2) (C.2.2.2.2.1 _ h3) (C.2.2.2.2.1 _ h4) hR.1 hR.2.1 hR.2.2.1 hR.2.2.2 d (kk H locs ls hP hS hl)
/-- the ends -/
theorem g_end {post : gPost} {px : gPX} {mc ms : Nat} {ret : Option FieldType} {v : Option Value} (C : gC E cc nL own ws) (hq : post v σ τ o) {H : Heap} {locs : List Loc} (hP : va_P (eG E).1 vwCl (wW (eG E) σ τ o) H) (hS : va_S (eA E) (eS E).heap H locs) : ∀ t : State, t.heap = H → (eS E).WarmedH t.vm → uQ (eG E) (eA E) post (eV E) (eS E) (.returned v) t :=
  fun t ht hW => ⟨⟨v, σ, τ, o, rfl, hq, by rw [ht]; exact hP, va_K.moved hW.alike C.2.2.2.2.2.1⟩, hS.F ht⟩
theorem g_iret {post : gPost} {px : gPX} {mc ms : Nat} {v : Int32} (C : gC E cc nL own ws) (F : gF E post px mc ms (some .int)) (d : decode cc pc = .ok (.ireturn, 1)) (hk : k ≤ mc) (hn : n ≤ ms) (hq : post (some (.int v)) σ τ o) : G E k n pc lv [.int v] σ τ o := fun H locs ls hP hS hl => by
  rw [F.1]
  exact W.widen hk hn (vx_ret (W.iret C.1 C.2.1 F.2.2 (g_end (px := px) (mc := mc) (ms := ms) (ret := none) C hq hP hS) hS.2.2 d F.2.1))
theorem g_zret {post : gPost} {px : gPX} {mc ms : Nat} {v : Int32} (C : gC E cc nL own ws) (F : gF E post px mc ms (some .boolean)) (d : decode cc pc = .ok (.ireturn, 1)) (hv : v = 0 ∨ v = 1) (hk : k ≤ mc) (hn : n ≤ ms) (hq : post (some (.int v)) σ τ o) : G E k n pc lv [.int v] σ τ o := fun H locs ls hP hS hl => by
  rw [F.1]
  exact W.widen hk hn (vx_ret (W.zret C.1 C.2.1 F.2.2 (by rcases hv with rfl | rfl <;> rfl) (g_end (px := px) (mc := mc) (ms := ms) (ret := none) C hq hP hS) hS.2.2 d F.2.1))
theorem g_vret {post : gPost} {px : gPX} {mc ms : Nat} (C : gC E cc nL own ws) (F : gF E post px mc ms none) (d : decode cc pc = .ok (.return_, 1)) (hk : k ≤ mc) (hn : n ≤ ms) (hq : post none σ τ o) : G E k n pc lv [] σ τ o := fun H locs ls hP hS hl => by
  rw [F.1]
  exact W.widen hk hn (vx_ret (W.vret C.1 C.2.1 F.2.2 (g_end (px := px) (mc := mc) (ms := ms) (ret := none) C hq hP hS) hS.2.2 d F.2.1))
theorem g_lret {post : gPost} {px : gPX} {mc ms : Nat} {v : Int64} (C : gC E cc nL own ws) (F : gF E post px mc ms (some .long)) (d : decode cc pc = .ok (.lreturn, 1)) (hk : k ≤ mc) (hn : n ≤ ms) (hq : post (some (.long v)) σ τ o) : G E k n pc lv [.long v] σ τ o := fun H locs ls hP hS hl => by
  rw [F.1]
  exact W.widen hk hn (vx_ret (W.lret C.1 C.2.1 F.2.2 (g_end (px := px) (mc := mc) (ms := ms) (ret := none) C hq hP hS) hS.2.2 d F.2.1))
theorem g_dret {post : gPost} {px : gPX} {mc ms : Nat} {v : UInt64} (C : gC E cc nL own ws) (F : gF E post px mc ms (some .double)) (d : decode cc pc = .ok (.dreturn, 1)) (hk : k ≤ mc) (hn : n ≤ ms) (hq : post (some (.double v)) σ τ o) : G E k n pc lv [.double v] σ τ o := fun H locs ls hP hS hl => by
  rw [F.1]
  exact W.widen hk hn (vx_ret (W.dret C.1 C.2.1 F.2.2 (g_end (px := px) (mc := mc) (ms := ms) (ret := none) C hq hP hS) hS.2.2 d F.2.1))
end GR
