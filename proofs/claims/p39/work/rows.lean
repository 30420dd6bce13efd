section
-- ===== PART A: goes FIRST, ahead of the names: the tables' words, and 'selects' of the private methods out of them =====
/-- a private method of a class that the tables say can be made, by its rows of tables_1 -/
def lw_okq (q : MethodName × Nat) : Prop := (q.1.cls ≠ "java/lang/invoke/MethodHandle" ∧ q.1.cls ≠ "java/lang/invoke/VarHandle") ∧ Cond.instantiable q.1.cls q.2 ∈ tables_1 ∧ Cond.privateMethod q.1 ∈ tables_1 ∧ Cond.instanceMethod q.1 ∈ tables_1
theorem lw_p0 : lw_okq (⟨"java/lang/Throwable", "fillInStackTrace", "(I)Ljava/lang/Throwable;"⟩, 6) := ⟨⟨by decide +kernel, by decide +kernel⟩, List.mem_of_getElem? (i := 123) (by decide +kernel), List.mem_of_getElem? (i := 121) (by decide +kernel), List.mem_of_getElem? (i := 122) (by decide +kernel)⟩
theorem lw_p1 : lw_okq (⟨"TelegraphPrices", "countOfPair", "(II)I"⟩, 18) := ⟨⟨by decide +kernel, by decide +kernel⟩, List.mem_of_getElem? (i := 12) (by decide +kernel), List.mem_of_getElem? (i := 161) (by decide +kernel), List.mem_of_getElem? (i := 162) (by decide +kernel)⟩
theorem lw_p2 : lw_okq (⟨"TelegraphPrices", "countOfLetters", "(I)I"⟩, 18) := ⟨⟨by decide +kernel, by decide +kernel⟩, List.mem_of_getElem? (i := 12) (by decide +kernel), List.mem_of_getElem? (i := 165) (by decide +kernel), List.mem_of_getElem? (i := 166) (by decide +kernel)⟩
theorem lw_p3 : lw_okq (⟨"TelegraphPrices", "atLeastTheLeastCount", "(I)I"⟩, 18) := ⟨⟨by decide +kernel, by decide +kernel⟩, List.mem_of_getElem? (i := 12) (by decide +kernel), List.mem_of_getElem? (i := 169) (by decide +kernel), List.mem_of_getElem? (i := 170) (by decide +kernel)⟩
theorem lw_p4 : lw_okq (⟨"TelegraphPrices", "needWord", "(I)V"⟩, 18) := ⟨⟨by decide +kernel, by decide +kernel⟩, List.mem_of_getElem? (i := 12) (by decide +kernel), List.mem_of_getElem? (i := 200) (by decide +kernel), List.mem_of_getElem? (i := 201) (by decide +kernel)⟩
theorem lw_p5 : lw_okq (⟨"TelegraphPrices", "needPlace", "(I)V"⟩, 18) := ⟨⟨by decide +kernel, by decide +kernel⟩, List.mem_of_getElem? (i := 12) (by decide +kernel), List.mem_of_getElem? (i := 246) (by decide +kernel), List.mem_of_getElem? (i := 247) (by decide +kernel)⟩
theorem lw_p6 : lw_okq (⟨"TelegraphPrices", "noteLeastCounts", "()V"⟩, 18) := ⟨⟨by decide +kernel, by decide +kernel⟩, List.mem_of_getElem? (i := 12) (by decide +kernel), List.mem_of_getElem? (i := 270) (by decide +kernel), List.mem_of_getElem? (i := 271) (by decide +kernel)⟩
theorem lw_p7 : lw_okq (⟨"TelegraphPrices", "bestWordAt", "(I)I"⟩, 18) := ⟨⟨by decide +kernel, by decide +kernel⟩, List.mem_of_getElem? (i := 12) (by decide +kernel), List.mem_of_getElem? (i := 274) (by decide +kernel), List.mem_of_getElem? (i := 275) (by decide +kernel)⟩
theorem lw_p8 : lw_okq (⟨"TelegraphPrices", "mayHold", "(II)Z"⟩, 18) := ⟨⟨by decide +kernel, by decide +kernel⟩, List.mem_of_getElem? (i := 12) (by decide +kernel), List.mem_of_getElem? (i := 279) (by decide +kernel), List.mem_of_getElem? (i := 280) (by decide +kernel)⟩
theorem lw_p9 : lw_okq (⟨"TelegraphPrices", "bestPairAt", "(I)I"⟩, 18) := ⟨⟨by decide +kernel, by decide +kernel⟩, List.mem_of_getElem? (i := 12) (by decide +kernel), List.mem_of_getElem? (i := 283) (by decide +kernel), List.mem_of_getElem? (i := 284) (by decide +kernel)⟩
theorem lw_p10 : lw_okq (⟨"TelegraphPrices", "leastInAll", "([I)I"⟩, 18) := ⟨⟨by decide +kernel, by decide +kernel⟩, List.mem_of_getElem? (i := 12) (by decide +kernel), List.mem_of_getElem? (i := 287) (by decide +kernel), List.mem_of_getElem? (i := 288) (by decide +kernel)⟩
theorem lw_p11 : lw_okq (⟨"TelegraphPrices", "noteCheapestWording", "()V"⟩, 18) := ⟨⟨by decide +kernel, by decide +kernel⟩, List.mem_of_getElem? (i := 12) (by decide +kernel), List.mem_of_getElem? (i := 298) (by decide +kernel), List.mem_of_getElem? (i := 299) (by decide +kernel)⟩
theorem lw_p12 : lw_okq (⟨"TelegraphPrices", "noteCheapestAt", "(IIZ)V"⟩, 18) := ⟨⟨by decide +kernel, by decide +kernel⟩, List.mem_of_getElem? (i := 12) (by decide +kernel), List.mem_of_getElem? (i := 302) (by decide +kernel), List.mem_of_getElem? (i := 303) (by decide +kernel)⟩
theorem lw_p13 : lw_okq (⟨"TelegraphPrices", "couldBeJoined", "(I)Z"⟩, 18) := ⟨⟨by decide +kernel, by decide +kernel⟩, List.mem_of_getElem? (i := 12) (by decide +kernel), List.mem_of_getElem? (i := 441) (by decide +kernel), List.mem_of_getElem? (i := 442) (by decide +kernel)⟩
def lw_privs_1 : List (MethodName × Nat) := [(⟨"java/lang/Throwable", "fillInStackTrace", "(I)Ljava/lang/Throwable;"⟩, 6), (⟨"TelegraphPrices", "countOfPair", "(II)I"⟩, 18), (⟨"TelegraphPrices", "countOfLetters", "(I)I"⟩, 18), (⟨"TelegraphPrices", "atLeastTheLeastCount", "(I)I"⟩, 18), (⟨"TelegraphPrices", "needWord", "(I)V"⟩, 18), (⟨"TelegraphPrices", "needPlace", "(I)V"⟩, 18), (⟨"TelegraphPrices", "noteLeastCounts", "()V"⟩, 18), (⟨"TelegraphPrices", "bestWordAt", "(I)I"⟩, 18), (⟨"TelegraphPrices", "mayHold", "(II)Z"⟩, 18), (⟨"TelegraphPrices", "bestPairAt", "(I)I"⟩, 18), (⟨"TelegraphPrices", "leastInAll", "([I)I"⟩, 18), (⟨"TelegraphPrices", "noteCheapestWording", "()V"⟩, 18), (⟨"TelegraphPrices", "noteCheapestAt", "(IIZ)V"⟩, 18), (⟨"TelegraphPrices", "couldBeJoined", "(I)Z"⟩, 18)]
theorem lw_r1 : ∀ q ∈ lw_privs_1, lw_okq q := List.forall_mem_cons.mpr ⟨lw_p0, List.forall_mem_cons.mpr ⟨lw_p1, List.forall_mem_cons.mpr ⟨lw_p2, List.forall_mem_cons.mpr ⟨lw_p3, List.forall_mem_cons.mpr ⟨lw_p4, List.forall_mem_cons.mpr ⟨lw_p5, List.forall_mem_cons.mpr ⟨lw_p6, List.forall_mem_cons.mpr ⟨lw_p7, List.forall_mem_cons.mpr ⟨lw_p8, List.forall_mem_cons.mpr ⟨lw_p9, List.forall_mem_cons.mpr ⟨lw_p10, List.forall_mem_cons.mpr ⟨lw_p11, List.forall_mem_cons.mpr ⟨lw_p12, List.forall_mem_cons.mpr ⟨lw_p13, fun _ h => absurd h List.not_mem_nil⟩⟩⟩⟩⟩⟩⟩⟩⟩⟩⟩⟩⟩⟩
def lw_privs : List (MethodName × Nat) := lw_privs_1
def lw_tbl : List Cond := k2_sels lw_privs ++ tables_1
theorem lw_privs_ok : ∀ q ∈ lw_privs, lw_okq q := lw_r1
/-- the streams that the claim lets the run draw from -/
abbrev lw_cs : List Choice := [Jvm.Choice.named "NaN.bits"]
theorem lw_bits : nanBits ∈ lw_cs := by first | decide | exact List.mem_cons_self | simp [lw_cs, nanBits]
-- ===== end of PART A; then your names; then what follows =====
end
section
/-! ===== BEGIN words of one list among another's, by their places ===== -/
theorem goodIn_r {big : List Cond} (ws : List Cond) (ps : List Nat) (hp : ws = ps.filterMap (fun i => big[i]?)) (h : ws.all goodWord = true) : GoodIn big ws := by
  intro w hw
  have h1 := List.all_eq_true.mp h w hw
  rw [hp] at hw
  obtain ⟨i, -, hi⟩ := List.mem_filterMap.mp hw
  have hm : w ∈ big := by first | exact List.mem_of_getElem? hi | exact List.getElem?_mem hi
  exact ⟨hm, good_of_word h1⟩
theorem goodIn_app {big a b : List Cond} (ha : GoodIn big a) (hb : GoodIn big b) : GoodIn big (a ++ b) := fun w h => (List.mem_append.mp h).elim (ha w) (hb w)
theorem goodIn_ca {big a b : List Cond} {c : Cond} (ha : GoodIn big (c :: a)) (hb : GoodIn big b) : GoodIn big (c :: (a ++ b)) := fun w h => (List.mem_cons.mp h).elim (fun e => ha w (List.mem_cons.mpr (Or.inl e))) (fun h => (List.mem_append.mp h).elim (fun h => ha w (List.mem_cons.mpr (Or.inr h))) (hb w))
theorem goodIn_sub {big ws : List Cond} (hm : ∀ w ∈ ws, w ∈ big) (h : ws.all goodWord = true) : GoodIn big ws := fun w hw => ⟨hm w hw, good_of_word (List.all_eq_true.mp h w hw)⟩
/-! ===== END ===== -/


/-! ===== BEGIN exceptions that leave a method, and their catching by the caller (launches without stack traces) ===== -/
section VXA
/-! The laws vx_back, vx_callV, vx_callS, vx_callSW, vx_throw0, vx_throwS follow proofs of the library, with one case more: JvmDerived/Free/Laws.lean (Back.of_free), Shelf42/LK1.lean (callV, callS), Shelf/KitTraced.lean (throwNew0V, throwNewS). -/
/-- where a method has thrown q: the class by its name, the cell, what was written, the world -/
def vx_T (XC : String → State → State → Prop) (st : State) (q : Addr) (t : State) (mc ms : Nat) (free : Addr → Prop) : Prop :=
  ∃ (E : String) (ce : Cell) (L : List Loc), XC E st t ∧ t.heap[q]? = some ce ∧ ce.vm = .none ∧ st.vm.findClass E = some ce.cls ∧ st.WarmedH t.vm ∧ st.sameButNew ({ t with vm := st.vm } : State) L mc ms ∧ ∀ z ∈ L, free z.base
def vx_Q (Qc : Array Value → State → Outcome → State → Prop) (XC : String → State → State → Prop) (mc ms : Nat) (free : Addr → Prop) : Array Value → State → Outcome → State → Prop := fun a st o t =>
  (Qc a st o t ∧ ∃ L, FrameEnd st o t L mc ms ∧ ∀ q ∈ L, free q.base) ∨ ∃ q, o = .threw q ∧ vx_T XC st q t mc ms free
/-- a callee that returns or throws -/
def vx_Met (l : Launch) (y : MethodName) (ws : List Cond) (rm : Room) (Pc : Array Value → State → Prop) (Qc : Array Value → State → Outcome → State → Prop) (XC : String → State → State → Prop) (mc ms : Nat) (free : Addr → Prop) : Prop :=
  MetFree l y (headSpec ws rm) Pc (fun _ _ _ _ _ => True) (vx_Q Qc XC mc ms free)
def vx_Post (XC : String → State → State → Prop) (mc ms : Nat) (free : Addr → Prop) : Pt → Array Value → Addr → Pt → Prop := fun A a q B =>
  ∃ (g : JFrame) (mk : MethodId) (t : State) (L : List Loc) (E : String) (ce : Cell), B.U.heap = t.heap ∧ B.U.vm = t.vm ∧ XC E (A.U.calling g mk a) t ∧ t.heap[q]? = some ce ∧ ce.vm = .none ∧ A.U.vm.findClass E = some ce.cls ∧ B.locs = A.locs ++ L ∧ (∀ z ∈ L, free z.base) ∧ B.cells = A.cells + mc ∧ B.slots = A.slots + ms
def vx_Back (l : Launch) (R : Room) (p : Program) (e : Env) (below : List Frame) (s : State) (sargs : Array Value) (y : MethodName) (len W9 : Nat)
    (Pre : Pt → Array Value → Prop) (Post : Pt → Array Value → Option Value → Pt → Prop) (PostX : Pt → Array Value → Addr → Pt → Prop) : Prop :=
  ∀ (m : MethodId) (meth : Method) (c : Code) (A : Pt) (g : JFrame) (ig : Instr) (mk : MethodId) (a : Array Value),
    Stand p l e R s m sargs below meth c A.U A.locs A.cells A.slots → g.method = m → g.locals.size = c.maxLocals → decode c.code g.pc = .ok (ig, len) →
    2 * g.monitorRoom + (g.stack.map fun v => v.category).sum ≤ W9 → A.U.methodNamed? y = some mk → Pre A a →
    (∃ (v : Option Value) (B : Pt), Stand p l e R s m sargs below meth c B.U B.locs B.cells B.slots ∧ Post A a v B ∧
      Steps p.tables e below (doInvoke e (A.U.setTop g) [] mk a).1 (B.U.setTop { g with pc := g.pc + len, stack := v.toList ++ g.stack })) ∨
    (∃ (q : Addr) (B : Pt), Stand p l e R s m sargs below meth c B.U B.locs B.cells B.slots ∧ PostX A a q B ∧
      Steps p.tables e below (doInvoke e (A.U.setTop g) [] mk a).1 ((B.U.setTop g).pushFrame (.throwing q)))
section Payer
variable {l : Launch} {R : Room} {p : Program} {e : Env} {below : List Frame} {s : State} {sargs : Array Value} {y : MethodName} {len W9 : Nat}
theorem vx_back {ws : List Cond} {rm : Room} {Pc : Array Value → State → Prop} {Qc : Array Value → State → Outcome → State → Prop} {XC : String → State → State → Prop} {mc ms : Nat} {free : Addr → Prop} {bytes : ByteArray} {maxL : Nat} {ret : Option FieldType}
    (hM : vx_Met l y ws rm Pc Qc XC mc ms free) (hblind : FrameBlind Pc) (hrc : rm.cells = mc) (hrs : rm.slots = ms)
    (hframes : rm.frames + 1 ≤ R.frames) (hlocals : W9 + (maxL + 11) + rm.locals ≤ R.locals)
    (hws : ∀ w ∈ ws, ∀ a' U, s.WarmedH U.vm → w.before a' U = true) (hcode : Cond.code y bytes maxL ret ∈ ws) (hinit : ∀ a' U, s.WarmedH U.vm → (Cond.initialized y.cls).before a' U = true) :
    vx_Back l R p e below s sargs y len W9 (PreOf R mc ms Pc) (PostOf Qc mc ms free) (vx_Post XC mc ms free) := by
  intro m meth c A g ig mk a X hg hsize hdg hW hn hp
  have h1 : (headSpec ws rm).pre.before a A.U = true := atoms_intro fun w hw => hws w hw _ _ X.warmed
  have h2 : (Cond.code y bytes maxL ret).before a A.U = true := hws _ hcode _ _ X.warmed
  have h3 : (Cond.initialized y.cls).before a A.U = true := hinit _ _ X.warmed
  have h4 : A.cells + (headSpec ws rm).room.cells ≤ R.cells := by rw [show (headSpec ws rm).room.cells = mc from hrc]; exact hp.1
  have h5 : A.slots + (headSpec ws rm).room.slots ≤ R.slots := by rw [show (headSpec ws rm).room.slots = ms from hrs]; exact hp.2.1
  have hPc : Pc a (A.U.calling g mk a) := hblind _ _ _ _ hp.2.2
  obtain ⟨U, Ls, c0, s0⟩ := A
  dsimp only [Pt.U, Pt.locs, Pt.cells, Pt.slots] at h1 h2 h3 h4 h5 X hn hPc ⊢
  obtain ⟨methY, cY, hmY, hcY, -, hlY, -, -, -, -⟩ := Cond.code_spec hn h2
  obtain ⟨kY, hkY, -⟩ := className_of_methodNamed hn
  have hinitY : kY.init = .initialized := Cond.initialized_spec (findClass_of_methodNamed hn) hkY h3
  have h : At U g.method c below := by rw [hg]; exact X.here
  have hlocals9 : W9 + (maxL + 11) + (headSpec ws rm).room.locals ≤ R.locals := hlocals
  have happ : (headSpec ws rm).appliesLoose y e.platform (U.calling g mk a) = true :=
    Spec.appliesLoose_calling (g := g) h hdg hn hkY hinitY
      (X.room_calling (g := g) (R' := (headSpec ws rm).room) hsize hmY hcY hframes (by rw [hlY]; omega) h4 h5) h1
  obtain ⟨mid, hmid⟩ := h.above
  have hfr : (U.setTop g).frames = (.java g :: mid) ++ below := by rw [State.frames_setTop' g h.top, hmid]; rfl
  obtain ⟨o, s₂, hsteps, -, hend, hq⟩ := Steps.callFree hM p X.admits X.cas X.clock (acts := []) hfr happ hPc trivial
  have hq' : vx_Q Qc XC mc ms free a (U.calling g mk a) o s₂ := hq
  rw [State.frames_setTop' g h.top] at hend
  obtain ⟨g₀, hg0⟩ := Option.isSome_iff_exists.mp h.top
  obtain ⟨r, hr⟩ := State.topJava?_eq_some.mp hg0
  have hr' : (({ U with heap := s₂.heap, slotsUsed := s₂.slotsUsed } : State).setVm s₂.vm).frames = .java g₀ :: r := hr
  rcases hq' with ⟨hqc, L, hfe, hL⟩ | ⟨q, rfl, E, ce, L, hx, hce, hcv, hcl, hW₂, hsm, hL⟩
  · obtain ⟨⟨v, rfl⟩, hW₂, e2, q2, q3, q4, q5, q6⟩ := id hfe
    have e3 : s₂ = ({ (U.calling g mk a).setFrames s₂.frames with heap := s₂.heap, slotsUsed := s₂.slotsUsed } : State).setVm s₂.vm := by
      have : s₂ = ({ s₂ with vm := (U.calling g mk a).vm } : State).setVm s₂.vm := rfl
      rw [e2] at this
      exact this
    obtain ⟨c₂, i₂, len₂, hc₂, hd₂, hf₂⟩ := hend
    have hW' : U.WarmedH s₂.vm := hW₂
    have hcc : c₂ = c := by
      have h1 : s₂.code? g.method = U.code? g.method := by
        rw [State.code?_eq, State.code?_eq, hW'.alike.method?]
      exact Option.some.inj (hc₂.symm.trans (h1.trans h.code))
    subst hcc
    have hlen : len₂ = len := by rw [hdg] at hd₂; cases hd₂; rfl
    subst hlen
    have hs₂ : s₂ = (({ U with heap := s₂.heap, slotsUsed := s₂.slotsUsed } : State).setVm s₂.vm).setTop { g with pc := g.pc + len₂, stack := v.toList ++ g.stack } := by
      refine e3.trans ?_
      rw [hf₂, State.calling_eq h.top, State.setFrames_setFrames, State.setTop_of_frames _ hr', hr]
      rfl
    have hsame : U.sameButNew ({ U with heap := s₂.heap, slotsUsed := s₂.slotsUsed } : State) L mc ms := by
      refine ⟨?_, q2, q3, q4, q5, q6⟩
      obtain ⟨t, ht, -⟩ := State.frames_cons hr
      show ({ U with heap := s₂.heap, slotsUsed := s₂.slotsUsed } : State) = { U.setFrames U.frames with heap := s₂.heap, slotsUsed := s₂.slotsUsed }
      rw [State.setFrames_self ht]
    subst hg
    refine Or.inl ⟨v, ⟨(({ U with heap := s₂.heap, slotsUsed := s₂.slotsUsed } : State).setVm s₂.vm), Ls ++ L, c0 + mc, s0 + ms⟩,
      ⟨X.admits, X.cas, X.clock, X.frames, X.room, X.hears, X.method, X.code, (X.here.setHeapUsed s₂.heap s₂.slotsUsed).setVm hW'.alike, X.tail, State.WarmedH.trans X.warmed hW', X.limits, X.bytes, X.same.trans (hsame.setVm s.vm)⟩,
      ⟨g, mk, s₂, L, rfl, rfl, hqc, rfl, hL, rfl, rfl⟩, ?_⟩
    show Steps p.tables e below _ ((({ U with heap := s₂.heap, slotsUsed := s₂.slotsUsed } : State).setVm s₂.vm).setTop { g with pc := g.pc + len₂, stack := v.toList ++ g.stack })
    rw [← hs₂]
    exact hsteps
  · obtain ⟨e2, q2, q3, q4, q5, q6⟩ := id hsm
    have e3 : s₂ = ({ (U.calling g mk a).setFrames s₂.frames with heap := s₂.heap, slotsUsed := s₂.slotsUsed } : State).setVm s₂.vm := by
      have : s₂ = ({ s₂ with vm := (U.calling g mk a).vm } : State).setVm s₂.vm := rfl
      rw [e2] at this
      exact this
    have hf₂ : s₂.frames = .throwing q :: .java g :: U.frames.tail := hend
    have hW' : U.WarmedH s₂.vm := hW₂
    have hs₂ : s₂ = ((({ U with heap := s₂.heap, slotsUsed := s₂.slotsUsed } : State).setVm s₂.vm).setTop g).pushFrame (.throwing q) := by
      refine e3.trans ?_
      rw [hf₂, State.calling_eq h.top, State.setFrames_setFrames, State.pushFrame, State.frames_setTop _ hr', State.setTop_of_frames _ hr', State.setFrames_setFrames, hr]
      rfl
    have hsame : U.sameButNew ({ U with heap := s₂.heap, slotsUsed := s₂.slotsUsed } : State) L mc ms := by
      refine ⟨?_, q2, q3, q4, q5, q6⟩
      obtain ⟨t, ht, -⟩ := State.frames_cons hr
      show ({ U with heap := s₂.heap, slotsUsed := s₂.slotsUsed } : State) = { U.setFrames U.frames with heap := s₂.heap, slotsUsed := s₂.slotsUsed }
      rw [State.setFrames_self ht]
    subst hg
    refine Or.inr ⟨q, ⟨(({ U with heap := s₂.heap, slotsUsed := s₂.slotsUsed } : State).setVm s₂.vm), Ls ++ L, c0 + mc, s0 + ms⟩,
      ⟨X.admits, X.cas, X.clock, X.frames, X.room, X.hears, X.method, X.code, (X.here.setHeapUsed s₂.heap s₂.slotsUsed).setVm hW'.alike, X.tail, State.WarmedH.trans X.warmed hW', X.limits, X.bytes, X.same.trans (hsame.setVm s.vm)⟩,
      ⟨g, mk, s₂, L, E, ce, rfl, rfl, hx, hce, hcv, hcl, rfl, hL, rfl, rfl⟩, ?_⟩
    show Steps p.tables e below _ (((({ U with heap := s₂.heap, slotsUsed := s₂.slotsUsed } : State).setVm s₂.vm).setTop g).pushFrame (.throwing q))
    rw [← hs₂]
    exact hsteps
end Payer
section Calls
variable {p : Program} {l : Launch} {e : Env} {R : Room} {s : State} {m : MethodId} {args : Array Value} {below : List Frame} {meth : Method} {c : Code} {T : State} {locs : List Loc} {cells slots : Nat}
theorem vx_callV (X : Stand p l e R s m args below meth c T locs cells slots) (hexec : p.tables.exec = Jvm.exec) {own C : String} {index : Nat} {y : MethodName} {bytes : ByteArray} {maxL : Nat} {ret : Option FieldType}
    (hown : s.vm.findClass own = some m.cls) (hlink : (Cond.methodLink own index y).before args s = true) (hinst : (Cond.instanceMethod y).before args s = true) (hsel : (Cond.selects C y y).before args s = true)
    (hcode : (Cond.code y bytes maxL ret).before args s = true) (hy : y.cls ≠ "java/lang/invoke/MethodHandle" ∧ y.cls ≠ "java/lang/invoke/VarHandle")
    {W9 : Nat} {Pre : Pt → Array Value → Prop} {Post : Pt → Array Value → Option Value → Pt → Prop} {PostX : Pt → Array Value → Addr → Pt → Prop} (hK : vx_Back l R p e below s args y 3 W9 Pre Post PostX)
    {b : Addr} {cellB : Cell} (hcell : T.heap[b]? = some cellB) (hobj : cellB.vm.isStatics = false) (hcls : s.vm.findClass C = some cellB.cls)
    {g : JFrame} (hg : g.method = m) (hsize : g.locals.size = c.maxLocals) {argsL rest : List Value} (hlen : ∀ sig, parseMethodDescriptor y.desc = some sig → argsL.length = sig.parameters.length)
    (hstack : g.stack = argsL.reverse ++ .ref b :: rest) (hW : 2 * g.monitorRoom + (rest.map fun v => v.category).sum ≤ W9) (hdg : decode c.code g.pc = .ok (.invokevirtual index, 3))
    (hpre : ∀ vm₁, s.WarmedH vm₁ → Pre ⟨T.setVm vm₁, locs, cells, slots⟩ (Value.ref b :: argsL).toArray) :
    (∃ (v : Option Value) (vm₁ : Vm) (B : Pt), s.WarmedH vm₁ ∧ Stand p l e R s m args below meth c B.U B.locs B.cells B.slots ∧ Post ⟨T.setVm vm₁, locs, cells, slots⟩ (Value.ref b :: argsL).toArray v B ∧
      ∀ target, Steps p.tables e below (B.U.setTop { g with pc := g.pc + 3, stack := v.toList ++ rest }) target → Steps p.tables e below (T.setTop g) target) ∨
    (∃ (q : Addr) (vm₁ : Vm) (B : Pt), s.WarmedH vm₁ ∧ Stand p l e R s m args below meth c B.U B.locs B.cells B.slots ∧ PostX ⟨T.setVm vm₁, locs, cells, slots⟩ (Value.ref b :: argsL).toArray q B ∧
      Steps p.tables e below (T.setTop g) ((B.U.setTop { g with stack := rest }).pushFrame (.throwing q))) := by
  obtain ⟨mk, methM, hnamed, hmethM, hstM, habM⟩ := Cond.instanceMethod_spec hinst
  obtain ⟨methM', cM, hmethM', -, -, -, -, -, -, hsigM⟩ := Cond.code_spec hnamed hcode
  cases hmethM.symm.trans hmethM'
  obtain ⟨c2, r2, m2, q1, q2, q3, q4, kP, hkP, hkPi⟩ := Cond.selects_spec hsel
  cases hcls.symm.trans q1
  cases (State.methodFound?_of_named hnamed hy).symm.trans q2
  cases hnamed.symm.trans q3
  have hselP : selectMethod e.platform s.vm cellB.cls mk = .method mk := by rw [Launch.admits_selectMethod X.admits]; exact q4
  obtain ⟨vm₁, X₁, hstep₁⟩ := X.invokevirtual hexec hown hlink hnamed hmethM hstM hkP hkPi hy (a := b) (cell := cellB) hcell
    (fun z h => by rw [h] at hobj; cases hobj) hselP hmethM habM hkP hkPi (g := g) hg (argsL := argsL) (rest := rest) (hlen _ hsigM) hstack hdg
  rcases hK m meth c ⟨T.setVm vm₁, locs, cells, slots⟩ { g with stack := rest } (.invokevirtual index) mk (Value.ref b :: argsL).toArray X₁ hg hsize hdg hW (X₁.named hnamed) (hpre vm₁ X₁.warmed) with ⟨v, B, X', hpost, hsteps⟩ | ⟨q, B, X', hpost, hsteps⟩
  · exact Or.inl ⟨v, vm₁, B, X₁.warmed, X', hpost, fun target h => hstep₁ _ fun acts => by rw [doInvoke_state]; exact hsteps.trans h⟩
  · exact Or.inr ⟨q, vm₁, B, X₁.warmed, X', hpost, hstep₁ _ fun acts => by rw [doInvoke_state]; exact hsteps⟩
theorem vx_callS (X : Stand p l e R s m args below meth c T locs cells slots) (hexec : p.tables.exec = Jvm.exec) {own : String} {index : Nat} {y : MethodName} {bytes : ByteArray} {maxL : Nat} {ret : Option FieldType}
    (hown : s.vm.findClass own = some m.cls) (hlink : (Cond.methodLink own index y).before args s = true) (hstat : (Cond.static y).before args s = true) (hinit : (Cond.initialized y.cls).before args s = true)
    (hcode : (Cond.code y bytes maxL ret).before args s = true) (hy : y.cls ≠ "java/lang/invoke/MethodHandle" ∧ y.cls ≠ "java/lang/invoke/VarHandle")
    {W9 : Nat} {Pre : Pt → Array Value → Prop} {Post : Pt → Array Value → Option Value → Pt → Prop} {PostX : Pt → Array Value → Addr → Pt → Prop} (hK : vx_Back l R p e below s args y 3 W9 Pre Post PostX)
    {g : JFrame} (hg : g.method = m) (hsize : g.locals.size = c.maxLocals) {argsL rest : List Value} (hlen : ∀ sig, parseMethodDescriptor y.desc = some sig → argsL.length = sig.parameters.length)
    (hstack : g.stack = argsL.reverse ++ rest) (hW : 2 * g.monitorRoom + (rest.map fun v => v.category).sum ≤ W9) (hdg : decode c.code g.pc = .ok (.invokestatic index, 3))
    (hpre : ∀ vm₁, s.WarmedH vm₁ → Pre ⟨T.setVm vm₁, locs, cells, slots⟩ argsL.toArray) :
    (∃ (v : Option Value) (vm₁ : Vm) (B : Pt), s.WarmedH vm₁ ∧ Stand p l e R s m args below meth c B.U B.locs B.cells B.slots ∧ Post ⟨T.setVm vm₁, locs, cells, slots⟩ argsL.toArray v B ∧
      ∀ target, Steps p.tables e below (B.U.setTop { g with pc := g.pc + 3, stack := v.toList ++ rest }) target → Steps p.tables e below (T.setTop g) target) ∨
    (∃ (q : Addr) (vm₁ : Vm) (B : Pt), s.WarmedH vm₁ ∧ Stand p l e R s m args below meth c B.U B.locs B.cells B.slots ∧ PostX ⟨T.setVm vm₁, locs, cells, slots⟩ argsL.toArray q B ∧
      Steps p.tables e below (T.setTop g) ((B.U.setTop { g with stack := rest }).pushFrame (.throwing q))) := by
  obtain ⟨mk, hnamed⟩ := Cond.code_named hcode
  obtain ⟨methM, cM, hmethM, -, -, -, -, -, -, hsigM⟩ := Cond.code_spec hnamed hcode
  have hstatic : methM.isStatic = true := Cond.static_spec hnamed hmethM hstat
  obtain ⟨kP, hkP, -⟩ := className_of_methodNamed hnamed
  have hinitP : kP.init = .initialized := Cond.initialized_spec (findClass_of_methodNamed hnamed) hkP hinit
  obtain ⟨vm₁, X₁, hstep₁⟩ := X.invokestatic hexec hown hlink hnamed hmethM hstatic hkP hinitP hy (g := g) hg (argsL := argsL) (rest := rest) (hlen _ hsigM) hstack hdg
  rcases hK m meth c ⟨T.setVm vm₁, locs, cells, slots⟩ { g with stack := rest } (.invokestatic index) mk argsL.toArray X₁ hg hsize hdg hW (X₁.named hnamed) (hpre vm₁ X₁.warmed) with ⟨v, B, X', hpost, hsteps⟩ | ⟨q, B, X', hpost, hsteps⟩
  · exact Or.inl ⟨v, vm₁, B, X₁.warmed, X', hpost, fun target h => hstep₁ _ fun acts => by rw [doInvoke_state]; exact hsteps.trans h⟩
  · exact Or.inr ⟨q, vm₁, B, X₁.warmed, X', hpost, hstep₁ _ fun acts => by rw [doInvoke_state]; exact hsteps⟩
end Calls
theorem vx_cls {s : State} {T : State} {vm₁ : Vm} {E : String} {k : ClassId} (hW : s.WarmedH vm₁) (h : (T.setVm vm₁).vm.findClass E = some k) : s.vm.findClass E = some k := by
  have h1 : vm₁.findClass E = some k := h
  rw [hW.alike.findClass] at h1
  exact h1
/-- the method's frame g, with q thrown over it -/
def vx_W (p : Program) (l : Launch) (e : Env) (R : Room) (s : State) (m : MethodId) (args : Array Value) (below : List Frame) (meth : Method) (c : Code) (H : Heap) (locs : List Loc) (cells slots : Nat) (Q : State → Prop) (g : JFrame) (q : Addr) : Prop :=
  ∀ T : State, T.heap = H → Stand p l e R s m args below meth c T locs cells slots → ∃ t, Steps p.tables e below ((T.setTop g).pushFrame (.throwing q)) t ∧ Q t
def vx_Run (p : Program) (l : Launch) (e : Env) (R : Room) (s : State) (m : MethodId) (args : Array Value) (below : List Frame) (meth : Method) (c : Code) (H : Heap) (locs : List Loc) (cells slots mc ms : Nat) (g : JFrame) (rest : List Value) (Qa : State → Outcome → State → Prop) (XC : String → State → State → Prop) (free : Addr → Prop) : Prop :=
  ∀ T : State, T.heap = H → Stand p l e R s m args below meth c T locs cells slots →
    (∃ (v : Option Value) (st₀ t T' : State) (L : List Loc), st₀.heap = H ∧ Stand p l e R s m args below meth c T' (locs ++ L) (cells + mc) (slots + ms) ∧ (∀ q ∈ L, free q.base) ∧ T'.heap = t.heap ∧ T'.vm = t.vm ∧ Qa st₀ (.returned v) t ∧
      Goes p e below T g T' { g with pc := g.pc + 3, stack := v.toList ++ rest }) ∨
    (∃ (q : Addr) (st₀ t T' : State) (L : List Loc) (E : String) (ce : Cell), st₀.heap = H ∧ Stand p l e R s m args below meth c T' (locs ++ L) (cells + mc) (slots + ms) ∧ (∀ z ∈ L, free z.base) ∧ T'.heap = t.heap ∧ T'.vm = t.vm ∧ XC E st₀ t ∧ t.heap[q]? = some ce ∧ ce.vm = .none ∧ s.vm.findClass E = some ce.cls ∧
      Steps p.tables e below (T.setTop g) ((T'.setTop { g with stack := rest }).pushFrame (.throwing q)))
def vx_X {S : Type} (px : S → Prop) (B : String → S → State → Prop) (A : Nat → Prop) : String → State → State → Prop := fun E st t => ∃ u : S, px u ∧ B E u t ∧ va_F A st t
section Runs
variable {p : Program} {l : Launch} {e : Env} {R : Room} {s : State} {m : MethodId} {args : Array Value} {below : List Frame} {meth : Method} {c : Code} {H : Heap} {locs : List Loc} {cells slots : Nat}
variable {y : MethodName} {bytes cc : ByteArray} {maxL nL mc ms n index : Nat} {ret : Option FieldType} {ws : List Cond} {rm : Room} {Pc : Array Value → State → Prop} {Qc : Array Value → State → Outcome → State → Prop} {XC : String → State → State → Prop} {free : Addr → Prop} {Ts : List Cond} {own C : String} {b : Addr} {As rest : List Value} {g : JFrame}
theorem vx_callBack (cb : CallB R s args own index y bytes maxL ret ws rm mc ms n) (hM : vx_Met l y ws rm Pc Qc XC mc ms free) (hbl : FrameBlind Pc) : vx_Back l R p e below s args y 3 8 (PreOf R mc ms Pc) (PostOf Qc mc ms free) (vx_Post XC mc ms free) := by
  obtain ⟨hrc, hrs, hfr, hlo, hws, hcw, -, hini, -⟩ := cb
  exact vx_back (bytes := bytes) (maxL := maxL) (ret := ret) hM hbl hrc hrs hfr hlo hws hcw (fun a' U hW => word_at hW (Or.inl (by first | rfl | simp [Cond.onTables, Cond.keeps, Cond.steady])) hini)
theorem vx_runV (S : CallFix p m c cc nL s args Ts own) (hM : vx_Met l y ws rm Pc Qc XC mc ms free) (cw : CallW R s args own C index y bytes maxL ret ws rm mc ms n) (hp : PreV s H C b Pc As)
    (hg : g.method = m) (hn : As.length = n) (hsize : g.locals.size = nL) (hstack : g.stack = As.reverse ++ .ref b :: rest) (hW : 2 * g.monitorRoom + (rest.map fun v => v.category).sum ≤ 8) (hdg : decode cc g.pc = .ok (.invokevirtual index, 3)) (hf : cells + mc ≤ R.cells ∧ slots + ms ≤ R.slots) :
    vx_Run p l e R s m args below meth c H locs cells slots mc ms g rest (Qc (Value.ref b :: As).toArray) XC free := by
  have hK : vx_Back l R p e below s args y 3 8 (PreOf R mc ms Pc) (PostOf Qc mc ms free) (vx_Post XC mc ms free) := vx_callBack cw.1 hM hp.1
  obtain ⟨⟨-, -, -, -, -, -, hcode, -, hy, hlen, hl⟩, hin, hse⟩ := cw
  obtain ⟨hx, hb, hml, ho, -⟩ := S
  obtain ⟨-, ⟨cellB, hcB, hoB, hclB⟩, hPc⟩ := hp
  intro T hT X
  rcases vx_callV X hx (C := C) (bytes := bytes) (maxL := maxL) (ret := ret) ho hl hin hse hcode hy hK (by rw [hT]; exact hcB) hoB hclB hg (hsize.trans hml.symm) (argsL := As) (rest := rest) (fun sig h => hn.trans (hlen sig h)) hstack hW (by rw [hb]; exact hdg)
    (fun vm₁ hW₁ => ⟨hf.1, hf.2, hPc (T.setVm vm₁) hT hW₁⟩) with ⟨v, vm₁, ⟨U', l2, c2, s2⟩, hW₁, X', ⟨g', mk, t, L, e1, e2, hq, h1, hL, h2, h3⟩, st⟩ | ⟨q, vm₁, ⟨U', l2, c2, s2⟩, hW₁, X', ⟨g', mk, t, L, E, ce, e1, e2, hq, hce, hcv, hcl, h1, hL, h2, h3⟩, st⟩
  · dsimp only [Pt.U, Pt.locs, Pt.cells, Pt.slots] at X' e1 e2 h1 h2 h3 st
    subst h1; subst h2; subst h3
    exact Or.inl ⟨v, (T.setVm vm₁).calling g' mk (Value.ref b :: As).toArray, t, U', L, hT, X', hL, e1, e2, hq, st⟩
  · dsimp only [Pt.U, Pt.locs, Pt.cells, Pt.slots] at X' e1 e2 h1 h2 h3 st hcl
    subst h1; subst h2; subst h3
    exact Or.inr ⟨q, (T.setVm vm₁).calling g' mk (Value.ref b :: As).toArray, t, U', L, E, ce, hT, X', hL, e1, e2, hq, hce, hcv, vx_cls hW₁ hcl, st⟩
theorem vx_runS (S : CallFix p m c cc nL s args Ts own) (hM : vx_Met l y ws rm Pc Qc XC mc ms free) (cw : CallB R s args own index y bytes maxL ret ws rm mc ms n ∧ (Cond.static y).before args s = true) (hp : PreS s H Pc As)
    (hg : g.method = m) (hn : As.length = n) (hsize : g.locals.size = nL) (hstack : g.stack = As.reverse ++ rest) (hW : 2 * g.monitorRoom + (rest.map fun v => v.category).sum ≤ 8) (hdg : decode cc g.pc = .ok (.invokestatic index, 3)) (hf : cells + mc ≤ R.cells ∧ slots + ms ≤ R.slots) :
    vx_Run p l e R s m args below meth c H locs cells slots mc ms g rest (Qc As.toArray) XC free := by
  have hK : vx_Back l R p e below s args y 3 8 (PreOf R mc ms Pc) (PostOf Qc mc ms free) (vx_Post XC mc ms free) := vx_callBack cw.1 hM hp.1
  obtain ⟨⟨-, -, -, -, -, -, hcode, hini, hy, hlen, hl⟩, hstt⟩ := cw
  obtain ⟨hx, hb, hml, ho, -⟩ := S
  intro T hT X
  rcases vx_callS X hx (bytes := bytes) (maxL := maxL) (ret := ret) ho hl hstt hini hcode hy hK hg (hsize.trans hml.symm) (argsL := As) (rest := rest) (fun sig h => hn.trans (hlen sig h)) hstack hW (by rw [hb]; exact hdg)
    (fun vm₁ hW₁ => ⟨hf.1, hf.2, hp.2 (T.setVm vm₁) hT hW₁⟩) with ⟨v, vm₁, ⟨U', l2, c2, s2⟩, hW₁, X', ⟨g', mk, t, L, e1, e2, hq, h1, hL, h2, h3⟩, st⟩ | ⟨q, vm₁, ⟨U', l2, c2, s2⟩, hW₁, X', ⟨g', mk, t, L, E, ce, e1, e2, hq, hce, hcv, hcl, h1, hL, h2, h3⟩, st⟩
  · dsimp only [Pt.U, Pt.locs, Pt.cells, Pt.slots] at X' e1 e2 h1 h2 h3 st
    subst h1; subst h2; subst h3
    exact Or.inl ⟨v, (T.setVm vm₁).calling g' mk As.toArray, t, U', L, hT, X', hL, e1, e2, hq, st⟩
  · dsimp only [Pt.U, Pt.locs, Pt.cells, Pt.slots] at X' e1 e2 h1 h2 h3 st hcl
    subst h1; subst h2; subst h3
    exact Or.inr ⟨q, (T.setVm vm₁).calling g' mk As.toArray, t, U', L, E, ce, hT, X', hL, e1, e2, hq, hce, hcv, vx_cls hW₁ hcl, st⟩
end Runs
section Rows
variable {p : Program} {l : Launch} {e : Env} {R : Room} {s : State} {m : MethodId} {args : Array Value} {below : List Frame} {meth : Method} {c : Code} {H : Heap} {locs : List Loc} {cells slots : Nat} {Q : State → Prop}
variable {mc ms : Nat} {free : Addr → Prop} {A0 A1 : Nat → Prop} {H0 : Heap} {a : Array Value} {pc : Nat} {ls : Array Slot} {st0 rest : List Value}
theorem vx_keep {st₀ t T' : State} {L : List Loc} (h0 : st₀.heap = H) (e1 : T'.heap = t.heap) (hS : va_S A0 H0 H locs) (hA : ∀ q, q < H.size → A1 q → A0 q) (hf : ∀ q, free q → A0 q) (hL : ∀ q ∈ L, free q.base) (hF : va_F A1 st₀ t) :
    H.size ≤ T'.heap.size ∧ (∀ q : Nat, q < H.size → ¬ A1 q → T'.heap[q]? = H[q]?) ∧ va_S A0 H0 T'.heap (locs ++ L) := by
  obtain ⟨hz, hk⟩ := hF
  rw [h0] at hz hk
  exact ⟨by rw [e1]; exact hz, fun q h1 h2 => by rw [e1]; exact hk q h1 h2,
    ⟨Nat.le_trans hS.1 (by rw [e1]; exact hz), fun q h1 h2 => by rw [e1, hk q (Nat.lt_of_lt_of_le h1 hS.1) (fun z => h2 (hA q (Nat.lt_of_lt_of_le h1 hS.1) z))]; exact hS.2.1 q h1 h2, fun q hq => by
      rcases List.mem_append.mp hq with h | h
      · exact hS.2.2 q h
      · exact hf _ (hL q h)⟩⟩
theorem vx_calli {S SX : Type} {post : Int32 → S → Prop} {px : SX → Prop} {B : S → State → Prop} {BX : String → SX → State → Prop} {AX : Nat → Prop} (hr : vx_Run p l e R s m args below meth c H locs cells slots mc ms (F0 m pc ls st0) rest (va_Qi post B A1 a) (vx_X px BX AX) free) (hS : va_S A0 H0 H locs) (hA : ∀ q, q < H.size → A1 q → A0 q) (hf : ∀ q, free q → A0 q) (hAX : ∀ q, q < H.size → AX q → A0 q)
    (kx : ∀ (E : String) (ce : Cell) (q9 : Addr) (u : SX) (t : State) (H1 : Heap) (locs1 : List Loc), t.heap = H1 → s.vm.Alike t.vm → px u → BX E u t → H.size ≤ H1.size → (∀ q : Nat, q < H.size → ¬ AX q → H1[q]? = H[q]?) → va_S A0 H0 H1 locs1 → H1[q9]? = some ce → ce.vm = .none → s.vm.findClass E = some ce.cls → vx_W p l e R s m args below meth c H1 locs1 (cells + mc) (slots + ms) Q (F0 m pc ls rest) q9)
    (kk : ∀ (r : Int32) (u : S) (t : State) (H1 : Heap) (locs1 : List Loc), t.heap = H1 → s.vm.Alike t.vm → post r u → B u t → H.size ≤ H1.size → (∀ q : Nat, q < H.size → ¬ A1 q → H1[q]? = H[q]?) → va_S A0 H0 H1 locs1 → W p l e R s m args below meth c H1 locs1 (cells + mc) (slots + ms) Q (F0 m (pc + 3) ls (.int r :: rest))) : W p l e R s m args below meth c H locs cells slots Q (F0 m pc ls st0) := by
  intro T hT X
  rcases hr T hT X with ⟨v, st₀, t, T', L, h0, X', hL, e1, e2, ⟨⟨r, u, hv, hp, hb⟩, hF⟩, st⟩ | ⟨q, st₀, t, T', L, E, ce, h0, X', hL, e1, e2, ⟨u, hp, hb, hF⟩, hce, hcv, hcl, st⟩
  · cases hv
    obtain ⟨k1, k2, k3⟩ := vx_keep h0 e1 hS hA hf hL hF
    obtain ⟨t2, a1, b1⟩ := kk r u t T'.heap (locs ++ L) e1.symm (by rw [← e2]; exact X'.warmed.alike) hp hb k1 k2 k3 T' rfl X'
    exact ⟨t2, st t2 a1, b1⟩
  · obtain ⟨k1, k2, k3⟩ := vx_keep h0 e1 hS hAX hf hL hF
    obtain ⟨t2, a1, b1⟩ := kx E ce q u t T'.heap (locs ++ L) e1.symm (by rw [← e2]; exact X'.warmed.alike) hp hb k1 k2 k3 (by rw [e1]; exact hce) hcv hcl T' rfl X'
    exact ⟨t2, st.trans a1, b1⟩
theorem vx_calll {S SX : Type} {post : Int64 → S → Prop} {px : SX → Prop} {B : S → State → Prop} {BX : String → SX → State → Prop} {AX : Nat → Prop} (hr : vx_Run p l e R s m args below meth c H locs cells slots mc ms (F0 m pc ls st0) rest (va_Ql post B A1 a) (vx_X px BX AX) free) (hS : va_S A0 H0 H locs) (hA : ∀ q, q < H.size → A1 q → A0 q) (hf : ∀ q, free q → A0 q) (hAX : ∀ q, q < H.size → AX q → A0 q)
    (kx : ∀ (E : String) (ce : Cell) (q9 : Addr) (u : SX) (t : State) (H1 : Heap) (locs1 : List Loc), t.heap = H1 → s.vm.Alike t.vm → px u → BX E u t → H.size ≤ H1.size → (∀ q : Nat, q < H.size → ¬ AX q → H1[q]? = H[q]?) → va_S A0 H0 H1 locs1 → H1[q9]? = some ce → ce.vm = .none → s.vm.findClass E = some ce.cls → vx_W p l e R s m args below meth c H1 locs1 (cells + mc) (slots + ms) Q (F0 m pc ls rest) q9)
    (kk : ∀ (r : Int64) (u : S) (t : State) (H1 : Heap) (locs1 : List Loc), t.heap = H1 → s.vm.Alike t.vm → post r u → B u t → H.size ≤ H1.size → (∀ q : Nat, q < H.size → ¬ A1 q → H1[q]? = H[q]?) → va_S A0 H0 H1 locs1 → W p l e R s m args below meth c H1 locs1 (cells + mc) (slots + ms) Q (F0 m (pc + 3) ls (.long r :: rest))) : W p l e R s m args below meth c H locs cells slots Q (F0 m pc ls st0) := by
  intro T hT X
  rcases hr T hT X with ⟨v, st₀, t, T', L, h0, X', hL, e1, e2, ⟨⟨r, u, hv, hp, hb⟩, hF⟩, st⟩ | ⟨q, st₀, t, T', L, E, ce, h0, X', hL, e1, e2, ⟨u, hp, hb, hF⟩, hce, hcv, hcl, st⟩
  · cases hv
    obtain ⟨k1, k2, k3⟩ := vx_keep h0 e1 hS hA hf hL hF
    obtain ⟨t2, a1, b1⟩ := kk r u t T'.heap (locs ++ L) e1.symm (by rw [← e2]; exact X'.warmed.alike) hp hb k1 k2 k3 T' rfl X'
    exact ⟨t2, st t2 a1, b1⟩
  · obtain ⟨k1, k2, k3⟩ := vx_keep h0 e1 hS hAX hf hL hF
    obtain ⟨t2, a1, b1⟩ := kx E ce q u t T'.heap (locs ++ L) e1.symm (by rw [← e2]; exact X'.warmed.alike) hp hb k1 k2 k3 (by rw [e1]; exact hce) hcv hcl T' rfl X'
    exact ⟨t2, st.trans a1, b1⟩
theorem vx_callf {S SX : Type} {post : UInt32 → S → Prop} {px : SX → Prop} {B : S → State → Prop} {BX : String → SX → State → Prop} {AX : Nat → Prop} (hr : vx_Run p l e R s m args below meth c H locs cells slots mc ms (F0 m pc ls st0) rest (va_Qf post B A1 a) (vx_X px BX AX) free) (hS : va_S A0 H0 H locs) (hA : ∀ q, q < H.size → A1 q → A0 q) (hf : ∀ q, free q → A0 q) (hAX : ∀ q, q < H.size → AX q → A0 q)
    (kx : ∀ (E : String) (ce : Cell) (q9 : Addr) (u : SX) (t : State) (H1 : Heap) (locs1 : List Loc), t.heap = H1 → s.vm.Alike t.vm → px u → BX E u t → H.size ≤ H1.size → (∀ q : Nat, q < H.size → ¬ AX q → H1[q]? = H[q]?) → va_S A0 H0 H1 locs1 → H1[q9]? = some ce → ce.vm = .none → s.vm.findClass E = some ce.cls → vx_W p l e R s m args below meth c H1 locs1 (cells + mc) (slots + ms) Q (F0 m pc ls rest) q9)
    (kk : ∀ (r : UInt32) (u : S) (t : State) (H1 : Heap) (locs1 : List Loc), t.heap = H1 → s.vm.Alike t.vm → post r u → B u t → H.size ≤ H1.size → (∀ q : Nat, q < H.size → ¬ A1 q → H1[q]? = H[q]?) → va_S A0 H0 H1 locs1 → W p l e R s m args below meth c H1 locs1 (cells + mc) (slots + ms) Q (F0 m (pc + 3) ls (.float r :: rest))) : W p l e R s m args below meth c H locs cells slots Q (F0 m pc ls st0) := by
  intro T hT X
  rcases hr T hT X with ⟨v, st₀, t, T', L, h0, X', hL, e1, e2, ⟨⟨r, u, hv, hp, hb⟩, hF⟩, st⟩ | ⟨q, st₀, t, T', L, E, ce, h0, X', hL, e1, e2, ⟨u, hp, hb, hF⟩, hce, hcv, hcl, st⟩
  · cases hv
    obtain ⟨k1, k2, k3⟩ := vx_keep h0 e1 hS hA hf hL hF
    obtain ⟨t2, a1, b1⟩ := kk r u t T'.heap (locs ++ L) e1.symm (by rw [← e2]; exact X'.warmed.alike) hp hb k1 k2 k3 T' rfl X'
    exact ⟨t2, st t2 a1, b1⟩
  · obtain ⟨k1, k2, k3⟩ := vx_keep h0 e1 hS hAX hf hL hF
    obtain ⟨t2, a1, b1⟩ := kx E ce q u t T'.heap (locs ++ L) e1.symm (by rw [← e2]; exact X'.warmed.alike) hp hb k1 k2 k3 (by rw [e1]; exact hce) hcv hcl T' rfl X'
    exact ⟨t2, st.trans a1, b1⟩
theorem vx_calld {S SX : Type} {post : UInt64 → S → Prop} {px : SX → Prop} {B : S → State → Prop} {BX : String → SX → State → Prop} {AX : Nat → Prop} (hr : vx_Run p l e R s m args below meth c H locs cells slots mc ms (F0 m pc ls st0) rest (va_Qd post B A1 a) (vx_X px BX AX) free) (hS : va_S A0 H0 H locs) (hA : ∀ q, q < H.size → A1 q → A0 q) (hf : ∀ q, free q → A0 q) (hAX : ∀ q, q < H.size → AX q → A0 q)
    (kx : ∀ (E : String) (ce : Cell) (q9 : Addr) (u : SX) (t : State) (H1 : Heap) (locs1 : List Loc), t.heap = H1 → s.vm.Alike t.vm → px u → BX E u t → H.size ≤ H1.size → (∀ q : Nat, q < H.size → ¬ AX q → H1[q]? = H[q]?) → va_S A0 H0 H1 locs1 → H1[q9]? = some ce → ce.vm = .none → s.vm.findClass E = some ce.cls → vx_W p l e R s m args below meth c H1 locs1 (cells + mc) (slots + ms) Q (F0 m pc ls rest) q9)
    (kk : ∀ (r : UInt64) (u : S) (t : State) (H1 : Heap) (locs1 : List Loc), t.heap = H1 → s.vm.Alike t.vm → post r u → B u t → H.size ≤ H1.size → (∀ q : Nat, q < H.size → ¬ A1 q → H1[q]? = H[q]?) → va_S A0 H0 H1 locs1 → W p l e R s m args below meth c H1 locs1 (cells + mc) (slots + ms) Q (F0 m (pc + 3) ls (.double r :: rest))) : W p l e R s m args below meth c H locs cells slots Q (F0 m pc ls st0) := by
  intro T hT X
  rcases hr T hT X with ⟨v, st₀, t, T', L, h0, X', hL, e1, e2, ⟨⟨r, u, hv, hp, hb⟩, hF⟩, st⟩ | ⟨q, st₀, t, T', L, E, ce, h0, X', hL, e1, e2, ⟨u, hp, hb, hF⟩, hce, hcv, hcl, st⟩
  · cases hv
    obtain ⟨k1, k2, k3⟩ := vx_keep h0 e1 hS hA hf hL hF
    obtain ⟨t2, a1, b1⟩ := kk r u t T'.heap (locs ++ L) e1.symm (by rw [← e2]; exact X'.warmed.alike) hp hb k1 k2 k3 T' rfl X'
    exact ⟨t2, st t2 a1, b1⟩
  · obtain ⟨k1, k2, k3⟩ := vx_keep h0 e1 hS hAX hf hL hF
    obtain ⟨t2, a1, b1⟩ := kx E ce q u t T'.heap (locs ++ L) e1.symm (by rw [← e2]; exact X'.warmed.alike) hp hb k1 k2 k3 (by rw [e1]; exact hce) hcv hcl T' rfl X'
    exact ⟨t2, st.trans a1, b1⟩
theorem vx_callv {S SX : Type} {post : S → Prop} {px : SX → Prop} {B : S → State → Prop} {BX : String → SX → State → Prop} {AX : Nat → Prop} (hr : vx_Run p l e R s m args below meth c H locs cells slots mc ms (F0 m pc ls st0) rest (va_Qv post B A1 a) (vx_X px BX AX) free) (hS : va_S A0 H0 H locs) (hA : ∀ q, q < H.size → A1 q → A0 q) (hf : ∀ q, free q → A0 q) (hAX : ∀ q, q < H.size → AX q → A0 q)
    (kx : ∀ (E : String) (ce : Cell) (q9 : Addr) (u : SX) (t : State) (H1 : Heap) (locs1 : List Loc), t.heap = H1 → s.vm.Alike t.vm → px u → BX E u t → H.size ≤ H1.size → (∀ q : Nat, q < H.size → ¬ AX q → H1[q]? = H[q]?) → va_S A0 H0 H1 locs1 → H1[q9]? = some ce → ce.vm = .none → s.vm.findClass E = some ce.cls → vx_W p l e R s m args below meth c H1 locs1 (cells + mc) (slots + ms) Q (F0 m pc ls rest) q9)
    (kk : ∀ (u : S) (t : State) (H1 : Heap) (locs1 : List Loc), t.heap = H1 → s.vm.Alike t.vm → post u → B u t → H.size ≤ H1.size → (∀ q : Nat, q < H.size → ¬ A1 q → H1[q]? = H[q]?) → va_S A0 H0 H1 locs1 → W p l e R s m args below meth c H1 locs1 (cells + mc) (slots + ms) Q (F0 m (pc + 3) ls (rest))) : W p l e R s m args below meth c H locs cells slots Q (F0 m pc ls st0) := by
  intro T hT X
  rcases hr T hT X with ⟨v, st₀, t, T', L, h0, X', hL, e1, e2, ⟨⟨u, hv, hp, hb⟩, hF⟩, st⟩ | ⟨q, st₀, t, T', L, E, ce, h0, X', hL, e1, e2, ⟨u, hp, hb, hF⟩, hce, hcv, hcl, st⟩
  · cases hv
    obtain ⟨k1, k2, k3⟩ := vx_keep h0 e1 hS hA hf hL hF
    obtain ⟨t2, a1, b1⟩ := kk u t T'.heap (locs ++ L) e1.symm (by rw [← e2]; exact X'.warmed.alike) hp hb k1 k2 k3 T' rfl X'
    exact ⟨t2, st t2 a1, b1⟩
  · obtain ⟨k1, k2, k3⟩ := vx_keep h0 e1 hS hAX hf hL hF
    obtain ⟨t2, a1, b1⟩ := kx E ce q u t T'.heap (locs ++ L) e1.symm (by rw [← e2]; exact X'.warmed.alike) hp hb k1 k2 k3 (by rw [e1]; exact hce) hcv hcl T' rfl X'
    exact ⟨t2, st.trans a1, b1⟩
/-- caught by the row x of this method's table; the rows ahead don't take it -/
theorem vx_catch {own name : String} {E : String} {ce : Cell} {q : Addr} (hown : s.vm.findClass own = some m.cls) (pre : List ExceptionTableEntry) (x : ExceptionTableEntry) (suf : List ExceptionTableEntry) (hsplit : c.exceptionTable.toList = pre ++ x :: suf)
    (hpass : ∀ z ∈ pre, covers z pc = false ∨ (z.catchType ≠ 0 ∧ ∃ nm : String, (Cond.classLink own z.catchType nm).before args s = true ∧ va_Nc E nm s)) (hx : covers x pc = true) (h0 : x.catchType ≠ 0)
    (hlink : (Cond.classLink own x.catchType name).before args s = true) (hcast : (Cond.castable E name).before args s = true) (hcell : H[q]? = some ce) (hv : ce.vm = .none) (hcl : s.vm.findClass E = some ce.cls)
    (kk : W p l e R s m args below meth c H locs cells slots Q (F0 m x.handlerPc ls [.ref q])) : vx_W p l e R s m args below meth c H locs cells slots Q (F0 m pc ls rest) q := by
  intro T hT X
  have hpl : e.platform.magicAccessors = ({} : Platform).magicAccessors := by rw [X.admits.platform]
  obtain ⟨c3, c4, hc3, hc4, hasg⟩ := Cond.castable_spec hcast
  cases Option.some.inj (hc3.symm.trans hcl)
  obtain ⟨c5, hc5, hcl5⟩ := Cond.classLink_spec hown hlink e.platform hpl
  cases Option.some.inj (hc4.symm.trans hc5)
  obtain ⟨vm', X', st⟩ := X.thenCaughtThrough q (g := F0 m pc ls rest) rfl (Steps.refl _) (by rw [hT]; exact hcell) (by rw [hv]; rfl) (by obtain ⟨k9, h9, -⟩ := Vm.findClass_spec hcl; exact ⟨k9, h9⟩) pre x suf hsplit
    (fun z hz => by
      rcases hpass z hz with h | ⟨hz0, nm, hl1, hn1⟩
      · exact Or.inl h
      · obtain ⟨c6, hc6, hcl6⟩ := Cond.classLink_spec hown hl1 e.platform hpl
        obtain ⟨a8, b8, h1, h2, h3⟩ := hn1
        cases Option.some.inj (h1.symm.trans hcl)
        cases Option.some.inj (h2.symm.trans hc6)
        exact Or.inr ⟨hz0, _, hcl6, h3⟩) hx (Or.inr ⟨h0, c4, hcl5, hasg⟩)
  obtain ⟨t, a1, b1⟩ := kk (T.setVm vm') hT X'
  exact ⟨t, st.trans a1, b1⟩
end Rows
section Ends
variable {p : Program} {l : Launch} {e : Env} {R : Room} {s : State} {m : MethodId} {args : Array Value} {below : List Frame} {meth : Method} {c : Code} {H : Heap} {locs : List Loc} {cells slots : Nat} {Q : State → Prop}
variable {mc ms : Nat} {free : Addr → Prop} {A0 A1 : Nat → Prop} {H0 : Heap} {a : Array Value} {ls : Array Slot} {st0 rest : List Value}
variable {Qc : Array Value → State → Outcome → State → Prop} {XC : String → State → State → Prop}
/-- what a body that may throw owes at its end -/
def vx_MQ (below : List Frame) (Qc : Array Value → State → Outcome → State → Prop) (XC : String → State → State → Prop) (a : Array Value) (s : State) (mc ms : Nat) (free : Addr → Prop) : State → Prop := fun t =>
  ∃ o, t.status = .running ∧ Ended t below o ∧ vx_Q Qc XC mc ms free a s o t
theorem vx_ret {g : JFrame} {mc ms : Nat} (k : W p l e R s m args below meth c H locs cells slots (MQ below Qc args s mc ms free) g) : W p l e R s m args below meth c H locs cells slots (vx_MQ below Qc XC args s mc ms free) g := by
  intro T hT X
  obtain ⟨t, a1, o, b1, b2, b3, b4⟩ := k T hT X
  exact ⟨t, a1, o, b1, b2, Or.inl ⟨b3, b4⟩⟩
/-- not caught here: it goes on to the caller -/
theorem vx_widen {g : JFrame} {q : Addr} {k n : Nat} (h1 : cells ≤ k) (h2 : slots ≤ n) (kk : vx_W p l e R s m args below meth c H locs k n Q g q) : vx_W p l e R s m args below meth c H locs cells slots Q g q := fun T hT X => kk T hT (stand_widen X h1 h2)
theorem vx_out {pc : Nat} {E : String} {ce : Cell} {q : Addr} {mc ms : Nat} (hout : ∀ x ∈ c.exceptionTable.toList, covers x pc = false) (hlocks : meth.locks = false) (hcell : H[q]? = some ce) (hv : ce.vm = .none) (hcl : s.vm.findClass E = some ce.cls)
    (hx : ∀ t : State, t.heap = H → s.vm.Alike t.vm → XC E s t) (hf : ∀ z ∈ locs, free z.base) (hc : cells ≤ mc) (hs : slots ≤ ms) :
    vx_W p l e R s m args below meth c H locs cells slots (vx_MQ below Qc XC args s mc ms free) (F0 m pc ls rest) q := by
  intro T hT X
  obtain ⟨st1, hrun, hend, hW, hsm⟩ := X.leaveThrown q (g := F0 m pc ls rest) rfl rfl rfl hout hlocks
  have hcell9 : (T.setFrames (.throwing q :: below)).heap[q]? = some ce := by
    show T.heap[q]? = some ce
    rw [hT]; exact hcell
  exact ⟨_, st1, .threw q, hrun, hend, Or.inr ⟨q, rfl, E, ce, locs, hx _ hT hW.alike, hcell9, hv, hcl, hW, hsm.mono hc hs, hf⟩⟩
theorem vx_frame {U : State} {k n : Nat} (h : s.sameButNew ({ U with vm := s.vm } : State) locs k n) : s.heap.size ≤ U.heap.size ∧ ∀ q : Nat, q < s.heap.size → (∀ z ∈ locs, z.base ≠ q) → U.heap[q]? = s.heap[q]? := by
  obtain ⟨-, h2, -, -, -, h6⟩ := h
  refine ⟨h2, fun q hq hz => ?_⟩
  obtain ⟨c9, e1, e2, e3, e4⟩ := h6 q _ (Array.getElem?_eq_getElem hq)
  have hs : c9.slots = (s.heap[q]).slots := Array.ext_getElem? fun i => e4 i fun hm => hz _ hm rfl
  have h9 : c9 = s.heap[q] := by
    rw [hs] at e2
    exact e2
  have e5 : U.heap[q]? = some c9 := e1
  rw [e5, h9, Array.getElem?_eq_getElem hq]
/-- the words of a throw but the four that speak of the heap -/
def vx_no (w : Cond) : Bool := decide (w ≠ .isRef (.static Bundle.tN "UNASSIGNED_STACK" Bundle.steD)) && decide (w ≠ .isRef (.static Bundle.tN "SUPPRESSED_SENTINEL" Bundle.listD)) && decide (w ≠ .laysStatic Bundle.tN "UNASSIGNED_STACK" Bundle.steD) && decide (w ≠ .laysStatic Bundle.tN "SUPPRESSED_SENTINEL" Bundle.listD)
def vx_at0 (own : String) (ic : Nat) (X : String) (names : List String) : List Cond := (Bundle.ownAtoms0 own ic X names).filter vx_no
def vx_atS (own : String) (ic : Nat) (X : String) (names : List String) : List Cond := (Bundle.ownAtoms own ic X names).filter vx_no
/-- a word that the tables alone decide, or a good one -/
def vx_ot (w : Cond) : Bool := w.onTables || goodWord w
theorem vx_ot_at {args a' : Array Value} {s U : State} {w : Cond} (hW : s.WarmedH U.vm) (hvm : s.vm = U.vm) (hg : vx_ot w = true) (h : w.before args s = true) : w.before a' U = true := by
  simp only [vx_ot, Bool.or_eq_true] at hg
  rcases hg with hg | hg
  · exact va_tabs hg hvm h
  · exact word_at hW (good_of_word hg) h
/-- a list's words: the good ones out of the method's own list, the others by premises of their own -/
theorem vx_hat {args : Array Value} {s : State} {L B : List Cond} (h1 : ∀ w ∈ L.filter goodWord, w.before args s = true) (h2 : ∀ w ∈ L.filter (fun w => !goodWord w), w ∈ B) (h3 : ∀ w ∈ B, w.before args s = true) : ∀ w ∈ L, w.before args s = true := by
  intro w hw
  by_cases g : goodWord w = true
  · exact h1 w (List.mem_filter.mpr ⟨hw, g⟩)
  · refine h3 w (h2 w (List.mem_filter.mpr ⟨hw, ?_⟩))
    show (!goodWord w) = true
    cases hgw : goodWord w
    · rfl
    · exact absurd hgw g
theorem vx_c {args : Array Value} {s : State} {w : Cond} {B : List Cond} (h : w.before args s = true) (t : ∀ w ∈ B, w.before args s = true) : ∀ w' ∈ w :: B, w'.before args s = true := fun w' h' => (List.mem_cons.mp h').elim (fun e => by rw [e]; exact h) (t w')
theorem vx_n {args : Array Value} {s : State} : ∀ w ∈ ([] : List Cond), w.before args s = true := fun _ h => nomatch h
theorem vx_own {args : Array Value} {s : State} {L : List Cond} (h1 : ∀ w ∈ L.filter vx_no, w.before args s = true)
    (hU : (Cond.isRef (.static Bundle.tN "UNASSIGNED_STACK" Bundle.steD)).before args s = true) (hN : (Cond.isRef (.static Bundle.tN "SUPPRESSED_SENTINEL" Bundle.listD)).before args s = true)
    (lU : (Cond.laysStatic Bundle.tN "UNASSIGNED_STACK" Bundle.steD).before args s = true) (lN : (Cond.laysStatic Bundle.tN "SUPPRESSED_SENTINEL" Bundle.listD).before args s = true) : ∀ w ∈ L, w.before args s = true := by
  intro w hw
  by_cases e1 : w = .isRef (.static Bundle.tN "UNASSIGNED_STACK" Bundle.steD)
  · rw [e1]; exact hU
  · by_cases e2 : w = .isRef (.static Bundle.tN "SUPPRESSED_SENTINEL" Bundle.listD)
    · rw [e2]; exact hN
    · by_cases e3 : w = .laysStatic Bundle.tN "UNASSIGNED_STACK" Bundle.steD
      · rw [e3]; exact lU
      · by_cases e4 : w = .laysStatic Bundle.tN "SUPPRESSED_SENTINEL" Bundle.listD
        · rw [e4]; exact lN
        · exact h1 w (List.mem_filter.mpr ⟨hw, by unfold vx_no; rw [decide_eq_true e1, decide_eq_true e2, decide_eq_true e3, decide_eq_true e4]; rfl⟩)
/-- where a static field lies, its class's statics cell in H -/
def vx_L (C n d : String) (A : Nat → Prop) (U : State) (H : Heap) : Prop := ∃ (c : ClassId) (k : Class) (i : Nat) (f : Field) (a : Nat) (cell : Cell), U.vm.findClass C = some c ∧ U.fieldFound? C n d = some (c, k, i, f) ∧ f.isStatic = true ∧ k.statics = some a ∧ H[a]? = some cell ∧ cell.vm.isStatics = true ∧ cell.cls = c ∧ f.slot < cell.slots.size ∧ k.staticTypes[f.slot]? = some f.type ∧ ¬ A a
theorem vx_L.moved {C n d : String} {A : Nat → Prop} {u U : State} {H : Heap} (hvm : u.vm.Alike U.vm) (h : vx_L C n d A u H) : vx_L C n d A U H := by
  obtain ⟨c, k, i, f, a, cell, h1, h2, h3, h4, h5, h6, h7, h8, h9, h10⟩ := h
  obtain ⟨k', hi', he⟩ := State.fieldFound?_setVm hvm h2
  exact ⟨c, k', i, f, a, cell, by rw [hvm.findClass]; exact h1, hi', h3, by rw [he]; exact h4, h5, h6, h7, h8, by rw [he]; exact h9, h10⟩
theorem vx_L.kept {C n d : String} {A : Nat → Prop} {U : State} {H H1 : Heap} (h : vx_L C n d A U H) (hq : ∀ a : Nat, a < H.size → ¬ A a → H1[a]? = H[a]?) : vx_L C n d A U H1 := by
  obtain ⟨c, k, i, f, a, cell, h1, h2, h3, h4, h5, h6, h7, h8, h9, h10⟩ := h
  exact ⟨c, k, i, f, a, cell, h1, h2, h3, h4, by rw [hq a (Array.getElem?_eq_some_iff.mp h5).1 h10]; exact h5, h6, h7, h8, h9, h10⟩
theorem vx_L.narrow {C n d : String} {A B : Nat → Prop} {U : State} {H : Heap} (h : vx_L C n d A U H) (hAB : ∀ q, B q → A q) : vx_L C n d B U H := by
  obtain ⟨c, k, i, f, a, cell, h1, h2, h3, h4, h5, h6, h7, h8, h9, h10⟩ := h
  exact ⟨c, k, i, f, a, cell, h1, h2, h3, h4, h5, h6, h7, h8, h9, fun z => h10 (hAB _ z)⟩
theorem vx_L.word {C n d : String} {A : Nat → Prop} {s : State} {args : Array Value} (h : vx_L C n d A s s.heap) : (Cond.laysStatic C n d).before args s = true := by
  obtain ⟨c, k, i, f, a, cell, h1, h2, h3, h4, h5, h6, h7, h8, h9, -⟩ := h
  show (Cond.laysStatic C n d).holds args s none s [] = true
  exact Cond.laysStatic_of h1 h2 h3 h4 h5 h6 h7 h8 h9
/-- .. and what it holds: null or some reference -/
def vx_Zq (C n d : String) (A : Nat → Prop) (U : State) (H : Heap) : Prop := va_Zq C n d A U H ∧ vx_L C n d A U H
theorem vx_Zq.moved {C n d : String} {A : Nat → Prop} {u U : State} {H : Heap} (hvm : u.vm.Alike U.vm) (h : vx_Zq C n d A u H) : vx_Zq C n d A U H := ⟨va_Zq.moved hvm h.1, vx_L.moved hvm h.2⟩
theorem vx_Zq.kept {C n d : String} {A : Nat → Prop} {U : State} {H H1 : Heap} (h : vx_Zq C n d A U H) (hq : ∀ a : Nat, a < H.size → ¬ A a → H1[a]? = H[a]?) : vx_Zq C n d A U H1 := ⟨va_Zq.kept h.1 hq, vx_L.kept h.2 hq⟩
theorem vx_Zq.narrow {C n d : String} {A B : Nat → Prop} {U : State} {H : Heap} (h : vx_Zq C n d A U H) (hAB : ∀ q, B q → A q) : vx_Zq C n d B U H := ⟨va_Zq.narrow h.1 hAB, vx_L.narrow h.2 hAB⟩
theorem vx_Zqof {args : Array Value} {s : State} {C n d : String} {A : Nat → Prop} (hl : (Cond.laysStatic C n d).before args s = true) (hini : (Cond.initialized C).before args s = true) (h : (Cond.isRef (.static C n d)).before args s = true) (hA : ∀ a : Nat, a < s.heap.size → ¬ A a) : vx_Zq C n d A s s.heap := by
  refine ⟨va_Zqof hl hini h hA, ?_⟩
  obtain ⟨c, k, i, f, a, cell, h1, h2, h3, h4, h5, h6, h7, h8, h9⟩ := Cond.laysStatic_spec hl
  exact ⟨c, k, i, f, a, cell, h1, h2, h3, h4, h5, h6, h7, h8, h9, hA a (Array.getElem?_eq_some_iff.mp h5).1⟩
theorem vx_isRef {C n d : String} {v : Value} {A : Nat → Prop} {s : State} {args : Array Value} (h : va_Z C n d v A s s.heap) (hv : v.isRef = true) : (Cond.isRef (.static C n d)).before args s = true := by
  obtain ⟨cf, kf, fi, f, a, cell, h1, h2, h3, h4, h5, h6, h7, -⟩ := h
  have he : (Term.static C n d).eval args s none [] s = some v := by
    simp [Term.eval, State.fieldNamed?, h1, h2, h4, h5, h6, h7]
  simp only [Cond.before, Cond.holds, Cond.value, he]
  cases v <;> simp_all [Value.isRef]
theorem vx_isRefq {C n d : String} {A : Nat → Prop} {s : State} {args : Array Value} (h : va_Zq C n d A s s.heap) : (Cond.isRef (.static C n d)).before args s = true := by
  rcases h with h | ⟨t, h⟩
  · exact vx_isRef h rfl
  · exact vx_isRef h rfl
/-- the same frame, seen from here: as if the method were called anew in this heap -/
theorem vx_rebase {T : State} (X : Stand p l e R s m args below meth c T locs cells slots) {R' : Room} (hf : R'.frames ≤ R.frames) (hl : R'.locals ≤ R.locals) (hc : cells + R'.cells ≤ R.cells) (hs : slots + R'.slots ≤ R.slots) :
    Stand p l e R' ((T.setVm s.vm).setFrames (.invoking m args :: below)) m args below meth c T [] 0 0 := by
  have htop : (T.setVm s.vm).topJava?.isSome := X.here.top
  have hF : ((T.setVm s.vm).setFrames (.invoking m args :: below)).frames = .invoking m args :: below := State.frames_setFrames _ (State.cur_lt_of_top htop)
  obtain ⟨g₀, hg0⟩ := Option.isSome_iff_exists.mp htop
  obtain ⟨r, hr⟩ := State.topJava?_eq_some.mp hg0
  have hl9 : e.platform.stackLimits (T.setVm s.vm).me = e.platform.stackLimits s.me := X.limits
  have hb9 : (T.setVm s.vm).me.stackBytes = s.me.stackBytes := X.bytes
  refine ⟨X.admits, X.cas, X.clock, hF, ?_, X.hears, X.method, X.code, X.here, X.tail, X.warmed, ?_, ?_, ?_⟩
  · have h := X.room
    have hU : ((T.setVm s.vm).setFrames (.invoking m args :: below)).localsInUse = s.localsInUse := by
      rw [State.localsInUse_invoking hF (meth := meth) (c := c) X.method X.code, State.localsInUse_invoking X.frames X.method X.code]
    simp only [State.hasRoom, Bool.and_eq_true, decide_eq_true_eq] at h ⊢
    obtain ⟨⟨⟨⟨h1, h2, h3, h4, h5, h6⟩, h7⟩, h8⟩, h9⟩ := h
    rw [X.frames, List.length_cons] at h2 h3
    have q1 := X.heapSize
    have q2 := X.used
    simp only [hF, hU, List.length_cons, State.stackLimits_setFrames, State.stackBytes_setFrames, hl9, hb9]
    refine ⟨⟨⟨⟨by omega, by omega, by omega, by omega, by omega, h6⟩, ?_⟩, ?_⟩, X.book⟩
    · show T.heap.size + R'.cells ≤ e.platform.maxCells
      omega
    · show T.slotsUsed + R'.slots ≤ e.platform.maxSlots
      omega
  · rw [State.stackLimits_setFrames]; rfl
  · rw [State.stackBytes_setFrames]; rfl
  · refine ⟨?_, Nat.le_refl _, Nat.le_refl _, ?_, ?_, fun a c9 h9 => ⟨c9, h9, rfl, rfl, fun _ _ => rfl⟩⟩
    · obtain ⟨t, ht, -⟩ := State.frames_cons hr
      show T.setVm s.vm = { ((T.setVm s.vm).setFrames (.invoking m args :: below)).setFrames (T.setVm s.vm).frames with heap := T.heap, slotsUsed := T.slotsUsed }
      rw [State.setFrames_setFrames, State.setFrames_self ht]
      rfl
    · show T.slotsUsed = T.slotsUsed + ((T.heap.toList.drop T.heap.size).map (·.slots.size)).sum
      rw [List.drop_eq_nil_of_le (Nat.le_of_eq Array.length_toList)]
      rfl
    · show ((T.heap.toList.drop T.heap.size).map (·.slots.size)).sum ≤ 0
      rw [List.drop_eq_nil_of_le (Nat.le_of_eq Array.length_toList)]
      exact Nat.le_refl _
/-- 'throw new E()': new; dup; invokespecial; athrow -/
theorem vx_throw0 {cc : ByteArray} {pc : Nat} (hexec : p.tables.exec = Jvm.exec) (hb : c.code = cc) (hl : l.stackTraces = false) {own cls : String} {names : List String} {ik ic mc ms : Nat} {A : Nat → Prop}
    (hown : s.vm.findClass own = some m.cls) (hcls : Bundle.fit cls = true) (hnames : ∀ n ∈ names, Bundle.fit n = true)
    (hk : (Cond.classLink own ik cls).before args s = true) (hini : (Cond.initialized cls).before args s = true) (hat : ∀ w ∈ vx_at0 own ic cls names, w.before args s = true)
    (hgood : ∀ w ∈ Cond.classLink own ik cls :: Cond.initialized cls :: vx_at0 own ic cls names, vx_ot w = true)
    (hU : vx_Zq Bundle.tN "UNASSIGNED_STACK" Bundle.steD A s s.heap) (hN : vx_Zq Bundle.tN "SUPPRESSED_SENTINEL" Bundle.listD A s s.heap) (hS : va_S A s.heap H locs) (hsize : ls.size = c.maxLocals)
    (d0 : decode cc pc = .ok (.new ik, 3)) (d3 : decode cc (pc + 3) = .ok (.dup, 1)) (d4 : decode cc (pc + 4) = .ok (.invokespecial ic, 3)) (d7 : decode cc (pc + 7) = .ok (.athrow, 1))
    (hout : ∀ x ∈ c.exceptionTable.toList, covers x (pc + 7) = false)
    (hRframes : names.length + 3 < R.frames) (hRlocals : (rest.map fun v => v.category).sum + (13 * (names.length + 1) + 42) ≤ R.locals) (hRcells : cells + 1 ≤ R.cells) (hRslots : slots + 6 ≤ R.slots) (hlocks : meth.locks = false)
    (hx : ∀ t : State, s.vm.Alike t.vm → H.size ≤ t.heap.size → (∀ q : Nat, q < H.size → t.heap[q]? = H[q]?) → XC cls s t)
    (hf : ∀ z ∈ locs, free z.base) (hc : cells + 1 ≤ mc) (hs : slots + 6 ≤ ms) :
    W p l e R s m args below meth c H locs cells slots (vx_MQ below Qc XC args s mc ms free) (F0 m pc ls rest) := by
  intro T hT X
  have htr : e.platform.stackTraces = false := (show e.platform.stackTraces = l.stackTraces by rw [X.admits.platform]).trans hl
  have Y := vx_rebase X (R' := { frames := R.frames, locals := R.locals, cells := 1, slots := 6 }) (Nat.le_refl _) (Nat.le_refl _) hRcells hRslots
  obtain ⟨s', hA⟩ : ∃ z, z = (T.setVm s.vm).setFrames (.invoking m args :: below) := ⟨_, rfl⟩
  rw [← hA] at Y
  have hvm : s'.vm = s.vm := by rw [hA]; rfl
  have hhp : s'.heap = H := by rw [hA]; exact hT
  have hW0 : s.WarmedH s'.vm := by rw [hvm]; exact State.WarmedH.refl s
  have hat' : ∀ w ∈ vx_at0 own ic cls names, w.before args s' = true := fun w hw => vx_ot_at hW0 hvm.symm (hgood w (List.mem_cons_of_mem _ (List.mem_cons_of_mem _ hw))) (hat w hw)
  have hk' : (Cond.classLink own ik cls).before args s' = true := vx_ot_at hW0 hvm.symm (hgood _ List.mem_cons_self) hk
  have hini' : (Cond.initialized cls).before args s' = true := vx_ot_at hW0 hvm.symm (hgood _ (List.mem_cons_of_mem _ List.mem_cons_self)) hini
  have hU' : vx_Zq Bundle.tN "UNASSIGNED_STACK" Bundle.steD A s' s'.heap := by rw [hhp]; exact vx_Zq.moved hW0.alike (hU.kept hS.2.1)
  have hN' : vx_Zq Bundle.tN "SUPPRESSED_SENTINEL" Bundle.listD A s' s'.heap := by rw [hhp]; exact vx_Zq.moved hW0.alike (hN.kept hS.2.1)
  have h : ∀ w ∈ Bundle.ownAtoms0 own ic cls names, w.before args s' = true := vx_own hat' (vx_isRefq hU'.1) (vx_isRefq hN'.1) hU'.2.word hN'.2.word
  have hown' : s'.vm.findClass own = some m.cls := by rw [hvm]; exact hown
  have hins : (Cond.instantiable cls 6).before args s' = true := h _ (by simp [Bundle.ownAtoms0])
  obtain ⟨vm₁, cX, kX, hfX, hkX, -, -, X₁, st1⟩ := Y.newCold hexec (own := own) (C := cls) (index := ik) (n := 6) hown' hk' hins hini'
    (g := F0 m pc ls rest) rfl (by rw [hb]; exact d0) (Nat.le_refl _) (Nat.le_refl _)
  generalize hT1 : (T.setVm vm₁).pushCell { cls := cX, slots := kX.instanceTypes.map defaultValue, vm := .none } = T1 at X₁ st1
  have hcat : (Value.ref T.heap.size).category = 1 := rfl
  have hcellA : T1.heap[T.heap.size]? = some (freshCell cX kX) := by rw [← hT1]; exact State.heap_pushCell_size _ _
  have d3' : decode c.code (pc + 3) = .ok (.dup, 1) := by rw [hb]; exact d3
  obtain ⟨U, hsteps, hrun, hend, hW, hsame, ce, hce, hO⟩ := X₁.ctorThrow0 hexec htr (own := own) (cls := cls) (names := names) (ic := ic) hown' hcls hnames h (fun x hx => nomatch hx) hfX hkX hcellA (by rw [hhp, hT]; exact Nat.le_refl _)
    (g := { method := m, pc := pc + 4, locals := ls, stack := .ref T.heap.size :: .ref T.heap.size :: rest, locked := none }) rfl hsize rfl rfl (rest := rest) rfl
    (by rw [hb]; exact d4) (by rw [hb]; exact d7) hout hRframes (by simp only [List.map_cons, List.sum_cons, hcat]; omega) hlocks
  obtain ⟨f1, f2⟩ := vx_frame hsame
  rw [hhp] at f1 f2
  have hWs : s.WarmedH U.vm := State.WarmedH.trans hW0 hW
  have hcl : s.vm.findClass cls = some ce.cls := by
    have h9 := hO.cls
    rw [hvm] at h9
    exact h9
  have hall : s.sameButNew ({ U with vm := s.vm } : State) locs mc ms := by
    subst hA
    obtain ⟨e1, e2⟩ := hsame
    rw [State.setFrames_setFrames] at e1
    have h2 : (T.setVm s.vm).sameButNew ({ U with vm := s.vm } : State) [] (0 + 1) (0 + 6) := ⟨e1, e2⟩
    have h3 := X.same.trans h2
    rw [List.append_nil] at h3
    exact h3.mono hc hs
  refine ⟨U, ?_, .threw T.heap.size, hrun, hend, Or.inr ⟨T.heap.size, rfl, cls, ce, locs, hx U hWs.alike f1 (fun q hq => f2 q hq (fun z hz => nomatch hz)), hce, hO.vm, hcl, hWs, hall, hf⟩⟩
  refine st1 _ ?_
  show Steps p.tables e below (T1.setTop { method := m, pc := pc + 3, locals := ls, stack := .ref T.heap.size :: rest, locked := none }) _
  jvm_step X₁.here [X₁.here.top, hexec, d3', Value.category]
  exact hsteps
/-- 'throw new E("text")': new; dup; ldc; invokespecial; athrow -/
theorem vx_throwS {cc : ByteArray} {pc : Nat} (hexec : p.tables.exec = Jvm.exec) (hb : c.code = cc) (hl : l.stackTraces = false) {own cls text : String} {names : List String} {ik is ic mc ms sa : Nat} {A : Nat → Prop}
    (hown : s.vm.findClass own = some m.cls) (hcls : Bundle.fit cls = true) (hnames : ∀ n ∈ names, Bundle.fit n = true)
    (hk : (Cond.classLink own ik cls).before args s = true) (hini : (Cond.initialized cls).before args s = true) (hstr : vk_R own is text sa s) (hat : ∀ w ∈ vx_atS own ic cls names, w.before args s = true)
    (hgood : ∀ w ∈ Cond.classLink own ik cls :: Cond.initialized cls :: vx_atS own ic cls names, vx_ot w = true)
    (hU : vx_Zq Bundle.tN "UNASSIGNED_STACK" Bundle.steD A s s.heap) (hN : vx_Zq Bundle.tN "SUPPRESSED_SENTINEL" Bundle.listD A s s.heap) (hS : va_S A s.heap H locs) (hsize : ls.size = c.maxLocals)
    (d0 : decode cc pc = .ok (.new ik, 3)) (d3 : decode cc (pc + 3) = .ok (.dup, 1)) (d4 : decode cc (pc + 4) = .ok (.ldc is, 2)) (d6 : decode cc (pc + 6) = .ok (.invokespecial ic, 3)) (d9 : decode cc (pc + 9) = .ok (.athrow, 1))
    (hout : ∀ x ∈ c.exceptionTable.toList, covers x (pc + 9) = false)
    (hRframes : names.length + 3 < R.frames) (hRlocals : (rest.map fun v => v.category).sum + (13 * (names.length + 1) + 43) ≤ R.locals) (hRcells : cells + 1 ≤ R.cells) (hRslots : slots + 6 ≤ R.slots) (hlocks : meth.locks = false)
    (hx : ∀ t : State, s.vm.Alike t.vm → H.size ≤ t.heap.size → (∀ q : Nat, q < H.size → t.heap[q]? = H[q]?) → XC cls s t)
    (hf : ∀ z ∈ locs, free z.base) (hc : cells + 1 ≤ mc) (hs : slots + 6 ≤ ms) :
    W p l e R s m args below meth c H locs cells slots (vx_MQ below Qc XC args s mc ms free) (F0 m pc ls rest) := by
  intro T hT X
  have htr : e.platform.stackTraces = false := (show e.platform.stackTraces = l.stackTraces by rw [X.admits.platform]).trans hl
  have Y := vx_rebase X (R' := { frames := R.frames, locals := R.locals, cells := 1, slots := 6 }) (Nat.le_refl _) (Nat.le_refl _) hRcells hRslots
  obtain ⟨s', hA⟩ : ∃ z, z = (T.setVm s.vm).setFrames (.invoking m args :: below) := ⟨_, rfl⟩
  rw [← hA] at Y
  have hvm : s'.vm = s.vm := by rw [hA]; rfl
  have hhp : s'.heap = H := by rw [hA]; exact hT
  have hW0 : s.WarmedH s'.vm := by rw [hvm]; exact State.WarmedH.refl s
  have hat' : ∀ w ∈ vx_atS own ic cls names, w.before args s' = true := fun w hw => vx_ot_at hW0 hvm.symm (hgood w (List.mem_cons_of_mem _ (List.mem_cons_of_mem _ hw))) (hat w hw)
  have hk' : (Cond.classLink own ik cls).before args s' = true := vx_ot_at hW0 hvm.symm (hgood _ List.mem_cons_self) hk
  have hini' : (Cond.initialized cls).before args s' = true := vx_ot_at hW0 hvm.symm (hgood _ (List.mem_cons_of_mem _ List.mem_cons_self)) hini
  have hU' : vx_Zq Bundle.tN "UNASSIGNED_STACK" Bundle.steD A s' s'.heap := by rw [hhp]; exact vx_Zq.moved hW0.alike (hU.kept hS.2.1)
  have hN' : vx_Zq Bundle.tN "SUPPRESSED_SENTINEL" Bundle.listD A s' s'.heap := by rw [hhp]; exact vx_Zq.moved hW0.alike (hN.kept hS.2.1)
  have h : ∀ w ∈ Bundle.ownAtoms own ic cls names, w.before args s' = true := vx_own hat' (vx_isRefq hU'.1) (vx_isRefq hN'.1) hU'.2.word hN'.2.word
  have hown' : s'.vm.findClass own = some m.cls := by rw [hvm]; exact hown
  have hins : (Cond.instantiable cls 6).before args s' = true := h _ (by simp [Bundle.ownAtoms])
  obtain ⟨vm₁, cX, kX, hfX, hkX, -, -, X₁, st1⟩ := Y.newCold hexec (own := own) (C := cls) (index := ik) (n := 6) hown' hk' hins hini'
    (g := F0 m pc ls rest) rfl (by rw [hb]; exact d0) (Nat.le_refl _) (Nat.le_refl _)
  generalize hT1 : (T.setVm vm₁).pushCell { cls := cX, slots := kX.instanceTypes.map defaultValue, vm := .none } = T1 at X₁ st1
  have hcat : (Value.ref T.heap.size).category = 1 := rfl
  have hcellA : T1.heap[T.heap.size]? = some (freshCell cX kX) := by rw [← hT1]; exact State.heap_pushCell_size _ _
  have d3' : decode c.code (pc + 3) = .ok (.dup, 1) := by rw [hb]; exact d3
  have d4' : decode c.code (pc + 4) = .ok (.ldc is, 2) := by rw [hb]; exact d4
  have hstr' : vk_R own is text sa s' := vk_R.warm hW0 hstr
  obtain ⟨U, hsteps, hrun, hend, hW, hsame, ce, hce, hO⟩ := X₁.ctorThrowS hexec htr (own := own) (cls := cls) (names := names) (ic := ic) hown' hcls hnames h (fun x hx => nomatch hx) hfX hkX hcellA (by rw [hhp, hT]; exact Nat.le_refl _) (msg := .ref sa) rfl
    (g := { method := m, pc := pc + 6, locals := ls, stack := .ref sa :: .ref T.heap.size :: .ref T.heap.size :: rest, locked := none }) rfl hsize rfl rfl (rest := rest) rfl
    (by rw [hb]; exact d6) (by rw [hb]; exact d9) hout hRframes (by simp only [List.map_cons, List.sum_cons, hcat]; omega) hlocks
  obtain ⟨f1, f2⟩ := vx_frame hsame
  rw [hhp] at f1 f2
  have hWs : s.WarmedH U.vm := State.WarmedH.trans hW0 hW
  have hcl : s.vm.findClass cls = some ce.cls := by
    have h9 := hO.cls
    rw [hvm] at h9
    exact h9
  have hall : s.sameButNew ({ U with vm := s.vm } : State) locs mc ms := by
    subst hA
    obtain ⟨e1, e2⟩ := hsame
    rw [State.setFrames_setFrames] at e1
    have h2 : (T.setVm s.vm).sameButNew ({ U with vm := s.vm } : State) [] (0 + 1) (0 + 6) := ⟨e1, e2⟩
    have h3 := X.same.trans h2
    rw [List.append_nil] at h3
    exact h3.mono hc hs
  refine ⟨U, ?_, .threw T.heap.size, hrun, hend, Or.inr ⟨T.heap.size, rfl, cls, ce, locs, hx U hWs.alike f1 (fun q hq => f2 q hq (fun z hz => nomatch hz)), hce, hO.vm, hcl, hWs, hall, hf⟩⟩
  refine st1 _ ?_
  show Steps p.tables e below (T1.setTop { method := m, pc := pc + 3, locals := ls, stack := .ref T.heap.size :: rest, locked := none }) _
  jvm_step X₁.here [X₁.here.top, hexec, d3', Value.category]
  exact X₁.ldcString hexec (own := own) (text := text) (index := is) (a := sa) hown' hstr'.1 hstr'.2
    (g := { method := m, pc := pc + 4, locals := ls, stack := .ref T.heap.size :: .ref T.heap.size :: rest, locked := none }) rfl d4' _ hsteps
/-- 'throw new E("text")', the text by a wide index -/
theorem vx_throwSW {cc : ByteArray} {pc : Nat} (hexec : p.tables.exec = Jvm.exec) (hb : c.code = cc) (hl : l.stackTraces = false) {own cls text : String} {names : List String} {ik is ic mc ms sa : Nat} {A : Nat → Prop}
    (hown : s.vm.findClass own = some m.cls) (hcls : Bundle.fit cls = true) (hnames : ∀ n ∈ names, Bundle.fit n = true)
    (hk : (Cond.classLink own ik cls).before args s = true) (hini : (Cond.initialized cls).before args s = true) (hstr : vk_R own is text sa s) (hat : ∀ w ∈ vx_atS own ic cls names, w.before args s = true)
    (hgood : ∀ w ∈ Cond.classLink own ik cls :: Cond.initialized cls :: vx_atS own ic cls names, vx_ot w = true)
    (hU : vx_Zq Bundle.tN "UNASSIGNED_STACK" Bundle.steD A s s.heap) (hN : vx_Zq Bundle.tN "SUPPRESSED_SENTINEL" Bundle.listD A s s.heap) (hS : va_S A s.heap H locs) (hsize : ls.size = c.maxLocals)
    (d0 : decode cc pc = .ok (.new ik, 3)) (d3 : decode cc (pc + 3) = .ok (.dup, 1)) (d4 : decode cc (pc + 4) = .ok (.ldc_w is, 3)) (d7 : decode cc (pc + 7) = .ok (.invokespecial ic, 3)) (d10 : decode cc (pc + 10) = .ok (.athrow, 1))
    (hout : ∀ x ∈ c.exceptionTable.toList, covers x (pc + 10) = false)
    (hRframes : names.length + 3 < R.frames) (hRlocals : (rest.map fun v => v.category).sum + (13 * (names.length + 1) + 43) ≤ R.locals) (hRcells : cells + 1 ≤ R.cells) (hRslots : slots + 6 ≤ R.slots) (hlocks : meth.locks = false)
    (hx : ∀ t : State, s.vm.Alike t.vm → H.size ≤ t.heap.size → (∀ q : Nat, q < H.size → t.heap[q]? = H[q]?) → XC cls s t)
    (hf : ∀ z ∈ locs, free z.base) (hc : cells + 1 ≤ mc) (hs : slots + 6 ≤ ms) :
    W p l e R s m args below meth c H locs cells slots (vx_MQ below Qc XC args s mc ms free) (F0 m pc ls rest) := by
  intro T hT X
  have htr : e.platform.stackTraces = false := (show e.platform.stackTraces = l.stackTraces by rw [X.admits.platform]).trans hl
  have Y := vx_rebase X (R' := { frames := R.frames, locals := R.locals, cells := 1, slots := 6 }) (Nat.le_refl _) (Nat.le_refl _) hRcells hRslots
  obtain ⟨s', hA⟩ : ∃ z, z = (T.setVm s.vm).setFrames (.invoking m args :: below) := ⟨_, rfl⟩
  rw [← hA] at Y
  have hvm : s'.vm = s.vm := by rw [hA]; rfl
  have hhp : s'.heap = H := by rw [hA]; exact hT
  have hW0 : s.WarmedH s'.vm := by rw [hvm]; exact State.WarmedH.refl s
  have hat' : ∀ w ∈ vx_atS own ic cls names, w.before args s' = true := fun w hw => vx_ot_at hW0 hvm.symm (hgood w (List.mem_cons_of_mem _ (List.mem_cons_of_mem _ hw))) (hat w hw)
  have hk' : (Cond.classLink own ik cls).before args s' = true := vx_ot_at hW0 hvm.symm (hgood _ List.mem_cons_self) hk
  have hini' : (Cond.initialized cls).before args s' = true := vx_ot_at hW0 hvm.symm (hgood _ (List.mem_cons_of_mem _ List.mem_cons_self)) hini
  have hU' : vx_Zq Bundle.tN "UNASSIGNED_STACK" Bundle.steD A s' s'.heap := by rw [hhp]; exact vx_Zq.moved hW0.alike (hU.kept hS.2.1)
  have hN' : vx_Zq Bundle.tN "SUPPRESSED_SENTINEL" Bundle.listD A s' s'.heap := by rw [hhp]; exact vx_Zq.moved hW0.alike (hN.kept hS.2.1)
  have h : ∀ w ∈ Bundle.ownAtoms own ic cls names, w.before args s' = true := vx_own hat' (vx_isRefq hU'.1) (vx_isRefq hN'.1) hU'.2.word hN'.2.word
  have hown' : s'.vm.findClass own = some m.cls := by rw [hvm]; exact hown
  have hins : (Cond.instantiable cls 6).before args s' = true := h _ (by simp [Bundle.ownAtoms])
  obtain ⟨vm₁, cX, kX, hfX, hkX, -, -, X₁, st1⟩ := Y.newCold hexec (own := own) (C := cls) (index := ik) (n := 6) hown' hk' hins hini'
    (g := F0 m pc ls rest) rfl (by rw [hb]; exact d0) (Nat.le_refl _) (Nat.le_refl _)
  generalize hT1 : (T.setVm vm₁).pushCell { cls := cX, slots := kX.instanceTypes.map defaultValue, vm := .none } = T1 at X₁ st1
  have hcat : (Value.ref T.heap.size).category = 1 := rfl
  have hcellA : T1.heap[T.heap.size]? = some (freshCell cX kX) := by rw [← hT1]; exact State.heap_pushCell_size _ _
  have d3' : decode c.code (pc + 3) = .ok (.dup, 1) := by rw [hb]; exact d3
  have d4' : decode c.code (pc + 4) = .ok (.ldc_w is, 3) := by rw [hb]; exact d4
  have hstr' : vk_R own is text sa s' := vk_R.warm hW0 hstr
  obtain ⟨U, hsteps, hrun, hend, hW, hsame, ce, hce, hO⟩ := X₁.ctorThrowS hexec htr (own := own) (cls := cls) (names := names) (ic := ic) hown' hcls hnames h (fun x hx => nomatch hx) hfX hkX hcellA (by rw [hhp, hT]; exact Nat.le_refl _) (msg := .ref sa) rfl
    (g := { method := m, pc := pc + 7, locals := ls, stack := .ref sa :: .ref T.heap.size :: .ref T.heap.size :: rest, locked := none }) rfl hsize rfl rfl (rest := rest) rfl
    (by rw [hb]; exact d7) (by rw [hb]; exact d10) hout hRframes (by simp only [List.map_cons, List.sum_cons, hcat]; omega) hlocks
  obtain ⟨f1, f2⟩ := vx_frame hsame
  rw [hhp] at f1 f2
  have hWs : s.WarmedH U.vm := State.WarmedH.trans hW0 hW
  have hcl : s.vm.findClass cls = some ce.cls := by
    have h9 := hO.cls
    rw [hvm] at h9
    exact h9
  have hall : s.sameButNew ({ U with vm := s.vm } : State) locs mc ms := by
    subst hA
    obtain ⟨e1, e2⟩ := hsame
    rw [State.setFrames_setFrames] at e1
    have h2 : (T.setVm s.vm).sameButNew ({ U with vm := s.vm } : State) [] (0 + 1) (0 + 6) := ⟨e1, e2⟩
    have h3 := X.same.trans h2
    rw [List.append_nil] at h3
    exact h3.mono hc hs
  refine ⟨U, ?_, .threw T.heap.size, hrun, hend, Or.inr ⟨T.heap.size, rfl, cls, ce, locs, hx U hWs.alike f1 (fun q hq => f2 q hq (fun z hz => nomatch hz)), hce, hO.vm, hcl, hWs, hall, hf⟩⟩
  refine st1 _ ?_
  show Steps p.tables e below (T1.setTop { method := m, pc := pc + 3, locals := ls, stack := .ref T.heap.size :: rest, locked := none }) _
  jvm_step X₁.here [X₁.here.top, hexec, d3', Value.category]
  exact X₁.ldcStringW hexec (own := own) (text := text) (index := is) (a := sa) hown' hstr'.1 hstr'.2
    (g := { method := m, pc := pc + 4, locals := ls, stack := .ref T.heap.size :: .ref T.heap.size :: rest, locked := none }) rfl d4' _ hsteps
end Ends
section Bodies
variable {l : Launch}
theorem vx_ofW {y : MethodName} {ws ws' : List Cond} {rm : Room} {Pc : Array Value → State → Prop} {Qc : Array Value → State → Outcome → State → Prop} {XC : String → State → State → Prop} {mc ms : Nat} {free : Addr → Prop} {cc : ByteArray} {maxL : Nat} {ret : Option FieldType}
    (hy : plainName y.cls = true) (hw : ws = Cond.code y cc maxL ret :: ws')
    (body : ∀ p e s m args below meth c s₁, BodyLoose p l y (headSpec ws rm) cc maxL ret e s m args below meth c s₁ → c.maxLocals = maxL → (∀ x ∈ c.exceptionTable.toList, False) → Pc args s →
      W p l e (headSpec ws rm).room s m args below meth c s.heap [] 0 0 (vx_MQ below Qc XC args s mc ms free) (entryFrame m args maxL)) : vx_Met l y ws rm Pc Qc XC mc ms free := by
  refine MetFree.of_bodyS (code := cc) (maxLocals := maxL) (ret := ret) hy ?_ ?_
  · intro args s m h hn
    obtain ⟨meth, c, h1, h2, h3, h4, h5, h6, -, -⟩ := Cond.code_spec hn (atoms_spec (ws := ws) h _ (by rw [hw]; exact List.mem_cons_self))
    exact ⟨meth, c, h1, h2, h3, h4, h5, h6⟩
  · intro p e s m args below meth c s₁ B hml hP _
    have hh0 : s₁.heap = s.heap := by rw [B.state]; rfl
    have ht : ∀ x ∈ c.exceptionTable.toList, False := by
      obtain ⟨meth9, c9, h1, h2, -, -, -, -, h7, -⟩ := Cond.code_spec B.named (atoms_spec (ws := ws) B.pre _ (by rw [hw]; exact List.mem_cons_self))
      cases Option.some.inj (h1.symm.trans B.method)
      cases Option.some.inj (h2.symm.trans (Stand.of_body B).code)
      intro x hx
      rw [Array.isEmpty_iff.mp h7] at hx
      cases hx
    obtain ⟨t, a1, o, b1, b2, b3⟩ := body p e s m args below meth c s₁ B hml ht hP s₁ hh0 (Stand.of_body B)
    exact ⟨t, o, a1, b1, b2, b3⟩
/-- the table of a body with handlers -/
theorem vx_table {p : Program} {x y : MethodName} {S : Spec} {cc bytes : ByteArray} {maxL maxL' : Nat} {ret ret' : Option FieldType} {e : Env} {s s₁ : State} {m : MethodId} {args : Array Value} {below : List Frame} {meth : Method} {c : Code} {hh : List (Nat × Nat × Nat × Nat)}
    (B : BodyLoose p l y S cc maxL ret e s m args below meth c s₁) (h : (Cond.codeWith y bytes maxL' ret' hh).before args s = true) : c.exceptionTable.toList = tableOf hh := by
  obtain ⟨m9, meth9, c9, hn9, h1, h2, -, -, h6, -⟩ := Cond.codeWith_spec h
  cases Option.some.inj (hn9.symm.trans B.named)
  cases Option.some.inj (h1.symm.trans B.method)
  cases Option.some.inj (h2.symm.trans (Stand.of_body B).code)
  rw [← h6, table_eq]
end Bodies
end VXA
/-! ===== END ===== -/
/-! ===== BEGIN a static call of a method with an exception table ===== -/
section VXS
variable {p : Program} {l : Launch} {e : Env} {R : Room} {s : State} {m : MethodId} {args : Array Value} {below : List Frame} {meth : Method} {c : Code} {T : State} {H : Heap} {locs : List Loc} {cells slots : Nat}
abbrev vx_CSW (R : Room) (s : State) (args : Array Value) (own : String) (index : Nat) (y : MethodName) (bytes : ByteArray) (maxL : Nat) (ret : Option FieldType) (hh : List (Nat × Nat × Nat × Nat)) (ws : List Cond) (rm : Room) (mc ms n : Nat) : Prop :=
  (rm.cells = mc ∧ rm.slots = ms ∧ rm.frames + 1 ≤ R.frames ∧ 8 + (maxL + 11) + rm.locals ≤ R.locals ∧ (∀ w ∈ ws, ∀ (a' : Array Value) (U : State), s.WarmedH U.vm → w.before a' U = true) ∧ Cond.codeWith y bytes maxL ret hh ∈ ws) ∧
  (Cond.codeWith y bytes maxL ret hh).before args s = true ∧ (Cond.initialized y.cls).before args s = true ∧ (y.cls ≠ "java/lang/invoke/MethodHandle" ∧ y.cls ≠ "java/lang/invoke/VarHandle") ∧
  (∀ sig, parseMethodDescriptor y.desc = some sig → n = sig.parameters.length) ∧ (Cond.methodLink own index y).before args s = true ∧ (Cond.static y).before args s = true
theorem vx_cwSW {own : String} {index maxL mc ms : Nat} {y : MethodName} {bytes : ByteArray} {ret : Option FieldType} {hh : List (Nat × Nat × Nat × Nat)} {Ts ws ws' : List Cond} {rm : Room} (n : Nat) (ht : ∀ w ∈ Ts, w.before args s = true) (hT : GoodIn Ts (va_wsS own index y ws)) (hw : ws = Cond.codeWith y bytes maxL ret hh :: ws') (hrc : rm.cells = mc) (hrs : rm.slots = ms)
    (hd : y.cls ≠ "java/lang/invoke/MethodHandle" ∧ y.cls ≠ "java/lang/invoke/VarHandle" ∧ (parseMethodDescriptor y.desc).map (fun d => d.parameters.length) = some n) (hR : rm.frames + 1 ≤ R.frames ∧ 8 + (maxL + 11) + rm.locals ≤ R.locals) :
    vx_CSW R s args own index y bytes maxL ret hh ws rm mc ms n := by
  have ok : ∀ w ∈ va_wsS own index y ws, w.before args s = true := fun w h => ht w (hT w h).1
  have hG : GoodIn Ts ws := fun w h => hT w (by unfold va_wsS; exact List.mem_append_right _ h)
  have hc : Cond.codeWith y bytes maxL ret hh ∈ ws := by rw [hw]; exact List.mem_cons_self
  refine ⟨⟨hrc, hrs, hR.1, hR.2, pay_in ht hG, hc⟩, ht _ (hG _ hc).1, ok _ (by simp [va_wsS]), ⟨hd.1, hd.2.1⟩, fun sig h => ?_, ok _ (by simp [va_wsS]), ok _ (by simp [va_wsS])⟩
  have h2 := hd.2.2
  rw [h] at h2
  exact (Option.some.inj h2).symm
theorem vx_callSW (X : Stand p l e R s m args below meth c T locs cells slots) (hexec : p.tables.exec = Jvm.exec) {own : String} {index : Nat} {y : MethodName} {bytes : ByteArray} {maxL : Nat} {ret : Option FieldType} {hh : List (Nat × Nat × Nat × Nat)}
    (hown : s.vm.findClass own = some m.cls) (hlink : (Cond.methodLink own index y).before args s = true) (hstat : (Cond.static y).before args s = true) (hinit : (Cond.initialized y.cls).before args s = true)
    (hcode : (Cond.codeWith y bytes maxL ret hh).before args s = true) (hy : y.cls ≠ "java/lang/invoke/MethodHandle" ∧ y.cls ≠ "java/lang/invoke/VarHandle")
    {W9 : Nat} {Pre : Pt → Array Value → Prop} {Post : Pt → Array Value → Option Value → Pt → Prop} (hK : Back l R p e below s args y 3 W9 Pre Post)
    {g : JFrame} (hg : g.method = m) (hsize : g.locals.size = c.maxLocals) {argsL rest : List Value} (hlen : ∀ sig, parseMethodDescriptor y.desc = some sig → argsL.length = sig.parameters.length)
    (hstack : g.stack = argsL.reverse ++ rest) (hW : 2 * g.monitorRoom + (rest.map fun v => v.category).sum ≤ W9) (hdg : decode c.code g.pc = .ok (.invokestatic index, 3))
    (hpre : ∀ vm₁, s.WarmedH vm₁ → Pre ⟨T.setVm vm₁, locs, cells, slots⟩ argsL.toArray) :
    ∃ (v : Option Value) (vm₁ : Vm) (B : Pt), s.WarmedH vm₁ ∧ Stand p l e R s m args below meth c B.U B.locs B.cells B.slots ∧ Post ⟨T.setVm vm₁, locs, cells, slots⟩ argsL.toArray v B ∧
      ∀ target, Steps p.tables e below (B.U.setTop { g with pc := g.pc + 3, stack := v.toList ++ rest }) target → Steps p.tables e below (T.setTop g) target := by
  obtain ⟨mk, methM, cM, hnamed, hmethM, -, -, -, -, -, -, hsigM⟩ := Cond.codeWith_spec hcode
  have hstatic : methM.isStatic = true := Cond.static_spec hnamed hmethM hstat
  obtain ⟨kP, hkP, -⟩ := className_of_methodNamed hnamed
  have hinitP : kP.init = .initialized := Cond.initialized_spec (findClass_of_methodNamed hnamed) hkP hinit
  obtain ⟨vm₁, X₁, hstep₁⟩ := X.invokestatic hexec hown hlink hnamed hmethM hstatic hkP hinitP hy (g := g) hg (argsL := argsL) (rest := rest) (hlen _ hsigM) hstack hdg
  obtain ⟨v, B, X', hpost, hsteps⟩ := hK m meth c ⟨T.setVm vm₁, locs, cells, slots⟩ { g with stack := rest } (.invokestatic index) mk argsL.toArray X₁ hg hsize hdg hW (X₁.named hnamed) (hpre vm₁ X₁.warmed)
  exact ⟨v, vm₁, B, X₁.warmed, X', hpost, fun target h => hstep₁ _ fun acts => by rw [doInvoke_state]; exact hsteps.trans h⟩
theorem vx_runSW {y : MethodName} {bytes cc : ByteArray} {maxL nL mc ms n index : Nat} {ret : Option FieldType} {hh : List (Nat × Nat × Nat × Nat)} {ws : List Cond} {rm : Room} {Pc : Array Value → State → Prop} {Qc : Array Value → State → Outcome → State → Prop} {free : Addr → Prop} {Ts : List Cond} {own : String} {As rest : List Value} {g : JFrame}
    (S : CallFix p m c cc nL s args Ts own) (hM : Met l y ws rm Pc Qc mc ms free) (cw : vx_CSW R s args own index y bytes maxL ret hh ws rm mc ms n) (hp : PreS s H Pc As)
    (hg : g.method = m) (hn : As.length = n) (hsize : g.locals.size = nL) (hstack : g.stack = As.reverse ++ rest) (hW : 2 * g.monitorRoom + (rest.map fun v => v.category).sum ≤ 8) (hdg : decode cc g.pc = .ok (.invokestatic index, 3)) (hf : cells + mc ≤ R.cells ∧ slots + ms ≤ R.slots) :
    va_Run p l e R s m args below meth c H locs cells slots mc ms g rest (Qc As.toArray) (free) := by
  obtain ⟨⟨hrc, hrs, hfr, hlo, hws, hcw⟩, hcode, hini, hy, hlen, hl, hstt⟩ := cw
  have hK : Back l R p e below s args y 3 8 (PreOf R mc ms Pc) (PostOf Qc mc ms free) := va_backW (hh := hh) (bytes := bytes) (maxL := maxL) (ret := ret) hM hp.1 hrc hrs hfr hlo hws hcw (fun a' U hW => word_at hW (Or.inl (by first | rfl | simp [Cond.onTables, Cond.keeps, Cond.steady])) hini)
  obtain ⟨hx, hb, hml, ho, -⟩ := S
  intro T hT X
  obtain ⟨v, vm₁, ⟨U', l2, c2, s2⟩, hW₁, X', ⟨g', mk, t, L, e1, e2, hq, h1, hL, h2, h3⟩, st⟩ := vx_callSW X hx (hh := hh) (bytes := bytes) (maxL := maxL) (ret := ret) ho hl hstt hini hcode hy hK hg (hsize.trans hml.symm) (argsL := As) (rest := rest) (fun sig h => hn.trans (hlen sig h)) hstack hW (by rw [hb]; exact hdg)
    (fun vm₁ hW₁ => ⟨hf.1, hf.2, hp.2 (T.setVm vm₁) hT hW₁⟩)
  dsimp only [Pt.U, Pt.locs, Pt.cells, Pt.slots] at X' e1 e2 h1 h2 h3 st
  subst h1; subst h2; subst h3
  exact ⟨v, (T.setVm vm₁).calling g' mk As.toArray, t, U', L, hT, X', hL, e1, e2, hq, st⟩
/-- not caught here, past rows that name other classes: it goes on to the caller -/
theorem vx_outP {p : Program} {l : Launch} {e : Env} {R : Room} {s : State} {m : MethodId} {args : Array Value} {below : List Frame} {meth : Method} {c : Code} {H : Heap} {locs : List Loc} {cells slots : Nat} {free : Addr → Prop} {ls : Array Slot} {rest : List Value} {Qc : Array Value → State → Outcome → State → Prop} {XC : String → State → State → Prop}
    {pc : Nat} {own E : String} {ce : Cell} {q : Addr} {mc ms : Nat} (hown : s.vm.findClass own = some m.cls) (hlocks : meth.locks = false)
    (hpass : ∀ z ∈ c.exceptionTable.toList, covers z pc = false ∨ (z.catchType ≠ 0 ∧ ∃ nm : String, (Cond.classLink own z.catchType nm).before args s = true ∧ va_Nc E nm s)) (hcell : H[q]? = some ce) (hv : ce.vm = .none) (hcl : s.vm.findClass E = some ce.cls)
    (hx : ∀ t : State, t.heap = H → s.vm.Alike t.vm → XC E s t) (hf : ∀ z ∈ locs, free z.base) (hc : cells ≤ mc) (hs : slots ≤ ms) :
    vx_W p l e R s m args below meth c H locs cells slots (vx_MQ below Qc XC args s mc ms free) (F0 m pc ls rest) q := by
  intro T hT X
  have hpl : e.platform.magicAccessors = ({} : Platform).magicAccessors := by rw [X.admits.platform]
  obtain ⟨vm', hW', X', st⟩ := X.outThrough hlocks q (g := F0 m pc ls rest) rfl rfl rfl (cell := ce) (by rw [hT]; exact hcell) (by rw [hv]; rfl)
    (by obtain ⟨k9, h9, -⟩ := Vm.findClass_spec hcl; exact ⟨k9, h9⟩) (fun z hz => by
      rcases hpass z hz with h | ⟨hz0, nm, hl1, hn1⟩
      · exact Or.inl h
      · obtain ⟨c6, hc6, hcl6⟩ := Cond.classLink_spec hown hl1 e.platform hpl
        obtain ⟨a8, b8, h1, h2, h3⟩ := hn1
        cases Option.some.inj (h1.symm.trans hcl)
        cases Option.some.inj (h2.symm.trans hc6)
        exact Or.inr ⟨hz0, _, hcl6, h3⟩)
  obtain ⟨g₀, hfr⟩ := X'.frames_eq
  have hcell9 : ((T.setVm vm').setFrames (.throwing q :: below)).heap[q]? = some ce := by
    show T.heap[q]? = some ce
    rw [hT]; exact hcell
  have hend : Ended ((T.setVm vm').setFrames (.throwing q :: below)) below (.threw q) := State.frames_setFrames _ (State.cur_lt_of_frames hfr)
  refine ⟨(T.setVm vm').setFrames (.throwing q :: below), ?_, .threw q, X'.here.running, hend, Or.inr ⟨q, rfl, E, ce, locs, hx _ hT (X'.ends _).1.alike, hcell9, hv, hcl, (X'.ends _).1, (X'.ends _).2.mono hc hs, hf⟩⟩
  rw [X.pushThrowing_eq]
  exact st
/-- a thing of a world lies in the heap -/
theorem vx_lt {D : va_G} {cl : List vw_C} {ws : va_W} {H1 : Heap} (h : va_P D cl ws H1) {k : Nat} {q : Nat × va_E} (hk : ws[k]? = some q) : q.1 < H1.size := (h k q hk).lt
end VXS
/-! ===== END ===== -/
/-! ===== BEGIN methods with a table of their own: called by a name, returning or throwing ===== -/
section VXH
/-! vx_backW, vx_callVX, vx_callSX, vx_callVW, vx_runVW, vx_runVX, vx_runSX, vx_ofWH follow the same proofs as their sisters above (Free/Laws.lean, Shelf42/LK1.lean); vx_outP calls Shelf42/NT130.lean (outThrough). -/
section
variable {l : Launch} {R : Room} {p : Program} {e : Env} {below : List Frame} {s : State} {sargs : Array Value} {y : MethodName} {len W9 : Nat}
theorem vx_backW {ws : List Cond} {rm : Room} {Pc : Array Value → State → Prop} {Qc : Array Value → State → Outcome → State → Prop} {XC : String → State → State → Prop} {mc ms : Nat} {free : Addr → Prop} {bytes : ByteArray} {maxL : Nat} {ret : Option FieldType} {hh : List (Nat × Nat × Nat × Nat)}
    (hM : vx_Met l y ws rm Pc Qc XC mc ms free) (hblind : FrameBlind Pc) (hrc : rm.cells = mc) (hrs : rm.slots = ms)
    (hframes : rm.frames + 1 ≤ R.frames) (hlocals : W9 + (maxL + 11) + rm.locals ≤ R.locals)
    (hws : ∀ w ∈ ws, ∀ a' U, s.WarmedH U.vm → w.before a' U = true) (hcode : Cond.codeWith y bytes maxL ret hh ∈ ws) (hinit : ∀ a' U, s.WarmedH U.vm → (Cond.initialized y.cls).before a' U = true) :
    vx_Back l R p e below s sargs y len W9 (PreOf R mc ms Pc) (PostOf Qc mc ms free) (vx_Post XC mc ms free) := by
  intro m meth c A g ig mk a X hg hsize hdg hW hn hp
  have h1 : (headSpec ws rm).pre.before a A.U = true := atoms_intro fun w hw => hws w hw _ _ X.warmed
  have h2 : (Cond.codeWith y bytes maxL ret hh).before a A.U = true := hws _ hcode _ _ X.warmed
  have h3 : (Cond.initialized y.cls).before a A.U = true := hinit _ _ X.warmed
  have h4 : A.cells + (headSpec ws rm).room.cells ≤ R.cells := by rw [show (headSpec ws rm).room.cells = mc from hrc]; exact hp.1
  have h5 : A.slots + (headSpec ws rm).room.slots ≤ R.slots := by rw [show (headSpec ws rm).room.slots = ms from hrs]; exact hp.2.1
  have hPc : Pc a (A.U.calling g mk a) := hblind _ _ _ _ hp.2.2
  obtain ⟨U, Ls, c0, s0⟩ := A
  dsimp only [Pt.U, Pt.locs, Pt.cells, Pt.slots] at h1 h2 h3 h4 h5 X hn hPc ⊢
  obtain ⟨m9, methY, cY, hn9, hmY, hcY, -, hlY, -⟩ := Cond.codeWith_spec h2
  cases Option.some.inj (hn9.symm.trans hn)
  obtain ⟨kY, hkY, -⟩ := className_of_methodNamed hn
  have hinitY : kY.init = .initialized := Cond.initialized_spec (findClass_of_methodNamed hn) hkY h3
  have h : At U g.method c below := by rw [hg]; exact X.here
  have hlocals9 : W9 + (maxL + 11) + (headSpec ws rm).room.locals ≤ R.locals := hlocals
  have happ : (headSpec ws rm).appliesLoose y e.platform (U.calling g mk a) = true :=
    Spec.appliesLoose_calling (g := g) h hdg hn hkY hinitY
      (X.room_calling (g := g) (R' := (headSpec ws rm).room) hsize hmY hcY hframes (by rw [hlY]; omega) h4 h5) h1
  obtain ⟨mid, hmid⟩ := h.above
  have hfr : (U.setTop g).frames = (.java g :: mid) ++ below := by rw [State.frames_setTop' g h.top, hmid]; rfl
  obtain ⟨o, s₂, hsteps, -, hend, hq⟩ := Steps.callFree hM p X.admits X.cas X.clock (acts := []) hfr happ hPc trivial
  have hq' : vx_Q Qc XC mc ms free a (U.calling g mk a) o s₂ := hq
  rw [State.frames_setTop' g h.top] at hend
  obtain ⟨g₀, hg0⟩ := Option.isSome_iff_exists.mp h.top
  obtain ⟨r, hr⟩ := State.topJava?_eq_some.mp hg0
  have hr' : (({ U with heap := s₂.heap, slotsUsed := s₂.slotsUsed } : State).setVm s₂.vm).frames = .java g₀ :: r := hr
  rcases hq' with ⟨hqc, L, hfe, hL⟩ | ⟨q, rfl, E, ce, L, hx, hce, hcv, hcl, hW₂, hsm, hL⟩
  · obtain ⟨⟨v, rfl⟩, hW₂, e2, q2, q3, q4, q5, q6⟩ := id hfe
    have e3 : s₂ = ({ (U.calling g mk a).setFrames s₂.frames with heap := s₂.heap, slotsUsed := s₂.slotsUsed } : State).setVm s₂.vm := by
      have : s₂ = ({ s₂ with vm := (U.calling g mk a).vm } : State).setVm s₂.vm := rfl
      rw [e2] at this
      exact this
    obtain ⟨c₂, i₂, len₂, hc₂, hd₂, hf₂⟩ := hend
    have hW' : U.WarmedH s₂.vm := hW₂
    have hcc : c₂ = c := by
      have h1 : s₂.code? g.method = U.code? g.method := by
        rw [State.code?_eq, State.code?_eq, hW'.alike.method?]
      exact Option.some.inj (hc₂.symm.trans (h1.trans h.code))
    subst hcc
    have hlen : len₂ = len := by rw [hdg] at hd₂; cases hd₂; rfl
    subst hlen
    have hs₂ : s₂ = (({ U with heap := s₂.heap, slotsUsed := s₂.slotsUsed } : State).setVm s₂.vm).setTop { g with pc := g.pc + len₂, stack := v.toList ++ g.stack } := by
      refine e3.trans ?_
      rw [hf₂, State.calling_eq h.top, State.setFrames_setFrames, State.setTop_of_frames _ hr', hr]
      rfl
    have hsame : U.sameButNew ({ U with heap := s₂.heap, slotsUsed := s₂.slotsUsed } : State) L mc ms := by
      refine ⟨?_, q2, q3, q4, q5, q6⟩
      obtain ⟨t, ht, -⟩ := State.frames_cons hr
      show ({ U with heap := s₂.heap, slotsUsed := s₂.slotsUsed } : State) = { U.setFrames U.frames with heap := s₂.heap, slotsUsed := s₂.slotsUsed }
      rw [State.setFrames_self ht]
    subst hg
    refine Or.inl ⟨v, ⟨(({ U with heap := s₂.heap, slotsUsed := s₂.slotsUsed } : State).setVm s₂.vm), Ls ++ L, c0 + mc, s0 + ms⟩,
      ⟨X.admits, X.cas, X.clock, X.frames, X.room, X.hears, X.method, X.code, (X.here.setHeapUsed s₂.heap s₂.slotsUsed).setVm hW'.alike, X.tail, State.WarmedH.trans X.warmed hW', X.limits, X.bytes, X.same.trans (hsame.setVm s.vm)⟩,
      ⟨g, mk, s₂, L, rfl, rfl, hqc, rfl, hL, rfl, rfl⟩, ?_⟩
    show Steps p.tables e below _ ((({ U with heap := s₂.heap, slotsUsed := s₂.slotsUsed } : State).setVm s₂.vm).setTop { g with pc := g.pc + len₂, stack := v.toList ++ g.stack })
    rw [← hs₂]
    exact hsteps
  · obtain ⟨e2, q2, q3, q4, q5, q6⟩ := id hsm
    have e3 : s₂ = ({ (U.calling g mk a).setFrames s₂.frames with heap := s₂.heap, slotsUsed := s₂.slotsUsed } : State).setVm s₂.vm := by
      have : s₂ = ({ s₂ with vm := (U.calling g mk a).vm } : State).setVm s₂.vm := rfl
      rw [e2] at this
      exact this
    have hf₂ : s₂.frames = .throwing q :: .java g :: U.frames.tail := hend
    have hW' : U.WarmedH s₂.vm := hW₂
    have hs₂ : s₂ = ((({ U with heap := s₂.heap, slotsUsed := s₂.slotsUsed } : State).setVm s₂.vm).setTop g).pushFrame (.throwing q) := by
      refine e3.trans ?_
      rw [hf₂, State.calling_eq h.top, State.setFrames_setFrames, State.pushFrame, State.frames_setTop _ hr', State.setTop_of_frames _ hr', State.setFrames_setFrames, hr]
      rfl
    have hsame : U.sameButNew ({ U with heap := s₂.heap, slotsUsed := s₂.slotsUsed } : State) L mc ms := by
      refine ⟨?_, q2, q3, q4, q5, q6⟩
      obtain ⟨t, ht, -⟩ := State.frames_cons hr
      show ({ U with heap := s₂.heap, slotsUsed := s₂.slotsUsed } : State) = { U.setFrames U.frames with heap := s₂.heap, slotsUsed := s₂.slotsUsed }
      rw [State.setFrames_self ht]
    subst hg
    refine Or.inr ⟨q, ⟨(({ U with heap := s₂.heap, slotsUsed := s₂.slotsUsed } : State).setVm s₂.vm), Ls ++ L, c0 + mc, s0 + ms⟩,
      ⟨X.admits, X.cas, X.clock, X.frames, X.room, X.hears, X.method, X.code, (X.here.setHeapUsed s₂.heap s₂.slotsUsed).setVm hW'.alike, X.tail, State.WarmedH.trans X.warmed hW', X.limits, X.bytes, X.same.trans (hsame.setVm s.vm)⟩,
      ⟨g, mk, s₂, L, E, ce, rfl, rfl, hx, hce, hcv, hcl, rfl, hL, rfl, rfl⟩, ?_⟩
    show Steps p.tables e below _ (((({ U with heap := s₂.heap, slotsUsed := s₂.slotsUsed } : State).setVm s₂.vm).setTop g).pushFrame (.throwing q))
    rw [← hs₂]
    exact hsteps
end
variable {p : Program} {l : Launch} {e : Env} {R : Room} {s : State} {m : MethodId} {args : Array Value} {below : List Frame} {meth : Method} {c : Code} {T : State} {H : Heap} {locs : List Loc} {cells slots : Nat}
theorem vx_callVX (X : Stand p l e R s m args below meth c T locs cells slots) (hexec : p.tables.exec = Jvm.exec) {own C : String} {index : Nat} {y : MethodName} {bytes : ByteArray} {maxL : Nat} {ret : Option FieldType} {hh : List (Nat × Nat × Nat × Nat)}
    (hown : s.vm.findClass own = some m.cls) (hlink : (Cond.methodLink own index y).before args s = true) (hinst : (Cond.instanceMethod y).before args s = true) (hsel : (Cond.selects C y y).before args s = true)
    (hcode : (Cond.codeWith y bytes maxL ret hh).before args s = true) (hy : y.cls ≠ "java/lang/invoke/MethodHandle" ∧ y.cls ≠ "java/lang/invoke/VarHandle")
    {W9 : Nat} {Pre : Pt → Array Value → Prop} {Post : Pt → Array Value → Option Value → Pt → Prop} {PostX : Pt → Array Value → Addr → Pt → Prop} (hK : vx_Back l R p e below s args y 3 W9 Pre Post PostX)
    {b : Addr} {cellB : Cell} (hcell : T.heap[b]? = some cellB) (hobj : cellB.vm.isStatics = false) (hcls : s.vm.findClass C = some cellB.cls)
    {g : JFrame} (hg : g.method = m) (hsize : g.locals.size = c.maxLocals) {argsL rest : List Value} (hlen : ∀ sig, parseMethodDescriptor y.desc = some sig → argsL.length = sig.parameters.length)
    (hstack : g.stack = argsL.reverse ++ .ref b :: rest) (hW : 2 * g.monitorRoom + (rest.map fun v => v.category).sum ≤ W9) (hdg : decode c.code g.pc = .ok (.invokevirtual index, 3))
    (hpre : ∀ vm₁, s.WarmedH vm₁ → Pre ⟨T.setVm vm₁, locs, cells, slots⟩ (Value.ref b :: argsL).toArray) :
    (∃ (v : Option Value) (vm₁ : Vm) (B : Pt), s.WarmedH vm₁ ∧ Stand p l e R s m args below meth c B.U B.locs B.cells B.slots ∧ Post ⟨T.setVm vm₁, locs, cells, slots⟩ (Value.ref b :: argsL).toArray v B ∧
      ∀ target, Steps p.tables e below (B.U.setTop { g with pc := g.pc + 3, stack := v.toList ++ rest }) target → Steps p.tables e below (T.setTop g) target) ∨
    (∃ (q : Addr) (vm₁ : Vm) (B : Pt), s.WarmedH vm₁ ∧ Stand p l e R s m args below meth c B.U B.locs B.cells B.slots ∧ PostX ⟨T.setVm vm₁, locs, cells, slots⟩ (Value.ref b :: argsL).toArray q B ∧
      Steps p.tables e below (T.setTop g) ((B.U.setTop { g with stack := rest }).pushFrame (.throwing q))) := by
  obtain ⟨mk, methM, hnamed, hmethM, hstM, habM⟩ := Cond.instanceMethod_spec hinst
  obtain ⟨m8, methM', cM, hn8, hmethM', -, -, -, -, -, -, hsigM⟩ := Cond.codeWith_spec hcode
  cases Option.some.inj (hn8.symm.trans hnamed)
  cases hmethM.symm.trans hmethM'
  obtain ⟨c2, r2, m2, q1, q2, q3, q4, kP, hkP, hkPi⟩ := Cond.selects_spec hsel
  cases hcls.symm.trans q1
  cases (State.methodFound?_of_named hnamed hy).symm.trans q2
  cases hnamed.symm.trans q3
  have hselP : selectMethod e.platform s.vm cellB.cls mk = .method mk := by rw [Launch.admits_selectMethod X.admits]; exact q4
  obtain ⟨vm₁, X₁, hstep₁⟩ := X.invokevirtual hexec hown hlink hnamed hmethM hstM hkP hkPi hy (a := b) (cell := cellB) hcell
    (fun z h => by rw [h] at hobj; cases hobj) hselP hmethM habM hkP hkPi (g := g) hg (argsL := argsL) (rest := rest) (hlen _ hsigM) hstack hdg
  rcases hK m meth c ⟨T.setVm vm₁, locs, cells, slots⟩ { g with stack := rest } (.invokevirtual index) mk (Value.ref b :: argsL).toArray X₁ hg hsize hdg hW (X₁.named hnamed) (hpre vm₁ X₁.warmed) with ⟨v, B, X', hpost, hsteps⟩ | ⟨q, B, X', hpost, hsteps⟩
  · exact Or.inl ⟨v, vm₁, B, X₁.warmed, X', hpost, fun target h => hstep₁ _ fun acts => by rw [doInvoke_state]; exact hsteps.trans h⟩
  · exact Or.inr ⟨q, vm₁, B, X₁.warmed, X', hpost, hstep₁ _ fun acts => by rw [doInvoke_state]; exact hsteps⟩
theorem vx_callSX (X : Stand p l e R s m args below meth c T locs cells slots) (hexec : p.tables.exec = Jvm.exec) {own : String} {index : Nat} {y : MethodName} {bytes : ByteArray} {maxL : Nat} {ret : Option FieldType} {hh : List (Nat × Nat × Nat × Nat)}
    (hown : s.vm.findClass own = some m.cls) (hlink : (Cond.methodLink own index y).before args s = true) (hstat : (Cond.static y).before args s = true) (hinit : (Cond.initialized y.cls).before args s = true)
    (hcode : (Cond.codeWith y bytes maxL ret hh).before args s = true) (hy : y.cls ≠ "java/lang/invoke/MethodHandle" ∧ y.cls ≠ "java/lang/invoke/VarHandle")
    {W9 : Nat} {Pre : Pt → Array Value → Prop} {Post : Pt → Array Value → Option Value → Pt → Prop} {PostX : Pt → Array Value → Addr → Pt → Prop} (hK : vx_Back l R p e below s args y 3 W9 Pre Post PostX)
    {g : JFrame} (hg : g.method = m) (hsize : g.locals.size = c.maxLocals) {argsL rest : List Value} (hlen : ∀ sig, parseMethodDescriptor y.desc = some sig → argsL.length = sig.parameters.length)
    (hstack : g.stack = argsL.reverse ++ rest) (hW : 2 * g.monitorRoom + (rest.map fun v => v.category).sum ≤ W9) (hdg : decode c.code g.pc = .ok (.invokestatic index, 3))
    (hpre : ∀ vm₁, s.WarmedH vm₁ → Pre ⟨T.setVm vm₁, locs, cells, slots⟩ argsL.toArray) :
    (∃ (v : Option Value) (vm₁ : Vm) (B : Pt), s.WarmedH vm₁ ∧ Stand p l e R s m args below meth c B.U B.locs B.cells B.slots ∧ Post ⟨T.setVm vm₁, locs, cells, slots⟩ argsL.toArray v B ∧
      ∀ target, Steps p.tables e below (B.U.setTop { g with pc := g.pc + 3, stack := v.toList ++ rest }) target → Steps p.tables e below (T.setTop g) target) ∨
    (∃ (q : Addr) (vm₁ : Vm) (B : Pt), s.WarmedH vm₁ ∧ Stand p l e R s m args below meth c B.U B.locs B.cells B.slots ∧ PostX ⟨T.setVm vm₁, locs, cells, slots⟩ argsL.toArray q B ∧
      Steps p.tables e below (T.setTop g) ((B.U.setTop { g with stack := rest }).pushFrame (.throwing q))) := by
  obtain ⟨mk, methM, cM, hnamed, hmethM, -, -, -, -, -, -, hsigM⟩ := Cond.codeWith_spec hcode
  have hstatic : methM.isStatic = true := Cond.static_spec hnamed hmethM hstat
  obtain ⟨kP, hkP, -⟩ := className_of_methodNamed hnamed
  have hinitP : kP.init = .initialized := Cond.initialized_spec (findClass_of_methodNamed hnamed) hkP hinit
  obtain ⟨vm₁, X₁, hstep₁⟩ := X.invokestatic hexec hown hlink hnamed hmethM hstatic hkP hinitP hy (g := g) hg (argsL := argsL) (rest := rest) (hlen _ hsigM) hstack hdg
  rcases hK m meth c ⟨T.setVm vm₁, locs, cells, slots⟩ { g with stack := rest } (.invokestatic index) mk argsL.toArray X₁ hg hsize hdg hW (X₁.named hnamed) (hpre vm₁ X₁.warmed) with ⟨v, B, X', hpost, hsteps⟩ | ⟨q, B, X', hpost, hsteps⟩
  · exact Or.inl ⟨v, vm₁, B, X₁.warmed, X', hpost, fun target h => hstep₁ _ fun acts => by rw [doInvoke_state]; exact hsteps.trans h⟩
  · exact Or.inr ⟨q, vm₁, B, X₁.warmed, X', hpost, hstep₁ _ fun acts => by rw [doInvoke_state]; exact hsteps⟩
theorem vx_callVW (X : Stand p l e R s m args below meth c T locs cells slots) (hexec : p.tables.exec = Jvm.exec) {own C : String} {index : Nat} {y : MethodName} {bytes : ByteArray} {maxL : Nat} {ret : Option FieldType} {hh : List (Nat × Nat × Nat × Nat)}
    (hown : s.vm.findClass own = some m.cls) (hlink : (Cond.methodLink own index y).before args s = true) (hinst : (Cond.instanceMethod y).before args s = true) (hsel : (Cond.selects C y y).before args s = true)
    (hcode : (Cond.codeWith y bytes maxL ret hh).before args s = true) (hy : y.cls ≠ "java/lang/invoke/MethodHandle" ∧ y.cls ≠ "java/lang/invoke/VarHandle")
    {W9 : Nat} {Pre : Pt → Array Value → Prop} {Post : Pt → Array Value → Option Value → Pt → Prop} (hK : Back l R p e below s args y 3 W9 Pre Post)
    {b : Addr} {cellB : Cell} (hcell : T.heap[b]? = some cellB) (hobj : cellB.vm.isStatics = false) (hcls : s.vm.findClass C = some cellB.cls)
    {g : JFrame} (hg : g.method = m) (hsize : g.locals.size = c.maxLocals) {argsL rest : List Value} (hlen : ∀ sig, parseMethodDescriptor y.desc = some sig → argsL.length = sig.parameters.length)
    (hstack : g.stack = argsL.reverse ++ .ref b :: rest) (hW : 2 * g.monitorRoom + (rest.map fun v => v.category).sum ≤ W9) (hdg : decode c.code g.pc = .ok (.invokevirtual index, 3))
    (hpre : ∀ vm₁, s.WarmedH vm₁ → Pre ⟨T.setVm vm₁, locs, cells, slots⟩ (Value.ref b :: argsL).toArray) :
    ∃ (v : Option Value) (vm₁ : Vm) (B : Pt), s.WarmedH vm₁ ∧ Stand p l e R s m args below meth c B.U B.locs B.cells B.slots ∧ Post ⟨T.setVm vm₁, locs, cells, slots⟩ (Value.ref b :: argsL).toArray v B ∧
      ∀ target, Steps p.tables e below (B.U.setTop { g with pc := g.pc + 3, stack := v.toList ++ rest }) target → Steps p.tables e below (T.setTop g) target := by
  obtain ⟨mk, methM, hnamed, hmethM, hstM, habM⟩ := Cond.instanceMethod_spec hinst
  obtain ⟨m8, methM', cM, hn8, hmethM', -, -, -, -, -, -, hsigM⟩ := Cond.codeWith_spec hcode
  cases Option.some.inj (hn8.symm.trans hnamed)
  cases hmethM.symm.trans hmethM'
  obtain ⟨c2, r2, m2, q1, q2, q3, q4, kP, hkP, hkPi⟩ := Cond.selects_spec hsel
  cases hcls.symm.trans q1
  cases (State.methodFound?_of_named hnamed hy).symm.trans q2
  cases hnamed.symm.trans q3
  have hselP : selectMethod e.platform s.vm cellB.cls mk = .method mk := by rw [Launch.admits_selectMethod X.admits]; exact q4
  obtain ⟨vm₁, X₁, hstep₁⟩ := X.invokevirtual hexec hown hlink hnamed hmethM hstM hkP hkPi hy (a := b) (cell := cellB) hcell
    (fun z h => by rw [h] at hobj; cases hobj) hselP hmethM habM hkP hkPi (g := g) hg (argsL := argsL) (rest := rest) (hlen _ hsigM) hstack hdg
  obtain ⟨v, B, X', hpost, hsteps⟩ := hK m meth c ⟨T.setVm vm₁, locs, cells, slots⟩ { g with stack := rest } (.invokevirtual index) mk (Value.ref b :: argsL).toArray X₁ hg hsize hdg hW (X₁.named hnamed) (hpre vm₁ X₁.warmed)
  exact ⟨v, vm₁, B, X₁.warmed, X', hpost, fun target h => hstep₁ _ fun acts => by rw [doInvoke_state]; exact hsteps.trans h⟩
abbrev vx_CVW (R : Room) (s : State) (args : Array Value) (own C : String) (index : Nat) (y : MethodName) (bytes : ByteArray) (maxL : Nat) (ret : Option FieldType) (hh : List (Nat × Nat × Nat × Nat)) (ws : List Cond) (rm : Room) (mc ms n : Nat) : Prop :=
  (rm.cells = mc ∧ rm.slots = ms ∧ rm.frames + 1 ≤ R.frames ∧ 8 + (maxL + 11) + rm.locals ≤ R.locals ∧ (∀ w ∈ ws, ∀ (a' : Array Value) (U : State), s.WarmedH U.vm → w.before a' U = true) ∧ Cond.codeWith y bytes maxL ret hh ∈ ws) ∧
  (Cond.codeWith y bytes maxL ret hh).before args s = true ∧ (Cond.initialized y.cls).before args s = true ∧ (y.cls ≠ "java/lang/invoke/MethodHandle" ∧ y.cls ≠ "java/lang/invoke/VarHandle") ∧
  (∀ sig, parseMethodDescriptor y.desc = some sig → n = sig.parameters.length) ∧ (Cond.methodLink own index y).before args s = true ∧ (Cond.instanceMethod y).before args s = true ∧ (Cond.selects C y y).before args s = true
theorem vx_cwVW {own C : String} {index maxL mc ms : Nat} {y : MethodName} {bytes : ByteArray} {ret : Option FieldType} {hh : List (Nat × Nat × Nat × Nat)} {Ts ws ws' : List Cond} {rm : Room} (n : Nat) (ht : ∀ w ∈ Ts, w.before args s = true) (hT : GoodIn Ts (wsV own index C y ws)) (hw : ws = Cond.codeWith y bytes maxL ret hh :: ws') (hrc : rm.cells = mc) (hrs : rm.slots = ms)
    (hd : y.cls = C ∧ y.cls ≠ "java/lang/invoke/MethodHandle" ∧ y.cls ≠ "java/lang/invoke/VarHandle" ∧ (parseMethodDescriptor y.desc).map (fun d => d.parameters.length) = some n) (hR : rm.frames + 1 ≤ R.frames ∧ 8 + (maxL + 11) + rm.locals ≤ R.locals) :
    vx_CVW R s args own C index y bytes maxL ret hh ws rm mc ms n := by
  obtain ⟨hC, hd⟩ := hd
  subst hC
  have ok : ∀ w ∈ wsV own index y.cls y ws, w.before args s = true := fun w h => ht w (hT w h).1
  have hG : GoodIn Ts ws := fun w h => hT w (by unfold wsV; exact List.mem_append_right _ h)
  have hc : Cond.codeWith y bytes maxL ret hh ∈ ws := by rw [hw]; exact List.mem_cons_self
  refine ⟨⟨hrc, hrs, hR.1, hR.2, pay_in ht hG, hc⟩, ht _ (hG _ hc).1, ok _ (by simp [wsV]), ⟨hd.1, hd.2.1⟩, fun sig h => ?_, ok _ (by simp [wsV]), ok _ (by simp [wsV]), ok _ (by simp [wsV])⟩
  have h2 := hd.2.2
  rw [h] at h2
  exact (Option.some.inj h2).symm
theorem vx_runVW {y : MethodName} {bytes cc : ByteArray} {maxL nL mc ms n index : Nat} {ret : Option FieldType} {hh : List (Nat × Nat × Nat × Nat)} {ws : List Cond} {rm : Room} {Pc : Array Value → State → Prop} {Qc : Array Value → State → Outcome → State → Prop} {free : Addr → Prop} {Ts : List Cond} {own C : String} {b : Addr} {As rest : List Value} {g : JFrame}
    (S : CallFix p m c cc nL s args Ts own) (hM : Met l y ws rm Pc Qc mc ms free) (cw : vx_CVW R s args own C index y bytes maxL ret hh ws rm mc ms n) (hp : PreV s H C b Pc As)
    (hg : g.method = m) (hn : As.length = n) (hsize : g.locals.size = nL) (hstack : g.stack = As.reverse ++ .ref b :: rest) (hW : 2 * g.monitorRoom + (rest.map fun v => v.category).sum ≤ 8) (hdg : decode cc g.pc = .ok (.invokevirtual index, 3)) (hf : cells + mc ≤ R.cells ∧ slots + ms ≤ R.slots) :
    va_Run p l e R s m args below meth c H locs cells slots mc ms g rest (Qc (Value.ref b :: As).toArray) free := by
  obtain ⟨⟨hrc, hrs, hfr, hlo, hws, hcw⟩, hcode, hini, hy, hlen, hl, hin, hse⟩ := cw
  have hK : Back l R p e below s args y 3 8 (PreOf R mc ms Pc) (PostOf Qc mc ms free) := va_backW (hh := hh) (bytes := bytes) (maxL := maxL) (ret := ret) hM hp.1 hrc hrs hfr hlo hws hcw (fun a' U hW => word_at hW (Or.inl (by first | rfl | simp [Cond.onTables, Cond.keeps, Cond.steady])) hini)
  obtain ⟨hx, hb, hml, ho, -⟩ := S
  obtain ⟨-, ⟨cellB, hcB, hoB, hclB⟩, hPc⟩ := hp
  intro T hT X
  obtain ⟨v, vm₁, ⟨U', l2, c2, s2⟩, hW₁, X', ⟨g', mk, t, L, e1, e2, hq, h1, hL, h2, h3⟩, st⟩ := vx_callVW X hx (C := C) (hh := hh) (bytes := bytes) (maxL := maxL) (ret := ret) ho hl hin hse hcode hy hK (by rw [hT]; exact hcB) hoB hclB hg (hsize.trans hml.symm) (argsL := As) (rest := rest) (fun sig h => hn.trans (hlen sig h)) hstack hW (by rw [hb]; exact hdg)
    (fun vm₁ hW₁ => ⟨hf.1, hf.2, hPc (T.setVm vm₁) hT hW₁⟩)
  dsimp only [Pt.U, Pt.locs, Pt.cells, Pt.slots] at X' e1 e2 h1 h2 h3 st
  subst h1; subst h2; subst h3
  exact ⟨v, (T.setVm vm₁).calling g' mk (Value.ref b :: As).toArray, t, U', L, hT, X', hL, e1, e2, hq, st⟩
section
variable {y : MethodName} {bytes cc : ByteArray} {maxL nL mc ms n index : Nat} {ret : Option FieldType} {ws : List Cond} {rm : Room} {Pc : Array Value → State → Prop} {Qc : Array Value → State → Outcome → State → Prop} {XC : String → State → State → Prop} {free : Addr → Prop} {Ts : List Cond} {own C : String} {b : Addr} {As rest : List Value} {g : JFrame}
theorem vx_runVX {hh : List (Nat × Nat × Nat × Nat)} (S : CallFix p m c cc nL s args Ts own) (hM : vx_Met l y ws rm Pc Qc XC mc ms free) (cw : vx_CVW R s args own C index y bytes maxL ret hh ws rm mc ms n) (hp : PreV s H C b Pc As)
    (hg : g.method = m) (hn : As.length = n) (hsize : g.locals.size = nL) (hstack : g.stack = As.reverse ++ .ref b :: rest) (hW : 2 * g.monitorRoom + (rest.map fun v => v.category).sum ≤ 8) (hdg : decode cc g.pc = .ok (.invokevirtual index, 3)) (hf : cells + mc ≤ R.cells ∧ slots + ms ≤ R.slots) :
    vx_Run p l e R s m args below meth c H locs cells slots mc ms g rest (Qc (Value.ref b :: As).toArray) XC free := by
  obtain ⟨⟨hrc, hrs, hfr, hlo, hws, hcw⟩, hcode, hini, hy, hlen, hl, hin, hse⟩ := cw
  have hK : vx_Back l R p e below s args y 3 8 (PreOf R mc ms Pc) (PostOf Qc mc ms free) (vx_Post XC mc ms free) := vx_backW (hh := hh) (bytes := bytes) (maxL := maxL) (ret := ret) hM hp.1 hrc hrs hfr hlo hws hcw (fun a' U hW => word_at hW (Or.inl (by first | rfl | simp [Cond.onTables, Cond.keeps, Cond.steady])) hini)
  obtain ⟨hx, hb, hml, ho, -⟩ := S
  obtain ⟨-, ⟨cellB, hcB, hoB, hclB⟩, hPc⟩ := hp
  intro T hT X
  rcases vx_callVX X hx (C := C) (hh := hh) (bytes := bytes) (maxL := maxL) (ret := ret) ho hl hin hse hcode hy hK (by rw [hT]; exact hcB) hoB hclB hg (hsize.trans hml.symm) (argsL := As) (rest := rest) (fun sig h => hn.trans (hlen sig h)) hstack hW (by rw [hb]; exact hdg)
    (fun vm₁ hW₁ => ⟨hf.1, hf.2, hPc (T.setVm vm₁) hT hW₁⟩) with ⟨v, vm₁, ⟨U', l2, c2, s2⟩, hW₁, X', ⟨g', mk, t, L, e1, e2, hq, h1, hL, h2, h3⟩, st⟩ | ⟨q, vm₁, ⟨U', l2, c2, s2⟩, hW₁, X', ⟨g', mk, t, L, E, ce, e1, e2, hq, hce, hcv, hcl, h1, hL, h2, h3⟩, st⟩
  · dsimp only [Pt.U, Pt.locs, Pt.cells, Pt.slots] at X' e1 e2 h1 h2 h3 st
    subst h1; subst h2; subst h3
    exact Or.inl ⟨v, (T.setVm vm₁).calling g' mk (Value.ref b :: As).toArray, t, U', L, hT, X', hL, e1, e2, hq, st⟩
  · dsimp only [Pt.U, Pt.locs, Pt.cells, Pt.slots] at X' e1 e2 h1 h2 h3 st hcl
    subst h1; subst h2; subst h3
    exact Or.inr ⟨q, (T.setVm vm₁).calling g' mk (Value.ref b :: As).toArray, t, U', L, E, ce, hT, X', hL, e1, e2, hq, hce, hcv, vx_cls hW₁ hcl, st⟩
theorem vx_runSX {hh : List (Nat × Nat × Nat × Nat)} (S : CallFix p m c cc nL s args Ts own) (hM : vx_Met l y ws rm Pc Qc XC mc ms free) (cw : vx_CSW R s args own index y bytes maxL ret hh ws rm mc ms n) (hp : PreS s H Pc As)
    (hg : g.method = m) (hn : As.length = n) (hsize : g.locals.size = nL) (hstack : g.stack = As.reverse ++ rest) (hW : 2 * g.monitorRoom + (rest.map fun v => v.category).sum ≤ 8) (hdg : decode cc g.pc = .ok (.invokestatic index, 3)) (hf : cells + mc ≤ R.cells ∧ slots + ms ≤ R.slots) :
    vx_Run p l e R s m args below meth c H locs cells slots mc ms g rest (Qc As.toArray) XC free := by
  obtain ⟨⟨hrc, hrs, hfr, hlo, hws, hcw⟩, hcode, hini, hy, hlen, hl, hstt⟩ := cw
  have hK : vx_Back l R p e below s args y 3 8 (PreOf R mc ms Pc) (PostOf Qc mc ms free) (vx_Post XC mc ms free) := vx_backW (hh := hh) (bytes := bytes) (maxL := maxL) (ret := ret) hM hp.1 hrc hrs hfr hlo hws hcw (fun a' U hW => word_at hW (Or.inl (by first | rfl | simp [Cond.onTables, Cond.keeps, Cond.steady])) hini)
  obtain ⟨hx, hb, hml, ho, -⟩ := S
  intro T hT X
  rcases vx_callSX X hx (hh := hh) (bytes := bytes) (maxL := maxL) (ret := ret) ho hl hstt hini hcode hy hK hg (hsize.trans hml.symm) (argsL := As) (rest := rest) (fun sig h => hn.trans (hlen sig h)) hstack hW (by rw [hb]; exact hdg)
    (fun vm₁ hW₁ => ⟨hf.1, hf.2, hp.2 (T.setVm vm₁) hT hW₁⟩) with ⟨v, vm₁, ⟨U', l2, c2, s2⟩, hW₁, X', ⟨g', mk, t, L, e1, e2, hq, h1, hL, h2, h3⟩, st⟩ | ⟨q, vm₁, ⟨U', l2, c2, s2⟩, hW₁, X', ⟨g', mk, t, L, E, ce, e1, e2, hq, hce, hcv, hcl, h1, hL, h2, h3⟩, st⟩
  · dsimp only [Pt.U, Pt.locs, Pt.cells, Pt.slots] at X' e1 e2 h1 h2 h3 st
    subst h1; subst h2; subst h3
    exact Or.inl ⟨v, (T.setVm vm₁).calling g' mk As.toArray, t, U', L, hT, X', hL, e1, e2, hq, st⟩
  · dsimp only [Pt.U, Pt.locs, Pt.cells, Pt.slots] at X' e1 e2 h1 h2 h3 st hcl
    subst h1; subst h2; subst h3
    exact Or.inr ⟨q, (T.setVm vm₁).calling g' mk As.toArray, t, U', L, E, ce, hT, X', hL, e1, e2, hq, hce, hcv, vx_cls hW₁ hcl, st⟩
end
end VXH
theorem vx_ofWH {l : Launch} {y : MethodName} {ws ws' : List Cond} {rm : Room} {Pc : Array Value → State → Prop} {Qc : Array Value → State → Outcome → State → Prop} {XC : String → State → State → Prop} {mc ms : Nat} {free : Addr → Prop} {cc : ByteArray} {maxL : Nat} {ret : Option FieldType} {hh : List (Nat × Nat × Nat × Nat)}
    (hy : plainName y.cls = true) (hw : ws = Cond.codeWith y cc maxL ret hh :: ws')
    (body : ∀ p e s m args below meth c s₁, BodyLoose p l y (headSpec ws rm) cc maxL ret e s m args below meth c s₁ → c.maxLocals = maxL → Pc args s →
      W p l e (headSpec ws rm).room s m args below meth c s.heap [] 0 0 (vx_MQ below Qc XC args s mc ms free) (entryFrame m args maxL)) : vx_Met l y ws rm Pc Qc XC mc ms free := by
  refine MetFree.of_bodyS (code := cc) (maxLocals := maxL) (ret := ret) hy ?_ ?_
  · intro args s m h hn
    obtain ⟨m9, meth, c, hn9, h1, h2, h3, h4, -, h5, h6, -⟩ := Cond.codeWith_spec (atoms_spec (ws := ws) h _ (by rw [hw]; exact List.mem_cons_self))
    cases hn.symm.trans hn9
    exact ⟨meth, c, h1, h2, h3, h4, h5, h6⟩
  · intro p e s m args below meth c s₁ B hml hP _
    have hh0 : s₁.heap = s.heap := by rw [B.state]; rfl
    obtain ⟨t, a1, o, b1, b2, b3⟩ := body p e s m args below meth c s₁ B hml hP s₁ hh0 (Stand.of_body B)
    exact ⟨t, o, a1, b1, b2, b3⟩
/-! ===== END ===== -/
end
section
/-! what the row va_mna asks of the tables: an array class over arrays of ty stands -/
def va_AOA (ty : FieldType) (s : State) : Prop := ∀ A : Array Value, (Cond.arrayOver (.array ty)).before A s = true
theorem va_AOA.use {ty : FieldType} {s : State} {A : Array Value} (h : va_AOA ty s) : (Cond.arrayOver (.array ty)).before A s = true := h A
theorem va_AOA.of {ty : FieldType} {s : State} {A : Array Value} (h : (Cond.arrayOver (.array ty)).before A s = true) : va_AOA ty s := fun B => by
  simp only [Cond.before, Cond.holds, Cond.value] at h ⊢
  exact h
theorem va_AOA.moved {ty : FieldType} {u U : State} (hal : u.vm.Alike U.vm) (h : va_AOA ty u) : va_AOA ty U := fun A => by
  have h := h A
  simp only [Cond.before, Cond.holds, Cond.value] at h ⊢
  rw [hal.findClass]
  cases hf : u.vm.findClass (FieldType.array ty).toString with
  | none => simp [hf] at h
  | some comp =>
    simp only [hf, Option.bind_some] at h ⊢
    rw [hal.findIdx_congr _ (fun _ _ _ _ => rfl)]
    generalize (u.vm.classes.findIdx? fun (x : Class) => match x.kind with | .array component _ => component == comp | _ => false) = fi at h ⊢
    cases fi with
    | none => simp at h
    | some c =>
      cases hk : u.vm.classes[c]? with
      | none => simp [hk] at h
      | some k =>
        obtain ⟨k', hk', ek⟩ := hal.2.2 _ _ hk
        have ekind : k'.kind = k.kind := by rw [ek]
        simp only [hk, hk', hal.findClass, ekind, Option.bind_some, Option.map_some] at h ⊢
        exact h
/-! ===== BEGIN new T[n][m]: the outer array a place, the inner ones among the pooled ===== -/
/-- f, but v at every address of l -/
def vr_up {α : Type} (f : Nat → α) (l : List Nat) (v : α) : Nat → α := fun a => if a ∈ l then v else f a
theorem vr_up_in {α : Type} {f : Nat → α} {l : List Nat} {v : α} {a : Nat} (h : a ∈ l) : vr_up f l v a = v := if_pos h
theorem vr_up_ne {α : Type} {f : Nat → α} {l : List Nat} {v : α} {a : Nat} (h : a ∉ l) : vr_up f l v a = f a := if_neg h
theorem vr_rows {L l : List Nat} {f : Nat → va_E} {e : va_E} (h : ∀ a, a ∈ l → a ∉ L) : va_pl L f ++ l.map (fun a => (a, e)) = va_pl (L ++ l) (vr_up f l e) := by
  unfold va_pl
  rw [List.map_append]
  congr 1
  · apply List.map_congr_left
    intro a ha
    rw [vr_up_ne (fun q => h a q ha)]
  · apply List.map_congr_left
    intro a ha
    rw [vr_up_in ha]
theorem vr_lay {X rows : va_W} {x : Nat × va_E} {pl : va_W} {D : va_G} {cl : List vw_C} {H : Heap} (hP : va_P D cl (((X ++ pl) ++ [x]) ++ rows) H) : va_P D cl ((X ++ [x]) ++ (pl ++ rows)) H := by
  rw [List.append_assoc (X ++ pl)] at hP
  have h := va_P.swap hP
  rw [← List.append_assoc X] at h
  have h2 := va_P.swap h
  rw [List.append_assoc (X ++ [x])] at h2
  exact h2
theorem vr_layD {X rows : va_W} {x : Nat × va_E} {pl : va_W} {A : Nat → Prop} (hD : va_D A (((X ++ pl) ++ [x]) ++ rows)) : va_D A ((X ++ [x]) ++ (pl ++ rows)) := by
  rw [List.append_assoc (X ++ pl)] at hD
  have h := va_D.swap hD
  rw [← List.append_assoc X] at h
  have h2 := va_D.swap h
  rw [List.append_assoc (X ++ [x])] at h2
  exact h2
theorem vr_outer (c : ClassId) (N h0 : Nat) : ∀ i : Nat, Jvm.Free.Multi.outerC c N h0 i = arrV c N (fun j => va_rf (if j < i then some (h0 + 1 + j) else none))
  | 0 => by
    show ({ cls := c, slots := Array.replicate N .null, vm := .none } : Cell) = _
    rw [arrV_new]
    refine congrArg (arrV c N) (funext fun j => ?_)
    simp [va_rf]
  | i + 1 => by
    show (Jvm.Free.Multi.outerC c N h0 i).setSlot i (.ref (h0 + 1 + i)) = _
    rw [vr_outer c N h0 i, arrV_store]
    refine congrArg (arrV c N) (funext fun j => ?_)
    by_cases e : j = i
    · subst e
      simp [updV, va_rf]
    · by_cases h : j < i
      · simp [updV, e, h, Nat.lt_succ_of_lt h]
      · simp [updV, e, h, show ¬ j < i + 1 by omega]
section VGM
variable {p : Program} {l : Launch} {e : Env} {R : Room} {s : State} {m : MethodId} {args : Array Value} {below : List Frame} {meth : Method} {c : Code} {H : Heap} {locs : List Loc} {cells slots : Nat} {Q : State → Prop}
variable {cc : ByteArray} {pc : Nat} {ls : Array Slot} {rest : List Value} {D : va_G} {cl : List vw_C} {A : Nat → Prop} {a : Nat} {tys : List (ClassId × FieldType)} {ws : va_W} {H0 : Heap}
theorem va_mna {X : va_W} {L : List Nat} {f : Nat → va_E} {cc : ByteArray} (hexec : p.tables.exec = Jvm.exec) (hb : c.code = cc) {own : String} {index : Nat} {ty : FieldType} {cy : ClassId} (hown : s.vm.findClass own = some m.cls) (hclink : (Cond.classLink own index ("[" ++ (FieldType.array ty).toString)).before args s = true) (hover : va_AOA ty s) (harr : (Cond.arrayClass ty).before args s = true) (hcy : s.vm.findClass (FieldType.array ty).toString = some cy)
    (hK : va_K D cl tys s) (hP : va_P D cl (X ++ va_pl L f) H) (hD : va_D A (X ++ va_pl L f)) (hS : va_S A H0 H locs) (hA : ∀ q, H0.size ≤ q → A q) {n k : Int32} {N' K' : Nat} {z : vp_A} (hn : ¬ n < 0) (hk : ¬ k < 0) (hN : n.toNatClampNeg = N') (hM : k.toNatClampNeg = K')
    (hb1 : N' * 4 ≤ 536870912) (hb2 : K' * componentBytes ty ≤ 536870912) (hb3 : K' ≤ 536870912) (hdf : fits ty (defaultValue ty) = true) (hdd : (defaultValue ty).isDefault = true) (hcells : cells + (1 + N') ≤ R.cells) (hslots : slots + (N' + N' * K') ≤ R.slots) (hz : ∀ c : ClassId, Jvm.Free.Multi.innerC c K' (defaultValue ty) = vp_cell c z) (hdg : decode cc pc = .ok (.multianewarray index 2, 4))
    (kk : ∀ (q : Nat) (r : Nat → Nat) (cA : ClassId) (H1 : Heap), (∀ i j : Nat, i < N' → j < N' → r i = r j → i = j) → (∀ i : Nat, i < N' → r i ∉ L) → va_K D cl (tys ++ [(cA, .array ty)]) s →
      va_P D cl ((X ++ [(q, .inl (cA, N', .inr (.inr (.inr (.inr (fun i => if i < N' then some (r i) else none))))))]) ++ va_pl (L ++ (List.range N').map r) (vr_up f ((List.range N').map r) (.inl (cy, z)))) H1 → va_D A ((X ++ [(q, .inl (cA, N', .inr (.inr (.inr (.inr (fun i => if i < N' then some (r i) else none))))))]) ++ va_pl (L ++ (List.range N').map r) (vr_up f ((List.range N').map r) (.inl (cy, z)))) → va_S A H0 H1 locs →
      W p l e R s m args below meth c H1 locs (cells + 1 + N') (slots + N' + N' * K') Q (F0 m (pc + 4) ls (.ref q :: rest))) : W p l e R s m args below meth c H locs cells slots Q (F0 m pc ls (.int k :: .int n :: rest)) := by
  subst hN
  subst hM
  intro T hT Xs
  obtain ⟨vm₁, cA, comp, -, fA, fC, hO, -, X', step⟩ := Xs.multianewarray2F hexec hown hclink (va_AOA.use hover) harr (g := F0 m pc ls (.int k :: .int n :: rest)) rfl (by rw [hb]; exact hdg) rfl hn hk hb1 hb2 hb3 hdf hdd hcells hslots
  have ec : some cy = some comp := hcy.symm.trans fC
  cases ec
  generalize hF : Jvm.Free.Multi.fill (T.setVm vm₁) cA cy n.toNatClampNeg k.toNatClampNeg (defaultValue ty) n.toNatClampNeg = F at X' step
  have hTh : (T.setVm vm₁).heap = H := hT
  obtain ⟨f1, f2, -, -⟩ := Jvm.Free.Multi.fill_facts (T.setVm vm₁) cA cy n.toNatClampNeg k.toNatClampNeg (defaultValue ty) n.toNatClampNeg
  rw [hF, hTh] at f1 f2
  have hold : ∀ x : Nat, x < H.size → F.heap[x]? = H[x]? := fun x hx => by
    have := Jvm.Free.Multi.fill_old (T.setVm vm₁) cA cy n.toNatClampNeg k.toNatClampNeg (defaultValue ty) (a := x) (by rw [hTh]; exact hx) n.toNatClampNeg
    rw [hF, hTh] at this
    exact this
  have hrow : ∀ j : Nat, j < n.toNatClampNeg → F.heap[H.size + 1 + j]? = some (vp_cell cy z) := fun j hj => by
    have := Jvm.Free.Multi.fill_inner (T.setVm vm₁) cA cy n.toNatClampNeg k.toNatClampNeg (defaultValue ty) n.toNatClampNeg j hj
    rw [hF, hTh, hz] at this
    exact this
  have hout : Jvm.Free.Multi.outerC cA n.toNatClampNeg H.size n.toNatClampNeg = vp_cell cA (n.toNatClampNeg, .inr (.inr (.inr (.inr (fun i => if i < n.toNatClampNeg then some (H.size + 1 + i) else none))))) := by
    rw [vp_cell_q]
    exact vr_outer cA n.toNatClampNeg H.size n.toNatClampNeg
  rw [hout] at f2
  have hlt : ∀ a, a ∈ L → a < H.size := fun a ha => by
    obtain ⟨k9, hk9⟩ := va_pl_get (X := X) (f := f) ha
    exact (hP k9 _ hk9).lt
  have hnl : ∀ i : Nat, i < n.toNatClampNeg → H.size + 1 + i ∉ L := fun i _ h => by
    have := hlt _ h
    omega
  have hnm : ∀ a, a ∈ (List.range n.toNatClampNeg).map (fun i => H.size + 1 + i) → a ∉ L := fun a ha h => by
    obtain ⟨i, -, rfl⟩ := List.mem_map.mp ha
    have := hlt _ h
    omega
  have hP0 : va_P D cl (X ++ va_pl L f) F.heap := hP.kept (fun k9 x hx => hold x.1 ((hP k9 x hx).lt))
  have hP1 : va_P D cl ((X ++ va_pl L f) ++ [(H.size, .inl (cA, n.toNatClampNeg, .inr (.inr (.inr (.inr (fun i => if i < n.toNatClampNeg then some (H.size + 1 + i) else none))))))]) F.heap := hP0.app (fun k9 x hx => by
    have h0 : k9 < 1 := (List.getElem?_eq_some_iff.mp hx).1
    rw [show k9 = 0 by omega] at hx
    cases hx
    exact f2)
  have hP2 : va_P D cl (((X ++ va_pl L f) ++ [(H.size, .inl (cA, n.toNatClampNeg, .inr (.inr (.inr (.inr (fun i => if i < n.toNatClampNeg then some (H.size + 1 + i) else none))))))]) ++ ((List.range n.toNatClampNeg).map (fun i => H.size + 1 + i)).map (fun a => (a, .inl (cy, z)))) F.heap := hP1.app (fun k9 x hx => by
    obtain ⟨a, ha, rfl⟩ := List.mem_map.mp (List.mem_of_getElem? hx)
    obtain ⟨i, hi, rfl⟩ := List.mem_map.mp ha
    exact hrow i (List.mem_range.mp hi))
  have hD2 : va_D A (((X ++ va_pl L f) ++ [(H.size, .inl (cA, n.toNatClampNeg, .inr (.inr (.inr (.inr (fun i => if i < n.toNatClampNeg then some (H.size + 1 + i) else none))))))]) ++ ((List.range n.toNatClampNeg).map (fun i => H.size + 1 + i)).map (fun a => (a, .inl (cy, z)))) := by
    have hD1 := hD.push (e := .inl (cA, n.toNatClampNeg, .inr (.inr (.inr (.inr (fun i => if i < n.toNatClampNeg then some (H.size + 1 + i) else none)))))) hP rfl (hA _ hS.1)
    generalize hW1 : (X ++ va_pl L f) ++ [(H.size, .inl (cA, n.toNatClampNeg, .inr (.inr (.inr (.inr (fun i => if i < n.toNatClampNeg then some (H.size + 1 + i) else none))))))] = W1 at hD1 hP1 ⊢
    have hle : ∀ (k9 : Nat) (x : Nat × va_E), W1[k9]? = some x → x.1 ≤ H.size := fun k9 x hx => by
      rw [← hW1] at hx
      by_cases hl : k9 < (X ++ va_pl L f).length
      · rw [List.getElem?_append_left hl] at hx
        exact Nat.le_of_lt ((hP k9 x hx).lt)
      · rw [List.getElem?_append_right (by omega)] at hx
        have h0 : k9 - (X ++ va_pl L f).length < 1 := (List.getElem?_eq_some_iff.mp hx).1
        rw [show k9 - (X ++ va_pl L f).length = 0 by omega] at hx
        cases hx
        exact Nat.le_refl _
    have hr : ∀ (k9 : Nat) (x : Nat × va_E), (((List.range n.toNatClampNeg).map (fun i => H.size + 1 + i)).map (fun a => ((a, .inl (cy, z)) : Nat × va_E)))[k9]? = some x → x.1 = H.size + 1 + k9 := fun k9 x hx => by
      rw [List.getElem?_map, List.getElem?_map] at hx
      by_cases h9 : k9 < n.toNatClampNeg
      · rw [List.getElem?_range h9] at hx
        cases hx
        rfl
      · have hn0 : (List.range n.toNatClampNeg)[k9]? = none := List.getElem?_eq_none (by rw [List.length_range]; omega)
        rw [hn0] at hx
        cases hx
    refine ⟨fun i j x y hi hj hxy => ?_, fun k9 x hx => ?_⟩
    · by_cases h1 : i < W1.length <;> by_cases h2 : j < W1.length
      · rw [List.getElem?_append_left h1] at hi
        rw [List.getElem?_append_left h2] at hj
        exact hD1.1 i j x y hi hj hxy
      · rw [List.getElem?_append_left h1] at hi
        rw [List.getElem?_append_right (by omega)] at hj
        have := hle _ _ hi
        have := hr _ _ hj
        omega
      · rw [List.getElem?_append_right (by omega)] at hi
        rw [List.getElem?_append_left h2] at hj
        have := hle _ _ hj
        have := hr _ _ hi
        omega
      · rw [List.getElem?_append_right (by omega)] at hi hj
        have := hr _ _ hi
        have := hr _ _ hj
        omega
    · by_cases h1 : k9 < W1.length
      · rw [List.getElem?_append_left h1] at hx
        exact hD1.2 k9 x hx
      · rw [List.getElem?_append_right (by omega)] at hx
        have := hr _ _ hx
        exact hA _ (by have := hS.1; omega)
  have hAr : ArrOfT s cA (.array ty) := fun N9 z9 => by
    obtain ⟨-, k9, hk9, cm9, hkk9⟩ := (hO 0 0 0).1
    exact ⟨(fun q hq => by cases hq), k9, hk9, cm9, hkk9⟩
  have hK2 : va_K D cl (tys ++ [(cA, .array ty)]) s := ⟨hK.1, fun k9 x hx => by
    by_cases hl : k9 < tys.length
    · rw [List.getElem?_append_left hl] at hx
      exact hK.2 k9 x hx
    · rw [List.getElem?_append_right (by omega)] at hx
      have h0 : k9 - tys.length < 1 := (List.getElem?_eq_some_iff.mp hx).1
      rw [show k9 - tys.length = 0 by omega] at hx
      cases hx
      exact ⟨hAr, fA⟩⟩
  obtain ⟨t, a1, b1⟩ := kk H.size (fun i => H.size + 1 + i) cA F.heap (fun i j _ _ h => by have h9 : H.size + 1 + i = H.size + 1 + j := h; omega) hnl hK2 (by rw [← vr_rows hnm]; exact vr_lay hP2) (by rw [← vr_rows hnm]; exact vr_layD hD2) ⟨by rw [f1]; have := hS.1; omega, fun x h1 h2 => (hold x (Nat.lt_of_lt_of_le h1 hS.1)).trans (hS.2.1 x h1 h2), hS.2.2⟩ F rfl X'
  refine ⟨t, step t ?_, b1⟩
  have e : T.heap.size = H.size := by rw [hT]
  rw [e]
  exact a1
end VGM
/-! ===== END ===== -/
end
section
/-! ===== BEGIN printed: names, fields, word lists, decode rows ===== -/
def RX0 : String := "TelegraphPrices"
def TX0 : u_T := fun k => match k with
  | 0 => ("TelegraphPrices", "letters", "[I", true)
  | 1 => ("TelegraphPrices", "standIns", "[I", true)
  | 2 => ("TelegraphPrices", "joins", "[I", true)
  | 3 => ("TelegraphPrices", "words", "I", false)
  | 4 => ("TelegraphPrices", "limit", "I", false)
  | 5 => ("TelegraphPrices", "leastCount", "I", false)
  | 6 => ("TelegraphPrices", "coins", "I", false)
  | 7 => ("TelegraphPrices", "telegram", "[I", true)
  | 8 => ("TelegraphPrices", "joined", "[Z", true)
  | 9 => ("TelegraphPrices", "length", "I", false)
  | 10 => ("TelegraphPrices", "sent", "I", false)
  | 11 => ("TelegraphPrices", "earned", "I", false)
  | 12 => ("TelegraphPrices", "leastAlone", "[I", true)
  | 13 => ("TelegraphPrices", "leastJoined", "[I", true)
  | 14 => ("TelegraphPrices", "leastTried", "[I", true)
  | 15 => ("TelegraphPrices", "leastFrom", "[I", true)
  | 16 => ("TelegraphPrices", "cheapestWords", "[I", true)
  | _ => ("TelegraphPrices", "cheapestJoined", "[Z", true)
def tyX0 : Nat → FieldType := fun k => match k with
  | 0 => .array .int
  | 1 => .array .int
  | 2 => .array .int
  | 3 => .int
  | 4 => .int
  | 5 => .int
  | 6 => .int
  | 7 => .array .int
  | 8 => .array .boolean
  | 9 => .int
  | 10 => .int
  | 11 => .int
  | 12 => .array .int
  | 13 => .array .int
  | 14 => .array .int
  | 15 => .array .int
  | 16 => .array .int
  | _ => .array .boolean
abbrev wsX00 : List Cond := u_ws RX0 TX0 18
theorem nmX0 : ∀ a, a < 18 → ∀ b, b < 18 → a ≠ b → (TX0 a).2.1 ≠ (TX0 b).2.1 := by decide +kernel
theorem tyX0_ok : ∀ k, k < 18 → parseFieldDescriptor (TX0 k).2.2.1 = some (tyX0 k) := by decide +kernel
abbrev cX0_init : ByteArray := prog_1_method_1_code
def yX0_init : MethodName := ⟨RX0, "<init>", "()V"⟩
abbrev cX0_addWord : ByteArray := prog_1_method_2_code
def yX0_addWord : MethodName := ⟨RX0, "addWord", "(I)I"⟩
abbrev cX0_turnStandIn : ByteArray := prog_1_method_3_code
def yX0_turnStandIn : MethodName := ⟨RX0, "turnStandIn", "(II)Z"⟩
abbrev cX0_turnJoin : ByteArray := prog_1_method_4_code
def yX0_turnJoin : MethodName := ⟨RX0, "turnJoin", "(II)Z"⟩
abbrev cX0_setLimit : ByteArray := prog_1_method_5_code
def yX0_setLimit : MethodName := ⟨RX0, "setLimit", "(I)I"⟩
abbrev cX0_setLeastCount : ByteArray := prog_1_method_6_code
def yX0_setLeastCount : MethodName := ⟨RX0, "setLeastCount", "(I)I"⟩
abbrev cX0_setCoins : ByteArray := prog_1_method_7_code
def yX0_setCoins : MethodName := ⟨RX0, "setCoins", "(I)I"⟩
abbrev cX0_write : ByteArray := prog_1_method_8_code
def yX0_write : MethodName := ⟨RX0, "write", "(I)I"⟩
abbrev cX0_strike : ByteArray := prog_1_method_9_code
def yX0_strike : MethodName := ⟨RX0, "strike", "(I)I"⟩
abbrev cX0_turnJoined : ByteArray := prog_1_method_10_code
def yX0_turnJoined : MethodName := ⟨RX0, "turnJoined", "(I)Z"⟩
abbrev cX0_reword : ByteArray := prog_1_method_11_code
def yX0_reword : MethodName := ⟨RX0, "reword", "()I"⟩
abbrev cX0_send : ByteArray := prog_1_method_12_code
def yX0_send : MethodName := ⟨RX0, "send", "(I)I"⟩
abbrev cX0_words : ByteArray := prog_1_method_13_code
def yX0_words : MethodName := ⟨RX0, "words", "()I"⟩
abbrev cX0_lettersOf : ByteArray := prog_1_method_14_code
def yX0_lettersOf : MethodName := ⟨RX0, "lettersOf", "(I)I"⟩
abbrev cX0_countOf : ByteArray := prog_1_method_15_code
def yX0_countOf : MethodName := ⟨RX0, "countOf", "(I)I"⟩
abbrev cX0_mayStandFor : ByteArray := prog_1_method_16_code
def yX0_mayStandFor : MethodName := ⟨RX0, "mayStandFor", "(II)Z"⟩
abbrev cX0_mayJoin : ByteArray := prog_1_method_17_code
def yX0_mayJoin : MethodName := ⟨RX0, "mayJoin", "(II)Z"⟩
abbrev cX0_standInsOf : ByteArray := prog_1_method_18_code
def yX0_standInsOf : MethodName := ⟨RX0, "standInsOf", "(I)I"⟩
abbrev cX0_limit : ByteArray := prog_1_method_19_code
def yX0_limit : MethodName := ⟨RX0, "limit", "()I"⟩
abbrev cX0_leastCount : ByteArray := prog_1_method_20_code
def yX0_leastCount : MethodName := ⟨RX0, "leastCount", "()I"⟩
abbrev cX0_coins : ByteArray := prog_1_method_21_code
def yX0_coins : MethodName := ⟨RX0, "coins", "()I"⟩
abbrev cX0_length : ByteArray := prog_1_method_22_code
def yX0_length : MethodName := ⟨RX0, "length", "()I"⟩
abbrev cX0_wordAt : ByteArray := prog_1_method_23_code
def yX0_wordAt : MethodName := ⟨RX0, "wordAt", "(I)I"⟩
abbrev cX0_isJoined : ByteArray := prog_1_method_24_code
def yX0_isJoined : MethodName := ⟨RX0, "isJoined", "(I)Z"⟩
abbrev cX0_count : ByteArray := prog_1_method_25_code
def yX0_count : MethodName := ⟨RX0, "count", "()I"⟩
abbrev cX0_price : ByteArray := prog_1_method_26_code
def yX0_price : MethodName := ⟨RX0, "price", "()I"⟩
abbrev cX0_priceTo : ByteArray := prog_1_method_27_code
def yX0_priceTo : MethodName := ⟨RX0, "priceTo", "(I)I"⟩
abbrev cX0_sent : ByteArray := prog_1_method_28_code
def yX0_sent : MethodName := ⟨RX0, "sent", "()I"⟩
abbrev cX0_earned : ByteArray := prog_1_method_29_code
def yX0_earned : MethodName := ⟨RX0, "earned", "()I"⟩
abbrev cX0_cheapestCount : ByteArray := prog_1_method_30_code
def yX0_cheapestCount : MethodName := ⟨RX0, "cheapestCount", "()I"⟩
abbrev cX0_isJoinedInCheapest : ByteArray := prog_1_method_32_code
def yX0_isJoinedInCheapest : MethodName := ⟨RX0, "isJoinedInCheapest", "(I)Z"⟩
abbrev cX0_saves : ByteArray := prog_1_method_33_code
def yX0_saves : MethodName := ⟨RX0, "saves", "()I"⟩
abbrev cX0_wordings : ByteArray := prog_1_method_34_code
def yX0_wordings : MethodName := ⟨RX0, "wordings", "()I"⟩
abbrev cX0_meanCost : ByteArray := prog_1_method_36_code
def yX0_meanCost : MethodName := ⟨RX0, "meanCost", "()D"⟩
abbrev cX0_needWord : ByteArray := prog_1_method_38_code
def yX0_needWord : MethodName := ⟨RX0, "needWord", "(I)V"⟩
abbrev cX0_needPlace : ByteArray := prog_1_method_39_code
def yX0_needPlace : MethodName := ⟨RX0, "needPlace", "(I)V"⟩
abbrev cX0_hasBit : ByteArray := prog_1_method_40_code
def yX0_hasBit : MethodName := ⟨RX0, "hasBit", "(II)Z"⟩
abbrev cX0_countOfLetters : ByteArray := prog_1_method_41_code
def yX0_countOfLetters : MethodName := ⟨RX0, "countOfLetters", "(I)I"⟩
abbrev cX0_countOfPair : ByteArray := prog_1_method_42_code
def yX0_countOfPair : MethodName := ⟨RX0, "countOfPair", "(II)I"⟩
abbrev cX0_atLeastTheLeastCount : ByteArray := prog_1_method_43_code
def yX0_atLeastTheLeastCount : MethodName := ⟨RX0, "atLeastTheLeastCount", "(I)I"⟩
abbrev cX0_couldBeJoined : ByteArray := prog_1_method_44_code
def yX0_couldBeJoined : MethodName := ⟨RX0, "couldBeJoined", "(I)Z"⟩
abbrev cX0_mayHold : ByteArray := prog_1_method_45_code
def yX0_mayHold : MethodName := ⟨RX0, "mayHold", "(II)Z"⟩
abbrev cX0_noteLeastCounts : ByteArray := prog_1_method_46_code
def yX0_noteLeastCounts : MethodName := ⟨RX0, "noteLeastCounts", "()V"⟩
abbrev cX0_bestWordAt : ByteArray := prog_1_method_47_code
def yX0_bestWordAt : MethodName := ⟨RX0, "bestWordAt", "(I)I"⟩
abbrev cX0_bestPairAt : ByteArray := prog_1_method_48_code
def yX0_bestPairAt : MethodName := ⟨RX0, "bestPairAt", "(I)I"⟩
abbrev cX0_leastInAll : ByteArray := prog_1_method_49_code
def yX0_leastInAll : MethodName := ⟨RX0, "leastInAll", "([I)I"⟩
abbrev cX0_noteCheapestWording : ByteArray := prog_1_method_51_code
def yX0_noteCheapestWording : MethodName := ⟨RX0, "noteCheapestWording", "()V"⟩
abbrev cX0_noteCheapestAt : ByteArray := prog_1_method_52_code
def yX0_noteCheapestAt : MethodName := ⟨RX0, "noteCheapestAt", "(IIZ)V"⟩
def RX1 : String := "TelegraphPricesLaw$Sim"
def TX1 : u_T := fun k => match k with
  | 0 => ("TelegraphPricesLaw$Sim", "words", "I", false)
  | 1 => ("TelegraphPricesLaw$Sim", "limit", "I", false)
  | 2 => ("TelegraphPricesLaw$Sim", "least", "I", false)
  | 3 => ("TelegraphPricesLaw$Sim", "coins", "I", false)
  | 4 => ("TelegraphPricesLaw$Sim", "sent", "I", false)
  | 5 => ("TelegraphPricesLaw$Sim", "earned", "I", false)
  | 6 => ("TelegraphPricesLaw$Sim", "letters", "[I", true)
  | 7 => ("TelegraphPricesLaw$Sim", "stand", "[[Z", true)
  | 8 => ("TelegraphPricesLaw$Sim", "join", "[[Z", true)
  | 9 => ("TelegraphPricesLaw$Sim", "word", "[I", false)
  | _ => ("TelegraphPricesLaw$Sim", "joined", "[Z", false)
def tyX1 : Nat → FieldType := fun k => match k with
  | 0 => .int
  | 1 => .int
  | 2 => .int
  | 3 => .int
  | 4 => .int
  | 5 => .int
  | 6 => .array .int
  | 7 => .array (.array .boolean)
  | 8 => .array (.array .boolean)
  | 9 => .array .int
  | _ => .array .boolean
abbrev wsX10 : List Cond := u_ws RX1 TX1 11
theorem nmX1 : ∀ a, a < 11 → ∀ b, b < 11 → a ≠ b → (TX1 a).2.1 ≠ (TX1 b).2.1 := by decide +kernel
theorem tyX1_ok : ∀ k, k < 11 → parseFieldDescriptor (TX1 k).2.2.1 = some (tyX1 k) := by decide +kernel
abbrev cX1_init : ByteArray := prog_3_method_1_code
def yX1_init : MethodName := ⟨RX1, "<init>", "()V"⟩
abbrev cX1_counts : ByteArray := prog_3_method_2_code
def yX1_counts : MethodName := ⟨RX1, "counts", "(I)I"⟩
abbrev cX1_lifted : ByteArray := prog_3_method_3_code
def yX1_lifted : MethodName := ⟨RX1, "lifted", "(I)I"⟩
abbrev cX1_sum : ByteArray := prog_3_method_4_code
def yX1_sum : MethodName := ⟨RX1, "sum", "([I[Z)I"⟩
abbrev cX1_count : ByteArray := prog_3_method_5_code
def yX1_count : MethodName := ⟨RX1, "count", "()I"⟩
abbrev cX1_may : ByteArray := prog_3_method_6_code
def yX1_may : MethodName := ⟨RX1, "may", "(II)Z"⟩
abbrev cX1_upTo : ByteArray := prog_3_method_7_code
def yX1_upTo : MethodName := ⟨RX1, "upTo", "()[I"⟩
abbrev cX1_cheapest : ByteArray := prog_3_method_8_code
def yX1_cheapest : MethodName := ⟨RX1, "cheapest", "()I"⟩
abbrev cX1_rest : ByteArray := prog_3_method_9_code
def yX1_rest : MethodName := ⟨RX1, "rest", "(I)LTelegraphPricesLaw$Sim;"⟩
abbrev cX1_wording : ByteArray := prog_3_method_10_code
def yX1_wording : MethodName := ⟨RX1, "wording", "()[I"⟩
abbrev cX1_isSame : ByteArray := prog_3_method_11_code
def yX1_isSame : MethodName := ⟨RX1, "isSame", "(LTelegraphPrices;)Z"⟩
def RX2 : String := "TelegraphPricesModel"
def TX2 : u_T := fun k => match k with
  | _ => ("", "", "", false)
def tyX2 : Nat → FieldType := fun k => match k with
  | _ => .int
abbrev wsX20 : List Cond := u_ws RX2 TX2 0
theorem nmX2 : ∀ a, a < 0 → ∀ b, b < 0 → a ≠ b → (TX2 a).2.1 ≠ (TX2 b).2.1 := by decide +kernel
theorem tyX2_ok : ∀ k, k < 0 → parseFieldDescriptor (TX2 k).2.2.1 = some (tyX2 k) := by decide +kernel
def RJ6 : String := "java/lang/Integer"
def TJ6 : u_T := fun k => match k with
  | _ => ("", "", "", false)
def tyJ6 : Nat → FieldType := fun k => match k with
  | _ => .int
abbrev wsJ60 : List Cond := u_ws RJ6 TJ6 0
theorem nmJ6 : ∀ a, a < 0 → ∀ b, b < 0 → a ≠ b → (TJ6 a).2.1 ≠ (TJ6 b).2.1 := by decide +kernel
theorem tyJ6_ok : ∀ k, k < 0 → parseFieldDescriptor (TJ6 k).2.2.1 = some (tyJ6 k) := by decide +kernel
abbrev cJ6_bitCount_0f7a4 : ByteArray := prog_9_method_49_code
def yJ6_bitCount_0f7a4 : MethodName := ⟨RJ6, "bitCount", "(I)I"⟩
def RJ9 : String := "java/lang/Math"
def TJ9 : u_T := fun k => match k with
  | _ => ("", "", "", false)
def tyJ9 : Nat → FieldType := fun k => match k with
  | _ => .int
abbrev wsJ90 : List Cond := u_ws RJ9 TJ9 0
theorem nmJ9 : ∀ a, a < 0 → ∀ b, b < 0 → a ≠ b → (TJ9 a).2.1 ≠ (TJ9 b).2.1 := by decide +kernel
theorem tyJ9_ok : ∀ k, k < 0 → parseFieldDescriptor (TJ9 k).2.2.1 = some (tyJ9 k) := by decide +kernel
abbrev cJ9_max_7cf53 : ByteArray := prog_10_method_65_code
def yJ9_max_7cf53 : MethodName := ⟨RJ9, "max", "(II)I"⟩
abbrev cJ9_min_7cf53 : ByteArray := prog_10_method_69_code
def yJ9_min_7cf53 : MethodName := ⟨RJ9, "min", "(II)I"⟩
abbrev cJ9_min_f86c9 : ByteArray := prog_10_method_70_code
def yJ9_min_f86c9 : MethodName := ⟨RJ9, "min", "(JJ)J"⟩
def RJ0 : String := "java/lang/String"
def TJ0 : u_T := fun k => match k with
  | _ => ("", "", "", false)
def tyJ0 : Nat → FieldType := fun k => match k with
  | _ => .int
abbrev wsJ00 : List Cond := u_ws RJ0 TJ0 0
theorem nmJ0 : ∀ a, a < 0 → ∀ b, b < 0 → a ≠ b → (TJ0 a).2.1 ≠ (TJ0 b).2.1 := by decide +kernel
theorem tyJ0_ok : ∀ k, k < 0 → parseFieldDescriptor (TJ0 k).2.2.1 = some (tyJ0 k) := by decide +kernel
def RL : String := "TelegraphPricesLaw"
abbrev cL_below : ByteArray := method_2_code
def yL_below : MethodName := ⟨RL, "below", "(II)I"⟩
abbrev cL_cell : ByteArray := method_3_code
def yL_cell : MethodName := ⟨RL, "cell", "([II)I"⟩
abbrev cL_act : ByteArray := method_4_code
def yL_act : MethodName := ⟨RL, "act", "(LTelegraphPrices;LTelegraphPricesLaw$Sim;I)Z"⟩
abbrev cL_build : ByteArray := method_5_code
def yL_build : MethodName := ⟨RL, "build", "(LTelegraphPrices;[I)LTelegraphPricesLaw$Sim;"⟩
abbrev cL_law : ByteArray := code
def yL_law : MethodName := ⟨RL, "law", "([I)Z"⟩
def wsX0_init : List Cond := .code yX0_init cX0_init 1 none :: ([.methodLink RX0 1 objectInit, .instanceMethod objectInit, .code objectInit ⟨#[0xb1]⟩ 1 none, .arrayClass .int, .fieldLink RX0 9 "TelegraphPrices" "letters" "[I", .fieldLink RX0 13 "TelegraphPrices" "standIns" "[I", .fieldLink RX0 16 "TelegraphPrices" "joins" "[I", .fieldLink RX0 19 "TelegraphPrices" "words" "I", .fieldLink RX0 23 "TelegraphPrices" "limit" "I", .fieldLink RX0 26 "TelegraphPrices" "leastCount" "I", .fieldLink RX0 29 "TelegraphPrices" "coins" "I", .fieldLink RX0 32 "TelegraphPrices" "telegram" "[I", .arrayClass .boolean, .fieldLink RX0 35 "TelegraphPrices" "joined" "[Z", .fieldLink RX0 39 "TelegraphPrices" "length" "I", .fieldLink RX0 42 "TelegraphPrices" "sent" "I", .fieldLink RX0 45 "TelegraphPrices" "earned" "I", .fieldLink RX0 48 "TelegraphPrices" "leastAlone" "[I", .fieldLink RX0 51 "TelegraphPrices" "leastJoined" "[I", .fieldLink RX0 54 "TelegraphPrices" "leastTried" "[I", .fieldLink RX0 57 "TelegraphPrices" "leastFrom" "[I", .fieldLink RX0 60 "TelegraphPrices" "cheapestWords" "[I", .fieldLink RX0 63 "TelegraphPrices" "cheapestJoined" "[Z"] ++ wsX00)
def wsX0_addWord : List Cond := .code yX0_addWord cX0_addWord 3 (some .int) :: ([.classLink RX0 66 "java/lang/IllegalArgumentException", .initialized "java/lang/IllegalArgumentException", .classLink RX0 73 "java/lang/IllegalStateException", .initialized "java/lang/IllegalStateException", .fieldLink RX0 19 "TelegraphPrices" "words" "I", .fieldLink RX0 9 "TelegraphPrices" "letters" "[I", .fieldLink RX0 13 "TelegraphPrices" "standIns" "[I", .fieldLink RX0 16 "TelegraphPrices" "joins" "[I"] ++ wsX00 ++ (vx_atS RX0 70 "java/lang/IllegalArgumentException" ["java/lang/RuntimeException", "java/lang/Exception"]).filter goodWord ++ (vx_atS RX0 77 "java/lang/IllegalStateException" ["java/lang/RuntimeException", "java/lang/Exception"]).filter goodWord)
def wsX0_needWord : List Cond := .code yX0_needWord cX0_needWord 2 none :: ([.classLink RX0 133 "java/lang/IndexOutOfBoundsException", .initialized "java/lang/IndexOutOfBoundsException", .fieldLink RX0 19 "TelegraphPrices" "words" "I"] ++ wsX00 ++ (vx_atS RX0 137 "java/lang/IndexOutOfBoundsException" ["java/lang/RuntimeException", "java/lang/Exception"]).filter goodWord)
def wsX0_hasBit : List Cond := .code yX0_hasBit cX0_hasBit 2 (some .boolean) :: ([])
def wsX0_turnStandIn : List Cond := .code yX0_turnStandIn cX0_turnStandIn 3 (some .boolean) :: ([.classLink RX0 66 "java/lang/IllegalArgumentException", .initialized "java/lang/IllegalArgumentException", .fieldLink RX0 13 "TelegraphPrices" "standIns" "[I", .methodLink RX0 78 yX0_needWord, .instanceMethod yX0_needWord, .selects RX0 yX0_needWord yX0_needWord, .initialized RX0, .code yX0_needWord cX0_needWord 2 none, .classLink RX0 133 "java/lang/IndexOutOfBoundsException", .initialized "java/lang/IndexOutOfBoundsException", .fieldLink RX0 19 "TelegraphPrices" "words" "I", .methodLink RX0 84 yX0_hasBit, .static yX0_hasBit, .code yX0_hasBit cX0_hasBit 2 (some .boolean)] ++ wsX00 ++ (vx_atS RX0 70 "java/lang/IllegalArgumentException" ["java/lang/RuntimeException", "java/lang/Exception"]).filter goodWord ++ (vx_atS RX0 137 "java/lang/IndexOutOfBoundsException" ["java/lang/RuntimeException", "java/lang/Exception"]).filter goodWord)
def wsX0_turnJoin : List Cond := .code yX0_turnJoin cX0_turnJoin 3 (some .boolean) :: ([.fieldLink RX0 16 "TelegraphPrices" "joins" "[I", .methodLink RX0 78 yX0_needWord, .instanceMethod yX0_needWord, .selects RX0 yX0_needWord yX0_needWord, .initialized RX0, .code yX0_needWord cX0_needWord 2 none, .classLink RX0 133 "java/lang/IndexOutOfBoundsException", .initialized "java/lang/IndexOutOfBoundsException", .fieldLink RX0 19 "TelegraphPrices" "words" "I", .methodLink RX0 84 yX0_hasBit, .static yX0_hasBit, .code yX0_hasBit cX0_hasBit 2 (some .boolean)] ++ wsX00 ++ (vx_atS RX0 137 "java/lang/IndexOutOfBoundsException" ["java/lang/RuntimeException", "java/lang/Exception"]).filter goodWord)
def wsX0_setLimit : List Cond := .code yX0_setLimit cX0_setLimit 3 (some .int) :: ([.classLink RX0 66 "java/lang/IllegalArgumentException", .initialized "java/lang/IllegalArgumentException", .fieldLink RX0 23 "TelegraphPrices" "limit" "I"] ++ wsX00 ++ (vx_atS RX0 70 "java/lang/IllegalArgumentException" ["java/lang/RuntimeException", "java/lang/Exception"]).filter goodWord)
def wsX0_setLeastCount : List Cond := .code yX0_setLeastCount cX0_setLeastCount 3 (some .int) :: ([.classLink RX0 66 "java/lang/IllegalArgumentException", .initialized "java/lang/IllegalArgumentException", .fieldLink RX0 26 "TelegraphPrices" "leastCount" "I"] ++ wsX00 ++ (vx_atS RX0 70 "java/lang/IllegalArgumentException" ["java/lang/RuntimeException", "java/lang/Exception"]).filter goodWord)
def wsX0_setCoins : List Cond := .code yX0_setCoins cX0_setCoins 3 (some .int) :: ([.classLink RX0 66 "java/lang/IllegalArgumentException", .initialized "java/lang/IllegalArgumentException", .fieldLink RX0 29 "TelegraphPrices" "coins" "I"] ++ wsX00 ++ (vx_atS RX0 70 "java/lang/IllegalArgumentException" ["java/lang/RuntimeException", "java/lang/Exception"]).filter goodWord)
def wsX0_write : List Cond := .code yX0_write cX0_write 2 (some .int) :: ([.classLink RX0 73 "java/lang/IllegalStateException", .initialized "java/lang/IllegalStateException", .fieldLink RX0 39 "TelegraphPrices" "length" "I", .fieldLink RX0 32 "TelegraphPrices" "telegram" "[I", .fieldLink RX0 35 "TelegraphPrices" "joined" "[Z", .methodLink RX0 78 yX0_needWord, .instanceMethod yX0_needWord, .selects RX0 yX0_needWord yX0_needWord, .initialized RX0, .code yX0_needWord cX0_needWord 2 none, .classLink RX0 133 "java/lang/IndexOutOfBoundsException", .initialized "java/lang/IndexOutOfBoundsException", .fieldLink RX0 19 "TelegraphPrices" "words" "I"] ++ wsX00 ++ (vx_atS RX0 77 "java/lang/IllegalStateException" ["java/lang/RuntimeException", "java/lang/Exception"]).filter goodWord ++ (vx_atS RX0 137 "java/lang/IndexOutOfBoundsException" ["java/lang/RuntimeException", "java/lang/Exception"]).filter goodWord)
def wsX0_needPlace : List Cond := .code yX0_needPlace cX0_needPlace 2 none :: ([.classLink RX0 133 "java/lang/IndexOutOfBoundsException", .initialized "java/lang/IndexOutOfBoundsException", .fieldLink RX0 39 "TelegraphPrices" "length" "I"] ++ wsX00 ++ (vx_atS RX0 137 "java/lang/IndexOutOfBoundsException" ["java/lang/RuntimeException", "java/lang/Exception"]).filter goodWord)
def wsX0_strike : List Cond := .code yX0_strike cX0_strike 3 (some .int) :: ([.fieldLink RX0 35 "TelegraphPrices" "joined" "[Z", .fieldLink RX0 39 "TelegraphPrices" "length" "I", .fieldLink RX0 32 "TelegraphPrices" "telegram" "[I", .methodLink RX0 96 yX0_needPlace, .instanceMethod yX0_needPlace, .selects RX0 yX0_needPlace yX0_needPlace, .initialized RX0, .code yX0_needPlace cX0_needPlace 2 none, .classLink RX0 133 "java/lang/IndexOutOfBoundsException", .initialized "java/lang/IndexOutOfBoundsException"] ++ wsX00 ++ (vx_atS RX0 137 "java/lang/IndexOutOfBoundsException" ["java/lang/RuntimeException", "java/lang/Exception"]).filter goodWord)
def wsX0_couldBeJoined : List Cond := .code yX0_couldBeJoined cX0_couldBeJoined 3 (some .boolean) :: ([.fieldLink RX0 35 "TelegraphPrices" "joined" "[Z", .fieldLink RX0 16 "TelegraphPrices" "joins" "[I", .fieldLink RX0 32 "TelegraphPrices" "telegram" "[I", .methodLink RX0 84 yX0_hasBit, .static yX0_hasBit, .initialized RX0, .code yX0_hasBit cX0_hasBit 2 (some .boolean)] ++ wsX00)
def wsX0_turnJoined : List Cond := .code yX0_turnJoined cX0_turnJoined 2 (some .boolean) :: ([.classLink RX0 73 "java/lang/IllegalStateException", .initialized "java/lang/IllegalStateException", .fieldLink RX0 35 "TelegraphPrices" "joined" "[Z", .methodLink RX0 96 yX0_needPlace, .instanceMethod yX0_needPlace, .selects RX0 yX0_needPlace yX0_needPlace, .initialized RX0, .code yX0_needPlace cX0_needPlace 2 none, .classLink RX0 133 "java/lang/IndexOutOfBoundsException", .initialized "java/lang/IndexOutOfBoundsException", .fieldLink RX0 39 "TelegraphPrices" "length" "I", .methodLink RX0 99 yX0_couldBeJoined, .instanceMethod yX0_couldBeJoined, .selects RX0 yX0_couldBeJoined yX0_couldBeJoined, .code yX0_couldBeJoined cX0_couldBeJoined 3 (some .boolean), .fieldLink RX0 16 "TelegraphPrices" "joins" "[I", .fieldLink RX0 32 "TelegraphPrices" "telegram" "[I", .methodLink RX0 84 yX0_hasBit, .static yX0_hasBit, .code yX0_hasBit cX0_hasBit 2 (some .boolean)] ++ wsX00 ++ (vx_atS RX0 77 "java/lang/IllegalStateException" ["java/lang/RuntimeException", "java/lang/Exception"]).filter goodWord ++ (vx_atS RX0 137 "java/lang/IndexOutOfBoundsException" ["java/lang/RuntimeException", "java/lang/Exception"]).filter goodWord)
def wsX0_countOfLetters : List Cond := .code yX0_countOfLetters cX0_countOfLetters 2 (some .int) :: ([.fieldLink RX0 23 "TelegraphPrices" "limit" "I"] ++ wsX00)
def wsX0_countOfPair : List Cond := .code yX0_countOfPair cX0_countOfPair 3 (some .int) :: ([.fieldLink RX0 9 "TelegraphPrices" "letters" "[I", .methodLink RX0 118 yX0_countOfLetters, .instanceMethod yX0_countOfLetters, .selects RX0 yX0_countOfLetters yX0_countOfLetters, .initialized RX0, .code yX0_countOfLetters cX0_countOfLetters 2 (some .int), .fieldLink RX0 23 "TelegraphPrices" "limit" "I"] ++ wsX00)
def wsX0_atLeastTheLeastCount : List Cond := .code yX0_atLeastTheLeastCount cX0_atLeastTheLeastCount 2 (some .int) :: ([.fieldLink RX0 39 "TelegraphPrices" "length" "I", .fieldLink RX0 26 "TelegraphPrices" "leastCount" "I", .methodLink RX0 175 Lib.Math.max.name, .static Lib.Math.max.name, .initialized "java/lang/Math", .code Lib.Math.max.name Lib.Math.max.code 2 (some .int)] ++ wsX00)
def wsX0_count : List Cond := .code yX0_count cX0_count 3 (some .int) :: ([.fieldLink RX0 39 "TelegraphPrices" "length" "I", .fieldLink RX0 35 "TelegraphPrices" "joined" "[Z", .fieldLink RX0 32 "TelegraphPrices" "telegram" "[I", .fieldLink RX0 9 "TelegraphPrices" "letters" "[I", .methodLink RX0 126 yX0_countOfPair, .instanceMethod yX0_countOfPair, .selects RX0 yX0_countOfPair yX0_countOfPair, .initialized RX0, .code yX0_countOfPair cX0_countOfPair 3 (some .int), .methodLink RX0 118 yX0_countOfLetters, .instanceMethod yX0_countOfLetters, .selects RX0 yX0_countOfLetters yX0_countOfLetters, .code yX0_countOfLetters cX0_countOfLetters 2 (some .int), .fieldLink RX0 23 "TelegraphPrices" "limit" "I", .methodLink RX0 130 yX0_atLeastTheLeastCount, .instanceMethod yX0_atLeastTheLeastCount, .selects RX0 yX0_atLeastTheLeastCount yX0_atLeastTheLeastCount, .code yX0_atLeastTheLeastCount cX0_atLeastTheLeastCount 2 (some .int), .fieldLink RX0 26 "TelegraphPrices" "leastCount" "I", .methodLink RX0 175 Lib.Math.max.name, .static Lib.Math.max.name, .initialized "java/lang/Math", .code Lib.Math.max.name Lib.Math.max.code 2 (some .int)] ++ wsX00)
def wsX0_mayHold : List Cond := .code yX0_mayHold cX0_mayHold 3 (some .boolean) :: ([.fieldLink RX0 39 "TelegraphPrices" "length" "I", .fieldLink RX0 13 "TelegraphPrices" "standIns" "[I", .fieldLink RX0 32 "TelegraphPrices" "telegram" "[I", .methodLink RX0 84 yX0_hasBit, .static yX0_hasBit, .initialized RX0, .code yX0_hasBit cX0_hasBit 2 (some .boolean)] ++ wsX00)
def wsX0_bestWordAt : List Cond := .code yX0_bestWordAt cX0_bestWordAt 5 (some .int) :: ([.fieldLink RX0 32 "TelegraphPrices" "telegram" "[I", .constant RX0 151 (1000000), .fieldLink RX0 19 "TelegraphPrices" "words" "I", .fieldLink RX0 9 "TelegraphPrices" "letters" "[I", .methodLink RX0 184 yX0_mayHold, .instanceMethod yX0_mayHold, .selects RX0 yX0_mayHold yX0_mayHold, .initialized RX0, .code yX0_mayHold cX0_mayHold 3 (some .boolean), .fieldLink RX0 39 "TelegraphPrices" "length" "I", .fieldLink RX0 13 "TelegraphPrices" "standIns" "[I", .methodLink RX0 84 yX0_hasBit, .static yX0_hasBit, .code yX0_hasBit cX0_hasBit 2 (some .boolean), .methodLink RX0 118 yX0_countOfLetters, .instanceMethod yX0_countOfLetters, .selects RX0 yX0_countOfLetters yX0_countOfLetters, .code yX0_countOfLetters cX0_countOfLetters 2 (some .int), .fieldLink RX0 23 "TelegraphPrices" "limit" "I"] ++ wsX00)
def wsX0_bestPairAt : List Cond := .code yX0_bestPairAt cX0_bestPairAt 7 (some .int) :: ([.constant RX0 151 (1000000), .fieldLink RX0 19 "TelegraphPrices" "words" "I", .fieldLink RX0 16 "TelegraphPrices" "joins" "[I", .methodLink RX0 184 yX0_mayHold, .instanceMethod yX0_mayHold, .selects RX0 yX0_mayHold yX0_mayHold, .initialized RX0, .code yX0_mayHold cX0_mayHold 3 (some .boolean), .fieldLink RX0 39 "TelegraphPrices" "length" "I", .fieldLink RX0 13 "TelegraphPrices" "standIns" "[I", .fieldLink RX0 32 "TelegraphPrices" "telegram" "[I", .methodLink RX0 84 yX0_hasBit, .static yX0_hasBit, .code yX0_hasBit cX0_hasBit 2 (some .boolean), .methodLink RX0 126 yX0_countOfPair, .instanceMethod yX0_countOfPair, .selects RX0 yX0_countOfPair yX0_countOfPair, .code yX0_countOfPair cX0_countOfPair 3 (some .int), .fieldLink RX0 9 "TelegraphPrices" "letters" "[I", .methodLink RX0 118 yX0_countOfLetters, .instanceMethod yX0_countOfLetters, .selects RX0 yX0_countOfLetters yX0_countOfLetters, .code yX0_countOfLetters cX0_countOfLetters 2 (some .int), .fieldLink RX0 23 "TelegraphPrices" "limit" "I"] ++ wsX00)
def wsX0_noteLeastCounts_r1 : List Cond := [Cond.fieldLink RX0 39 "TelegraphPrices" "length" "I", Cond.fieldLink RX0 48 "TelegraphPrices" "leastAlone" "[I", Cond.fieldLink RX0 9 "TelegraphPrices" "letters" "[I", Cond.fieldLink RX0 51 "TelegraphPrices" "leastJoined" "[I", Cond.constant RX0 151 (1000000), Cond.methodLink RX0 178 yX0_bestWordAt, Cond.instanceMethod yX0_bestWordAt, Cond.selects RX0 yX0_bestWordAt yX0_bestWordAt, Cond.initialized RX0, Cond.code yX0_bestWordAt cX0_bestWordAt 5 (some .int), Cond.fieldLink RX0 32 "TelegraphPrices" "telegram" "[I", Cond.fieldLink RX0 19 "TelegraphPrices" "words" "I", Cond.methodLink RX0 184 yX0_mayHold, Cond.instanceMethod yX0_mayHold, Cond.selects RX0 yX0_mayHold yX0_mayHold, Cond.code yX0_mayHold cX0_mayHold 3 (some .boolean), Cond.fieldLink RX0 13 "TelegraphPrices" "standIns" "[I", Cond.methodLink RX0 84 yX0_hasBit, Cond.static yX0_hasBit, Cond.code yX0_hasBit cX0_hasBit 2 (some .boolean), Cond.methodLink RX0 118 yX0_countOfLetters, Cond.instanceMethod yX0_countOfLetters, Cond.selects RX0 yX0_countOfLetters yX0_countOfLetters, Cond.code yX0_countOfLetters cX0_countOfLetters 2 (some .int)]
def wsX0_noteLeastCounts_r2 : List Cond := [Cond.fieldLink RX0 23 "TelegraphPrices" "limit" "I", Cond.methodLink RX0 181 yX0_bestPairAt, Cond.instanceMethod yX0_bestPairAt, Cond.selects RX0 yX0_bestPairAt yX0_bestPairAt, Cond.code yX0_bestPairAt cX0_bestPairAt 7 (some .int), Cond.fieldLink RX0 16 "TelegraphPrices" "joins" "[I", Cond.methodLink RX0 126 yX0_countOfPair, Cond.instanceMethod yX0_countOfPair, Cond.selects RX0 yX0_countOfPair yX0_countOfPair, Cond.code yX0_countOfPair cX0_countOfPair 3 (some .int)]
def wsX0_noteLeastCounts : List Cond := .code yX0_noteLeastCounts cX0_noteLeastCounts 3 none :: ((wsX0_noteLeastCounts_r1 ++ wsX0_noteLeastCounts_r2) ++ wsX00)
def wsX0_leastInAll : List Cond := .code yX0_leastInAll cX0_leastInAll 4 (some .int) :: ([.fieldLink RX0 57 "TelegraphPrices" "leastFrom" "[I", .fieldLink RX0 39 "TelegraphPrices" "length" "I", .fieldLink RX0 48 "TelegraphPrices" "leastAlone" "[I", .methodLink RX0 152 Lib.Math.min.name, .static Lib.Math.min.name, .initialized "java/lang/Math", .code Lib.Math.min.name Lib.Math.min.code 2 (some .int)] ++ wsX00)
def wsX0_noteCheapestAt : List Cond := .code yX0_noteCheapestAt cX0_noteCheapestAt 4 none :: ([.fieldLink RX0 60 "TelegraphPrices" "cheapestWords" "[I", .fieldLink RX0 63 "TelegraphPrices" "cheapestJoined" "[Z"] ++ wsX00)
def wsX0_noteCheapestWording_r1 : List Cond := [Cond.fieldLink RX0 51 "TelegraphPrices" "leastJoined" "[I", Cond.fieldLink RX0 39 "TelegraphPrices" "length" "I", Cond.fieldLink RX0 48 "TelegraphPrices" "leastAlone" "[I", Cond.fieldLink RX0 57 "TelegraphPrices" "leastFrom" "[I", Cond.methodLink RX0 141 yX0_noteLeastCounts, Cond.instanceMethod yX0_noteLeastCounts, Cond.selects RX0 yX0_noteLeastCounts yX0_noteLeastCounts, Cond.initialized RX0, Cond.code yX0_noteLeastCounts cX0_noteLeastCounts 3 none, Cond.fieldLink RX0 9 "TelegraphPrices" "letters" "[I", Cond.constant RX0 151 (1000000), Cond.methodLink RX0 178 yX0_bestWordAt, Cond.instanceMethod yX0_bestWordAt, Cond.selects RX0 yX0_bestWordAt yX0_bestWordAt, Cond.code yX0_bestWordAt cX0_bestWordAt 5 (some .int), Cond.fieldLink RX0 32 "TelegraphPrices" "telegram" "[I", Cond.fieldLink RX0 19 "TelegraphPrices" "words" "I", Cond.methodLink RX0 184 yX0_mayHold, Cond.instanceMethod yX0_mayHold, Cond.selects RX0 yX0_mayHold yX0_mayHold, Cond.code yX0_mayHold cX0_mayHold 3 (some .boolean), Cond.fieldLink RX0 13 "TelegraphPrices" "standIns" "[I", Cond.methodLink RX0 84 yX0_hasBit, Cond.static yX0_hasBit]
def wsX0_noteCheapestWording_r2 : List Cond := [Cond.code yX0_hasBit cX0_hasBit 2 (some .boolean), Cond.methodLink RX0 118 yX0_countOfLetters, Cond.instanceMethod yX0_countOfLetters, Cond.selects RX0 yX0_countOfLetters yX0_countOfLetters, Cond.code yX0_countOfLetters cX0_countOfLetters 2 (some .int), Cond.fieldLink RX0 23 "TelegraphPrices" "limit" "I", Cond.methodLink RX0 181 yX0_bestPairAt, Cond.instanceMethod yX0_bestPairAt, Cond.selects RX0 yX0_bestPairAt yX0_bestPairAt, Cond.code yX0_bestPairAt cX0_bestPairAt 7 (some .int), Cond.fieldLink RX0 16 "TelegraphPrices" "joins" "[I", Cond.methodLink RX0 126 yX0_countOfPair, Cond.instanceMethod yX0_countOfPair, Cond.selects RX0 yX0_countOfPair yX0_countOfPair, Cond.code yX0_countOfPair cX0_countOfPair 3 (some .int), Cond.methodLink RX0 144 yX0_leastInAll, Cond.instanceMethod yX0_leastInAll, Cond.selects RX0 yX0_leastInAll yX0_leastInAll, Cond.code yX0_leastInAll cX0_leastInAll 4 (some .int), Cond.methodLink RX0 152 Lib.Math.min.name, Cond.static Lib.Math.min.name, Cond.initialized "java/lang/Math", Cond.code Lib.Math.min.name Lib.Math.min.code 2 (some .int), Cond.methodLink RX0 187 yX0_noteCheapestAt]
def wsX0_noteCheapestWording_r3 : List Cond := [Cond.instanceMethod yX0_noteCheapestAt, Cond.selects RX0 yX0_noteCheapestAt yX0_noteCheapestAt, Cond.code yX0_noteCheapestAt cX0_noteCheapestAt 4 none, Cond.fieldLink RX0 60 "TelegraphPrices" "cheapestWords" "[I", Cond.fieldLink RX0 63 "TelegraphPrices" "cheapestJoined" "[Z"]
def wsX0_noteCheapestWording : List Cond := .code yX0_noteCheapestWording cX0_noteCheapestWording 3 none :: ((wsX0_noteCheapestWording_r1 ++ (wsX0_noteCheapestWording_r2 ++ wsX0_noteCheapestWording_r3)) ++ wsX00)
def wsX0_reword_r1 : List Cond := [Cond.fieldLink RX0 39 "TelegraphPrices" "length" "I", Cond.fieldLink RX0 32 "TelegraphPrices" "telegram" "[I", Cond.fieldLink RX0 60 "TelegraphPrices" "cheapestWords" "[I", Cond.fieldLink RX0 35 "TelegraphPrices" "joined" "[Z", Cond.fieldLink RX0 63 "TelegraphPrices" "cheapestJoined" "[Z", Cond.methodLink RX0 105 yX0_count, Cond.instanceMethod yX0_count, Cond.selects RX0 yX0_count yX0_count, Cond.initialized RX0, Cond.code yX0_count cX0_count 3 (some .int), Cond.fieldLink RX0 9 "TelegraphPrices" "letters" "[I", Cond.methodLink RX0 126 yX0_countOfPair, Cond.instanceMethod yX0_countOfPair, Cond.selects RX0 yX0_countOfPair yX0_countOfPair, Cond.code yX0_countOfPair cX0_countOfPair 3 (some .int), Cond.methodLink RX0 118 yX0_countOfLetters, Cond.instanceMethod yX0_countOfLetters, Cond.selects RX0 yX0_countOfLetters yX0_countOfLetters, Cond.code yX0_countOfLetters cX0_countOfLetters 2 (some .int), Cond.fieldLink RX0 23 "TelegraphPrices" "limit" "I", Cond.methodLink RX0 130 yX0_atLeastTheLeastCount, Cond.instanceMethod yX0_atLeastTheLeastCount, Cond.selects RX0 yX0_atLeastTheLeastCount yX0_atLeastTheLeastCount, Cond.code yX0_atLeastTheLeastCount cX0_atLeastTheLeastCount 2 (some .int)]
def wsX0_reword_r2 : List Cond := [Cond.fieldLink RX0 26 "TelegraphPrices" "leastCount" "I", Cond.methodLink RX0 175 Lib.Math.max.name, Cond.static Lib.Math.max.name, Cond.initialized "java/lang/Math", Cond.code Lib.Math.max.name Lib.Math.max.code 2 (some .int), Cond.methodLink RX0 109 yX0_noteCheapestWording, Cond.instanceMethod yX0_noteCheapestWording, Cond.selects RX0 yX0_noteCheapestWording yX0_noteCheapestWording, Cond.code yX0_noteCheapestWording cX0_noteCheapestWording 3 none, Cond.fieldLink RX0 51 "TelegraphPrices" "leastJoined" "[I", Cond.fieldLink RX0 48 "TelegraphPrices" "leastAlone" "[I", Cond.fieldLink RX0 57 "TelegraphPrices" "leastFrom" "[I", Cond.methodLink RX0 141 yX0_noteLeastCounts, Cond.instanceMethod yX0_noteLeastCounts, Cond.selects RX0 yX0_noteLeastCounts yX0_noteLeastCounts, Cond.code yX0_noteLeastCounts cX0_noteLeastCounts 3 none, Cond.constant RX0 151 (1000000), Cond.methodLink RX0 178 yX0_bestWordAt, Cond.instanceMethod yX0_bestWordAt, Cond.selects RX0 yX0_bestWordAt yX0_bestWordAt, Cond.code yX0_bestWordAt cX0_bestWordAt 5 (some .int), Cond.fieldLink RX0 19 "TelegraphPrices" "words" "I", Cond.methodLink RX0 184 yX0_mayHold, Cond.instanceMethod yX0_mayHold]
def wsX0_reword_r3 : List Cond := [Cond.selects RX0 yX0_mayHold yX0_mayHold, Cond.code yX0_mayHold cX0_mayHold 3 (some .boolean), Cond.fieldLink RX0 13 "TelegraphPrices" "standIns" "[I", Cond.methodLink RX0 84 yX0_hasBit, Cond.static yX0_hasBit, Cond.code yX0_hasBit cX0_hasBit 2 (some .boolean), Cond.methodLink RX0 181 yX0_bestPairAt, Cond.instanceMethod yX0_bestPairAt, Cond.selects RX0 yX0_bestPairAt yX0_bestPairAt, Cond.code yX0_bestPairAt cX0_bestPairAt 7 (some .int), Cond.fieldLink RX0 16 "TelegraphPrices" "joins" "[I", Cond.methodLink RX0 144 yX0_leastInAll, Cond.instanceMethod yX0_leastInAll, Cond.selects RX0 yX0_leastInAll yX0_leastInAll, Cond.code yX0_leastInAll cX0_leastInAll 4 (some .int), Cond.methodLink RX0 152 Lib.Math.min.name, Cond.static Lib.Math.min.name, Cond.code Lib.Math.min.name Lib.Math.min.code 2 (some .int), Cond.methodLink RX0 187 yX0_noteCheapestAt, Cond.instanceMethod yX0_noteCheapestAt, Cond.selects RX0 yX0_noteCheapestAt yX0_noteCheapestAt, Cond.code yX0_noteCheapestAt cX0_noteCheapestAt 4 none]
def wsX0_reword : List Cond := .code yX0_reword cX0_reword 3 (some .int) :: ((wsX0_reword_r1 ++ (wsX0_reword_r2 ++ wsX0_reword_r3)) ++ wsX00)
def wsX0_price_r1 : List Cond := [Cond.fieldLink RX0 29 "TelegraphPrices" "coins" "I", Cond.methodLink RX0 105 yX0_count, Cond.instanceMethod yX0_count, Cond.selects RX0 yX0_count yX0_count, Cond.initialized RX0, Cond.code yX0_count cX0_count 3 (some .int), Cond.fieldLink RX0 39 "TelegraphPrices" "length" "I", Cond.fieldLink RX0 35 "TelegraphPrices" "joined" "[Z", Cond.fieldLink RX0 32 "TelegraphPrices" "telegram" "[I", Cond.fieldLink RX0 9 "TelegraphPrices" "letters" "[I", Cond.methodLink RX0 126 yX0_countOfPair, Cond.instanceMethod yX0_countOfPair, Cond.selects RX0 yX0_countOfPair yX0_countOfPair, Cond.code yX0_countOfPair cX0_countOfPair 3 (some .int), Cond.methodLink RX0 118 yX0_countOfLetters, Cond.instanceMethod yX0_countOfLetters, Cond.selects RX0 yX0_countOfLetters yX0_countOfLetters, Cond.code yX0_countOfLetters cX0_countOfLetters 2 (some .int), Cond.fieldLink RX0 23 "TelegraphPrices" "limit" "I", Cond.methodLink RX0 130 yX0_atLeastTheLeastCount, Cond.instanceMethod yX0_atLeastTheLeastCount, Cond.selects RX0 yX0_atLeastTheLeastCount yX0_atLeastTheLeastCount, Cond.code yX0_atLeastTheLeastCount cX0_atLeastTheLeastCount 2 (some .int), Cond.fieldLink RX0 26 "TelegraphPrices" "leastCount" "I"]
def wsX0_price_r2 : List Cond := [Cond.methodLink RX0 175 Lib.Math.max.name, Cond.static Lib.Math.max.name, Cond.initialized "java/lang/Math", Cond.code Lib.Math.max.name Lib.Math.max.code 2 (some .int)]
def wsX0_price : List Cond := .code yX0_price cX0_price 1 (some .int) :: ((wsX0_price_r1 ++ wsX0_price_r2) ++ wsX00)
def wsX0_priceTo_r1 : List Cond := [Cond.classLink RX0 133 "java/lang/IndexOutOfBoundsException", Cond.initialized "java/lang/IndexOutOfBoundsException", Cond.methodLink RX0 138 yX0_price, Cond.instanceMethod yX0_price, Cond.selects RX0 yX0_price yX0_price, Cond.initialized RX0, Cond.code yX0_price cX0_price 1 (some .int), Cond.fieldLink RX0 29 "TelegraphPrices" "coins" "I", Cond.methodLink RX0 105 yX0_count, Cond.instanceMethod yX0_count, Cond.selects RX0 yX0_count yX0_count, Cond.code yX0_count cX0_count 3 (some .int), Cond.fieldLink RX0 39 "TelegraphPrices" "length" "I", Cond.fieldLink RX0 35 "TelegraphPrices" "joined" "[Z", Cond.fieldLink RX0 32 "TelegraphPrices" "telegram" "[I", Cond.fieldLink RX0 9 "TelegraphPrices" "letters" "[I", Cond.methodLink RX0 126 yX0_countOfPair, Cond.instanceMethod yX0_countOfPair, Cond.selects RX0 yX0_countOfPair yX0_countOfPair, Cond.code yX0_countOfPair cX0_countOfPair 3 (some .int), Cond.methodLink RX0 118 yX0_countOfLetters, Cond.instanceMethod yX0_countOfLetters, Cond.selects RX0 yX0_countOfLetters yX0_countOfLetters, Cond.code yX0_countOfLetters cX0_countOfLetters 2 (some .int)]
def wsX0_priceTo_r2 : List Cond := [Cond.fieldLink RX0 23 "TelegraphPrices" "limit" "I", Cond.methodLink RX0 130 yX0_atLeastTheLeastCount, Cond.instanceMethod yX0_atLeastTheLeastCount, Cond.selects RX0 yX0_atLeastTheLeastCount yX0_atLeastTheLeastCount, Cond.code yX0_atLeastTheLeastCount cX0_atLeastTheLeastCount 2 (some .int), Cond.fieldLink RX0 26 "TelegraphPrices" "leastCount" "I", Cond.methodLink RX0 175 Lib.Math.max.name, Cond.static Lib.Math.max.name, Cond.initialized "java/lang/Math", Cond.code Lib.Math.max.name Lib.Math.max.code 2 (some .int)]
def wsX0_priceTo : List Cond := .code yX0_priceTo cX0_priceTo 2 (some .int) :: ((wsX0_priceTo_r1 ++ wsX0_priceTo_r2) ++ wsX00 ++ (vx_atS RX0 137 "java/lang/IndexOutOfBoundsException" ["java/lang/RuntimeException", "java/lang/Exception"]).filter goodWord)
def wsX0_send_r1 : List Cond := [Cond.classLink RX0 73 "java/lang/IllegalStateException", Cond.initialized "java/lang/IllegalStateException", Cond.fieldLink RX0 39 "TelegraphPrices" "length" "I", Cond.fieldLink RX0 42 "TelegraphPrices" "sent" "I", Cond.fieldLink RX0 45 "TelegraphPrices" "earned" "I", Cond.methodLink RX0 112 yX0_priceTo, Cond.instanceMethod yX0_priceTo, Cond.selects RX0 yX0_priceTo yX0_priceTo, Cond.initialized RX0, Cond.code yX0_priceTo cX0_priceTo 2 (some .int), Cond.classLink RX0 133 "java/lang/IndexOutOfBoundsException", Cond.initialized "java/lang/IndexOutOfBoundsException", Cond.methodLink RX0 138 yX0_price, Cond.instanceMethod yX0_price, Cond.selects RX0 yX0_price yX0_price, Cond.code yX0_price cX0_price 1 (some .int), Cond.fieldLink RX0 29 "TelegraphPrices" "coins" "I", Cond.methodLink RX0 105 yX0_count, Cond.instanceMethod yX0_count, Cond.selects RX0 yX0_count yX0_count, Cond.code yX0_count cX0_count 3 (some .int), Cond.fieldLink RX0 35 "TelegraphPrices" "joined" "[Z", Cond.fieldLink RX0 32 "TelegraphPrices" "telegram" "[I", Cond.fieldLink RX0 9 "TelegraphPrices" "letters" "[I"]
def wsX0_send_r2 : List Cond := [Cond.methodLink RX0 126 yX0_countOfPair, Cond.instanceMethod yX0_countOfPair, Cond.selects RX0 yX0_countOfPair yX0_countOfPair, Cond.code yX0_countOfPair cX0_countOfPair 3 (some .int), Cond.methodLink RX0 118 yX0_countOfLetters, Cond.instanceMethod yX0_countOfLetters, Cond.selects RX0 yX0_countOfLetters yX0_countOfLetters, Cond.code yX0_countOfLetters cX0_countOfLetters 2 (some .int), Cond.fieldLink RX0 23 "TelegraphPrices" "limit" "I", Cond.methodLink RX0 130 yX0_atLeastTheLeastCount, Cond.instanceMethod yX0_atLeastTheLeastCount, Cond.selects RX0 yX0_atLeastTheLeastCount yX0_atLeastTheLeastCount, Cond.code yX0_atLeastTheLeastCount cX0_atLeastTheLeastCount 2 (some .int), Cond.fieldLink RX0 26 "TelegraphPrices" "leastCount" "I", Cond.methodLink RX0 175 Lib.Math.max.name, Cond.static Lib.Math.max.name, Cond.initialized "java/lang/Math", Cond.code Lib.Math.max.name Lib.Math.max.code 2 (some .int)]
def wsX0_send : List Cond := .code yX0_send cX0_send 3 (some .int) :: ((wsX0_send_r1 ++ wsX0_send_r2) ++ wsX00 ++ (vx_atS RX0 77 "java/lang/IllegalStateException" ["java/lang/RuntimeException", "java/lang/Exception"]).filter goodWord ++ (vx_atS RX0 137 "java/lang/IndexOutOfBoundsException" ["java/lang/RuntimeException", "java/lang/Exception"]).filter goodWord)
def wsX0_words : List Cond := .code yX0_words cX0_words 1 (some .int) :: ([.fieldLink RX0 19 "TelegraphPrices" "words" "I"] ++ wsX00)
def wsX0_lettersOf : List Cond := .code yX0_lettersOf cX0_lettersOf 2 (some .int) :: ([.fieldLink RX0 9 "TelegraphPrices" "letters" "[I", .methodLink RX0 78 yX0_needWord, .instanceMethod yX0_needWord, .selects RX0 yX0_needWord yX0_needWord, .initialized RX0, .code yX0_needWord cX0_needWord 2 none, .classLink RX0 133 "java/lang/IndexOutOfBoundsException", .initialized "java/lang/IndexOutOfBoundsException", .fieldLink RX0 19 "TelegraphPrices" "words" "I"] ++ wsX00 ++ (vx_atS RX0 137 "java/lang/IndexOutOfBoundsException" ["java/lang/RuntimeException", "java/lang/Exception"]).filter goodWord)
def wsX0_countOf : List Cond := .code yX0_countOf cX0_countOf 2 (some .int) :: ([.fieldLink RX0 9 "TelegraphPrices" "letters" "[I", .methodLink RX0 78 yX0_needWord, .instanceMethod yX0_needWord, .selects RX0 yX0_needWord yX0_needWord, .initialized RX0, .code yX0_needWord cX0_needWord 2 none, .classLink RX0 133 "java/lang/IndexOutOfBoundsException", .initialized "java/lang/IndexOutOfBoundsException", .fieldLink RX0 19 "TelegraphPrices" "words" "I", .methodLink RX0 118 yX0_countOfLetters, .instanceMethod yX0_countOfLetters, .selects RX0 yX0_countOfLetters yX0_countOfLetters, .code yX0_countOfLetters cX0_countOfLetters 2 (some .int), .fieldLink RX0 23 "TelegraphPrices" "limit" "I"] ++ wsX00 ++ (vx_atS RX0 137 "java/lang/IndexOutOfBoundsException" ["java/lang/RuntimeException", "java/lang/Exception"]).filter goodWord)
def wsX0_mayStandFor : List Cond := .code yX0_mayStandFor cX0_mayStandFor 3 (some .boolean) :: ([.fieldLink RX0 13 "TelegraphPrices" "standIns" "[I", .methodLink RX0 78 yX0_needWord, .instanceMethod yX0_needWord, .selects RX0 yX0_needWord yX0_needWord, .initialized RX0, .code yX0_needWord cX0_needWord 2 none, .classLink RX0 133 "java/lang/IndexOutOfBoundsException", .initialized "java/lang/IndexOutOfBoundsException", .fieldLink RX0 19 "TelegraphPrices" "words" "I", .methodLink RX0 84 yX0_hasBit, .static yX0_hasBit, .code yX0_hasBit cX0_hasBit 2 (some .boolean)] ++ wsX00 ++ (vx_atS RX0 137 "java/lang/IndexOutOfBoundsException" ["java/lang/RuntimeException", "java/lang/Exception"]).filter goodWord)
def wsX0_mayJoin : List Cond := .code yX0_mayJoin cX0_mayJoin 3 (some .boolean) :: ([.fieldLink RX0 16 "TelegraphPrices" "joins" "[I", .methodLink RX0 78 yX0_needWord, .instanceMethod yX0_needWord, .selects RX0 yX0_needWord yX0_needWord, .initialized RX0, .code yX0_needWord cX0_needWord 2 none, .classLink RX0 133 "java/lang/IndexOutOfBoundsException", .initialized "java/lang/IndexOutOfBoundsException", .fieldLink RX0 19 "TelegraphPrices" "words" "I", .methodLink RX0 84 yX0_hasBit, .static yX0_hasBit, .code yX0_hasBit cX0_hasBit 2 (some .boolean)] ++ wsX00 ++ (vx_atS RX0 137 "java/lang/IndexOutOfBoundsException" ["java/lang/RuntimeException", "java/lang/Exception"]).filter goodWord)
def wsJ6_bitCount_0f7a4 : List Cond := .code yJ6_bitCount_0f7a4 cJ6_bitCount_0f7a4 1 (some .int) :: ([.constant RJ6 265 (1431655765), .constant RJ6 266 (858993459), .constant RJ6 267 (252645135)])
def wsX0_standInsOf : List Cond := .code yX0_standInsOf cX0_standInsOf 2 (some .int) :: ([.fieldLink RX0 13 "TelegraphPrices" "standIns" "[I", .methodLink RX0 78 yX0_needWord, .instanceMethod yX0_needWord, .selects RX0 yX0_needWord yX0_needWord, .initialized RX0, .code yX0_needWord cX0_needWord 2 none, .classLink RX0 133 "java/lang/IndexOutOfBoundsException", .initialized "java/lang/IndexOutOfBoundsException", .fieldLink RX0 19 "TelegraphPrices" "words" "I", .methodLink RX0 121 yJ6_bitCount_0f7a4, .static yJ6_bitCount_0f7a4, .initialized RJ6, .code yJ6_bitCount_0f7a4 cJ6_bitCount_0f7a4 1 (some .int), .constant RJ6 265 (1431655765), .constant RJ6 266 (858993459), .constant RJ6 267 (252645135)] ++ wsX00 ++ (vx_atS RX0 137 "java/lang/IndexOutOfBoundsException" ["java/lang/RuntimeException", "java/lang/Exception"]).filter goodWord)
def wsX0_limit : List Cond := .code yX0_limit cX0_limit 1 (some .int) :: ([.fieldLink RX0 23 "TelegraphPrices" "limit" "I"] ++ wsX00)
def wsX0_leastCount : List Cond := .code yX0_leastCount cX0_leastCount 1 (some .int) :: ([.fieldLink RX0 26 "TelegraphPrices" "leastCount" "I"] ++ wsX00)
def wsX0_coins : List Cond := .code yX0_coins cX0_coins 1 (some .int) :: ([.fieldLink RX0 29 "TelegraphPrices" "coins" "I"] ++ wsX00)
def wsX0_length : List Cond := .code yX0_length cX0_length 1 (some .int) :: ([.fieldLink RX0 39 "TelegraphPrices" "length" "I"] ++ wsX00)
def wsX0_wordAt : List Cond := .code yX0_wordAt cX0_wordAt 2 (some .int) :: ([.fieldLink RX0 32 "TelegraphPrices" "telegram" "[I", .methodLink RX0 96 yX0_needPlace, .instanceMethod yX0_needPlace, .selects RX0 yX0_needPlace yX0_needPlace, .initialized RX0, .code yX0_needPlace cX0_needPlace 2 none, .classLink RX0 133 "java/lang/IndexOutOfBoundsException", .initialized "java/lang/IndexOutOfBoundsException", .fieldLink RX0 39 "TelegraphPrices" "length" "I"] ++ wsX00 ++ (vx_atS RX0 137 "java/lang/IndexOutOfBoundsException" ["java/lang/RuntimeException", "java/lang/Exception"]).filter goodWord)
def wsX0_isJoined : List Cond := .code yX0_isJoined cX0_isJoined 2 (some .boolean) :: ([.fieldLink RX0 35 "TelegraphPrices" "joined" "[Z", .methodLink RX0 96 yX0_needPlace, .instanceMethod yX0_needPlace, .selects RX0 yX0_needPlace yX0_needPlace, .initialized RX0, .code yX0_needPlace cX0_needPlace 2 none, .classLink RX0 133 "java/lang/IndexOutOfBoundsException", .initialized "java/lang/IndexOutOfBoundsException", .fieldLink RX0 39 "TelegraphPrices" "length" "I"] ++ wsX00 ++ (vx_atS RX0 137 "java/lang/IndexOutOfBoundsException" ["java/lang/RuntimeException", "java/lang/Exception"]).filter goodWord)
def wsX0_sent : List Cond := .code yX0_sent cX0_sent 1 (some .int) :: ([.fieldLink RX0 42 "TelegraphPrices" "sent" "I"] ++ wsX00)
def wsX0_earned : List Cond := .code yX0_earned cX0_earned 1 (some .int) :: ([.fieldLink RX0 45 "TelegraphPrices" "earned" "I"] ++ wsX00)
def wsX0_cheapestCount_r1 : List Cond := [Cond.fieldLink RX0 51 "TelegraphPrices" "leastJoined" "[I", Cond.methodLink RX0 141 yX0_noteLeastCounts, Cond.instanceMethod yX0_noteLeastCounts, Cond.selects RX0 yX0_noteLeastCounts yX0_noteLeastCounts, Cond.initialized RX0, Cond.code yX0_noteLeastCounts cX0_noteLeastCounts 3 none, Cond.fieldLink RX0 39 "TelegraphPrices" "length" "I", Cond.fieldLink RX0 48 "TelegraphPrices" "leastAlone" "[I", Cond.fieldLink RX0 9 "TelegraphPrices" "letters" "[I", Cond.constant RX0 151 (1000000), Cond.methodLink RX0 178 yX0_bestWordAt, Cond.instanceMethod yX0_bestWordAt, Cond.selects RX0 yX0_bestWordAt yX0_bestWordAt, Cond.code yX0_bestWordAt cX0_bestWordAt 5 (some .int), Cond.fieldLink RX0 32 "TelegraphPrices" "telegram" "[I", Cond.fieldLink RX0 19 "TelegraphPrices" "words" "I", Cond.methodLink RX0 184 yX0_mayHold, Cond.instanceMethod yX0_mayHold, Cond.selects RX0 yX0_mayHold yX0_mayHold, Cond.code yX0_mayHold cX0_mayHold 3 (some .boolean), Cond.fieldLink RX0 13 "TelegraphPrices" "standIns" "[I", Cond.methodLink RX0 84 yX0_hasBit, Cond.static yX0_hasBit, Cond.code yX0_hasBit cX0_hasBit 2 (some .boolean)]
def wsX0_cheapestCount_r2 : List Cond := [Cond.methodLink RX0 118 yX0_countOfLetters, Cond.instanceMethod yX0_countOfLetters, Cond.selects RX0 yX0_countOfLetters yX0_countOfLetters, Cond.code yX0_countOfLetters cX0_countOfLetters 2 (some .int), Cond.fieldLink RX0 23 "TelegraphPrices" "limit" "I", Cond.methodLink RX0 181 yX0_bestPairAt, Cond.instanceMethod yX0_bestPairAt, Cond.selects RX0 yX0_bestPairAt yX0_bestPairAt, Cond.code yX0_bestPairAt cX0_bestPairAt 7 (some .int), Cond.fieldLink RX0 16 "TelegraphPrices" "joins" "[I", Cond.methodLink RX0 126 yX0_countOfPair, Cond.instanceMethod yX0_countOfPair, Cond.selects RX0 yX0_countOfPair yX0_countOfPair, Cond.code yX0_countOfPair cX0_countOfPair 3 (some .int), Cond.methodLink RX0 144 yX0_leastInAll, Cond.instanceMethod yX0_leastInAll, Cond.selects RX0 yX0_leastInAll yX0_leastInAll, Cond.code yX0_leastInAll cX0_leastInAll 4 (some .int), Cond.fieldLink RX0 57 "TelegraphPrices" "leastFrom" "[I", Cond.methodLink RX0 152 Lib.Math.min.name, Cond.static Lib.Math.min.name, Cond.initialized "java/lang/Math", Cond.code Lib.Math.min.name Lib.Math.min.code 2 (some .int), Cond.methodLink RX0 130 yX0_atLeastTheLeastCount]
def wsX0_cheapestCount_r3 : List Cond := [Cond.instanceMethod yX0_atLeastTheLeastCount, Cond.selects RX0 yX0_atLeastTheLeastCount yX0_atLeastTheLeastCount, Cond.code yX0_atLeastTheLeastCount cX0_atLeastTheLeastCount 2 (some .int), Cond.fieldLink RX0 26 "TelegraphPrices" "leastCount" "I", Cond.methodLink RX0 175 Lib.Math.max.name, Cond.static Lib.Math.max.name, Cond.code Lib.Math.max.name Lib.Math.max.code 2 (some .int)]
def wsX0_cheapestCount : List Cond := .code yX0_cheapestCount cX0_cheapestCount 1 (some .int) :: ((wsX0_cheapestCount_r1 ++ (wsX0_cheapestCount_r2 ++ wsX0_cheapestCount_r3)) ++ wsX00)
def wsX0_isJoinedInCheapest_r1 : List Cond := [Cond.fieldLink RX0 63 "TelegraphPrices" "cheapestJoined" "[Z", Cond.methodLink RX0 96 yX0_needPlace, Cond.instanceMethod yX0_needPlace, Cond.selects RX0 yX0_needPlace yX0_needPlace, Cond.initialized RX0, Cond.code yX0_needPlace cX0_needPlace 2 none, Cond.classLink RX0 133 "java/lang/IndexOutOfBoundsException", Cond.initialized "java/lang/IndexOutOfBoundsException", Cond.fieldLink RX0 39 "TelegraphPrices" "length" "I", Cond.methodLink RX0 109 yX0_noteCheapestWording, Cond.instanceMethod yX0_noteCheapestWording, Cond.selects RX0 yX0_noteCheapestWording yX0_noteCheapestWording, Cond.code yX0_noteCheapestWording cX0_noteCheapestWording 3 none, Cond.fieldLink RX0 51 "TelegraphPrices" "leastJoined" "[I", Cond.fieldLink RX0 48 "TelegraphPrices" "leastAlone" "[I", Cond.fieldLink RX0 57 "TelegraphPrices" "leastFrom" "[I", Cond.methodLink RX0 141 yX0_noteLeastCounts, Cond.instanceMethod yX0_noteLeastCounts, Cond.selects RX0 yX0_noteLeastCounts yX0_noteLeastCounts, Cond.code yX0_noteLeastCounts cX0_noteLeastCounts 3 none, Cond.fieldLink RX0 9 "TelegraphPrices" "letters" "[I", Cond.constant RX0 151 (1000000), Cond.methodLink RX0 178 yX0_bestWordAt, Cond.instanceMethod yX0_bestWordAt]
def wsX0_isJoinedInCheapest_r2 : List Cond := [Cond.selects RX0 yX0_bestWordAt yX0_bestWordAt, Cond.code yX0_bestWordAt cX0_bestWordAt 5 (some .int), Cond.fieldLink RX0 32 "TelegraphPrices" "telegram" "[I", Cond.fieldLink RX0 19 "TelegraphPrices" "words" "I", Cond.methodLink RX0 184 yX0_mayHold, Cond.instanceMethod yX0_mayHold, Cond.selects RX0 yX0_mayHold yX0_mayHold, Cond.code yX0_mayHold cX0_mayHold 3 (some .boolean), Cond.fieldLink RX0 13 "TelegraphPrices" "standIns" "[I", Cond.methodLink RX0 84 yX0_hasBit, Cond.static yX0_hasBit, Cond.code yX0_hasBit cX0_hasBit 2 (some .boolean), Cond.methodLink RX0 118 yX0_countOfLetters, Cond.instanceMethod yX0_countOfLetters, Cond.selects RX0 yX0_countOfLetters yX0_countOfLetters, Cond.code yX0_countOfLetters cX0_countOfLetters 2 (some .int), Cond.fieldLink RX0 23 "TelegraphPrices" "limit" "I", Cond.methodLink RX0 181 yX0_bestPairAt, Cond.instanceMethod yX0_bestPairAt, Cond.selects RX0 yX0_bestPairAt yX0_bestPairAt, Cond.code yX0_bestPairAt cX0_bestPairAt 7 (some .int), Cond.fieldLink RX0 16 "TelegraphPrices" "joins" "[I", Cond.methodLink RX0 126 yX0_countOfPair, Cond.instanceMethod yX0_countOfPair]
def wsX0_isJoinedInCheapest_r3 : List Cond := [Cond.selects RX0 yX0_countOfPair yX0_countOfPair, Cond.code yX0_countOfPair cX0_countOfPair 3 (some .int), Cond.methodLink RX0 144 yX0_leastInAll, Cond.instanceMethod yX0_leastInAll, Cond.selects RX0 yX0_leastInAll yX0_leastInAll, Cond.code yX0_leastInAll cX0_leastInAll 4 (some .int), Cond.methodLink RX0 152 Lib.Math.min.name, Cond.static Lib.Math.min.name, Cond.initialized "java/lang/Math", Cond.code Lib.Math.min.name Lib.Math.min.code 2 (some .int), Cond.methodLink RX0 187 yX0_noteCheapestAt, Cond.instanceMethod yX0_noteCheapestAt, Cond.selects RX0 yX0_noteCheapestAt yX0_noteCheapestAt, Cond.code yX0_noteCheapestAt cX0_noteCheapestAt 4 none, Cond.fieldLink RX0 60 "TelegraphPrices" "cheapestWords" "[I"]
def wsX0_isJoinedInCheapest : List Cond := .code yX0_isJoinedInCheapest cX0_isJoinedInCheapest 2 (some .boolean) :: ((wsX0_isJoinedInCheapest_r1 ++ (wsX0_isJoinedInCheapest_r2 ++ wsX0_isJoinedInCheapest_r3)) ++ wsX00 ++ (vx_atS RX0 137 "java/lang/IndexOutOfBoundsException" ["java/lang/RuntimeException", "java/lang/Exception"]).filter goodWord)
def wsX0_saves_r1 : List Cond := [Cond.fieldLink RX0 29 "TelegraphPrices" "coins" "I", Cond.methodLink RX0 138 yX0_price, Cond.instanceMethod yX0_price, Cond.selects RX0 yX0_price yX0_price, Cond.initialized RX0, Cond.code yX0_price cX0_price 1 (some .int), Cond.methodLink RX0 105 yX0_count, Cond.instanceMethod yX0_count, Cond.selects RX0 yX0_count yX0_count, Cond.code yX0_count cX0_count 3 (some .int), Cond.fieldLink RX0 39 "TelegraphPrices" "length" "I", Cond.fieldLink RX0 35 "TelegraphPrices" "joined" "[Z", Cond.fieldLink RX0 32 "TelegraphPrices" "telegram" "[I", Cond.fieldLink RX0 9 "TelegraphPrices" "letters" "[I", Cond.methodLink RX0 126 yX0_countOfPair, Cond.instanceMethod yX0_countOfPair, Cond.selects RX0 yX0_countOfPair yX0_countOfPair, Cond.code yX0_countOfPair cX0_countOfPair 3 (some .int), Cond.methodLink RX0 118 yX0_countOfLetters, Cond.instanceMethod yX0_countOfLetters, Cond.selects RX0 yX0_countOfLetters yX0_countOfLetters, Cond.code yX0_countOfLetters cX0_countOfLetters 2 (some .int), Cond.fieldLink RX0 23 "TelegraphPrices" "limit" "I", Cond.methodLink RX0 130 yX0_atLeastTheLeastCount]
def wsX0_saves_r2 : List Cond := [Cond.instanceMethod yX0_atLeastTheLeastCount, Cond.selects RX0 yX0_atLeastTheLeastCount yX0_atLeastTheLeastCount, Cond.code yX0_atLeastTheLeastCount cX0_atLeastTheLeastCount 2 (some .int), Cond.fieldLink RX0 26 "TelegraphPrices" "leastCount" "I", Cond.methodLink RX0 175 Lib.Math.max.name, Cond.static Lib.Math.max.name, Cond.initialized "java/lang/Math", Cond.code Lib.Math.max.name Lib.Math.max.code 2 (some .int), Cond.methodLink RX0 148 yX0_cheapestCount, Cond.instanceMethod yX0_cheapestCount, Cond.selects RX0 yX0_cheapestCount yX0_cheapestCount, Cond.code yX0_cheapestCount cX0_cheapestCount 1 (some .int), Cond.fieldLink RX0 51 "TelegraphPrices" "leastJoined" "[I", Cond.methodLink RX0 141 yX0_noteLeastCounts, Cond.instanceMethod yX0_noteLeastCounts, Cond.selects RX0 yX0_noteLeastCounts yX0_noteLeastCounts, Cond.code yX0_noteLeastCounts cX0_noteLeastCounts 3 none, Cond.fieldLink RX0 48 "TelegraphPrices" "leastAlone" "[I", Cond.constant RX0 151 (1000000), Cond.methodLink RX0 178 yX0_bestWordAt, Cond.instanceMethod yX0_bestWordAt, Cond.selects RX0 yX0_bestWordAt yX0_bestWordAt, Cond.code yX0_bestWordAt cX0_bestWordAt 5 (some .int), Cond.fieldLink RX0 19 "TelegraphPrices" "words" "I"]
def wsX0_saves_r3 : List Cond := [Cond.methodLink RX0 184 yX0_mayHold, Cond.instanceMethod yX0_mayHold, Cond.selects RX0 yX0_mayHold yX0_mayHold, Cond.code yX0_mayHold cX0_mayHold 3 (some .boolean), Cond.fieldLink RX0 13 "TelegraphPrices" "standIns" "[I", Cond.methodLink RX0 84 yX0_hasBit, Cond.static yX0_hasBit, Cond.code yX0_hasBit cX0_hasBit 2 (some .boolean), Cond.methodLink RX0 181 yX0_bestPairAt, Cond.instanceMethod yX0_bestPairAt, Cond.selects RX0 yX0_bestPairAt yX0_bestPairAt, Cond.code yX0_bestPairAt cX0_bestPairAt 7 (some .int), Cond.fieldLink RX0 16 "TelegraphPrices" "joins" "[I", Cond.methodLink RX0 144 yX0_leastInAll, Cond.instanceMethod yX0_leastInAll, Cond.selects RX0 yX0_leastInAll yX0_leastInAll, Cond.code yX0_leastInAll cX0_leastInAll 4 (some .int), Cond.fieldLink RX0 57 "TelegraphPrices" "leastFrom" "[I", Cond.methodLink RX0 152 Lib.Math.min.name, Cond.static Lib.Math.min.name, Cond.code Lib.Math.min.name Lib.Math.min.code 2 (some .int)]
def wsX0_saves : List Cond := .code yX0_saves cX0_saves 1 (some .int) :: ((wsX0_saves_r1 ++ (wsX0_saves_r2 ++ wsX0_saves_r3)) ++ wsX00)
def wsX0_wordings : List Cond := .code yX0_wordings cX0_wordings 3 (some .int) :: ([.fieldLink RX0 39 "TelegraphPrices" "length" "I", .fieldLink RX0 13 "TelegraphPrices" "standIns" "[I", .fieldLink RX0 32 "TelegraphPrices" "telegram" "[I", .constant RX0 151 (1000000), .methodLink RX0 152 Lib.Math.min.name, .static Lib.Math.min.name, .initialized "java/lang/Math", .code Lib.Math.min.name Lib.Math.min.code 2 (some .int), .methodLink RX0 121 yJ6_bitCount_0f7a4, .static yJ6_bitCount_0f7a4, .initialized RJ6, .code yJ6_bitCount_0f7a4 cJ6_bitCount_0f7a4 1 (some .int), .constant RJ6 265 (1431655765), .constant RJ6 266 (858993459), .constant RJ6 267 (252645135)] ++ wsX00)
def wsX0_meanCost : List Cond := .code yX0_meanCost cX0_meanCost 1 (some .double) :: ([.fieldLink RX0 42 "TelegraphPrices" "sent" "I", .fieldLink RX0 45 "TelegraphPrices" "earned" "I"] ++ wsX00)
def wsX1_init : List Cond := .code yX1_init cX1_init 1 none :: ([.methodLink RX1 1 objectInit, .instanceMethod objectInit, .code objectInit ⟨#[0xb1]⟩ 1 none, .fieldLink RX1 7 "TelegraphPricesLaw$Sim" "limit" "I", .fieldLink RX1 13 "TelegraphPricesLaw$Sim" "least" "I", .fieldLink RX1 16 "TelegraphPricesLaw$Sim" "coins" "I", .arrayClass .int, .fieldLink RX1 19 "TelegraphPricesLaw$Sim" "letters" "[I", .classLink RX1 23 "[[Z", .arrayClass .boolean, .fieldLink RX1 25 "TelegraphPricesLaw$Sim" "stand" "[[Z", .fieldLink RX1 28 "TelegraphPricesLaw$Sim" "join" "[[Z", .fieldLink RX1 31 "TelegraphPricesLaw$Sim" "word" "[I", .fieldLink RX1 34 "TelegraphPricesLaw$Sim" "joined" "[Z"] ++ wsX10)
def wsX1_counts : List Cond := .code yX1_counts cX1_counts 2 (some .int) :: ([.fieldLink RX1 7 "TelegraphPricesLaw$Sim" "limit" "I"] ++ wsX10)
def wsX1_lifted : List Cond := .code yX1_lifted cX1_lifted 2 (some .int) :: ([.fieldLink RX1 31 "TelegraphPricesLaw$Sim" "word" "[I", .fieldLink RX1 13 "TelegraphPricesLaw$Sim" "least" "I"] ++ wsX10)
def wsX1_sum : List Cond := .code yX1_sum cX1_sum 6 (some .int) :: ([.fieldLink RX1 19 "TelegraphPricesLaw$Sim" "letters" "[I", .methodLink RX1 38 yX1_counts, .instanceMethod yX1_counts, .selects RX1 yX1_counts yX1_counts, .initialized RX1, .code yX1_counts cX1_counts 2 (some .int), .fieldLink RX1 7 "TelegraphPricesLaw$Sim" "limit" "I"] ++ wsX10)
def wsX1_count : List Cond := .code yX1_count cX1_count 1 (some .int) :: ([.fieldLink RX1 31 "TelegraphPricesLaw$Sim" "word" "[I", .fieldLink RX1 34 "TelegraphPricesLaw$Sim" "joined" "[Z", .methodLink RX1 42 yX1_sum, .instanceMethod yX1_sum, .selects RX1 yX1_sum yX1_sum, .initialized RX1, .code yX1_sum cX1_sum 6 (some .int), .fieldLink RX1 19 "TelegraphPricesLaw$Sim" "letters" "[I", .methodLink RX1 38 yX1_counts, .instanceMethod yX1_counts, .selects RX1 yX1_counts yX1_counts, .code yX1_counts cX1_counts 2 (some .int), .fieldLink RX1 7 "TelegraphPricesLaw$Sim" "limit" "I", .methodLink RX1 46 yX1_lifted, .instanceMethod yX1_lifted, .selects RX1 yX1_lifted yX1_lifted, .code yX1_lifted cX1_lifted 2 (some .int), .fieldLink RX1 13 "TelegraphPricesLaw$Sim" "least" "I"] ++ wsX10)
def wsX1_may : List Cond := .code yX1_may cX1_may 3 (some .boolean) :: ([.fieldLink RX1 25 "TelegraphPricesLaw$Sim" "stand" "[[Z"] ++ wsX10)
def wsX1_upTo : List Cond := .code yX1_upTo cX1_upTo 5 (some (.array .int)) :: ([.fieldLink RX1 31 "TelegraphPricesLaw$Sim" "word" "[I", .arrayClass .int, .fieldLink RX1 49 "TelegraphPricesLaw$Sim" "words" "I", .fieldLink RX1 19 "TelegraphPricesLaw$Sim" "letters" "[I", .methodLink RX1 56 Lib.Math.min.name, .static Lib.Math.min.name, .initialized "java/lang/Math", .code Lib.Math.min.name Lib.Math.min.code 2 (some .int), .fieldLink RX1 28 "TelegraphPricesLaw$Sim" "join" "[[Z", .methodLink RX1 52 yX1_may, .instanceMethod yX1_may, .selects RX1 yX1_may yX1_may, .initialized RX1, .code yX1_may cX1_may 3 (some .boolean), .fieldLink RX1 25 "TelegraphPricesLaw$Sim" "stand" "[[Z", .methodLink RX1 38 yX1_counts, .instanceMethod yX1_counts, .selects RX1 yX1_counts yX1_counts, .code yX1_counts cX1_counts 2 (some .int), .fieldLink RX1 7 "TelegraphPricesLaw$Sim" "limit" "I"] ++ wsX10)
def wsX1_cheapest_r1 : List Cond := [Cond.fieldLink RX1 31 "TelegraphPricesLaw$Sim" "word" "[I", Cond.methodLink RX1 62 yX1_upTo, Cond.instanceMethod yX1_upTo, Cond.selects RX1 yX1_upTo yX1_upTo, Cond.initialized RX1, Cond.code yX1_upTo cX1_upTo 5 (some (.array .int)), Cond.arrayClass .int, Cond.fieldLink RX1 49 "TelegraphPricesLaw$Sim" "words" "I", Cond.fieldLink RX1 19 "TelegraphPricesLaw$Sim" "letters" "[I", Cond.methodLink RX1 56 Lib.Math.min.name, Cond.static Lib.Math.min.name, Cond.initialized "java/lang/Math", Cond.code Lib.Math.min.name Lib.Math.min.code 2 (some .int), Cond.fieldLink RX1 28 "TelegraphPricesLaw$Sim" "join" "[[Z", Cond.methodLink RX1 52 yX1_may, Cond.instanceMethod yX1_may, Cond.selects RX1 yX1_may yX1_may, Cond.code yX1_may cX1_may 3 (some .boolean), Cond.fieldLink RX1 25 "TelegraphPricesLaw$Sim" "stand" "[[Z", Cond.methodLink RX1 38 yX1_counts, Cond.instanceMethod yX1_counts, Cond.selects RX1 yX1_counts yX1_counts, Cond.code yX1_counts cX1_counts 2 (some .int), Cond.fieldLink RX1 7 "TelegraphPricesLaw$Sim" "limit" "I"]
def wsX1_cheapest_r2 : List Cond := [Cond.methodLink RX1 46 yX1_lifted, Cond.instanceMethod yX1_lifted, Cond.selects RX1 yX1_lifted yX1_lifted, Cond.code yX1_lifted cX1_lifted 2 (some .int), Cond.fieldLink RX1 13 "TelegraphPricesLaw$Sim" "least" "I"]
def wsX1_cheapest : List Cond := .code yX1_cheapest cX1_cheapest 1 (some .int) :: ((wsX1_cheapest_r1 ++ wsX1_cheapest_r2) ++ wsX10)
def wsX1_rest : List Cond := .code yX1_rest cX1_rest 5 (some (.object "TelegraphPricesLaw$Sim")) :: ([.classLink RX1 8 RX1, .instantiable RX1 11, .initialized RX1, .fieldLink RX1 49 "TelegraphPricesLaw$Sim" "words" "I", .fieldLink RX1 7 "TelegraphPricesLaw$Sim" "limit" "I", .fieldLink RX1 13 "TelegraphPricesLaw$Sim" "least" "I", .fieldLink RX1 19 "TelegraphPricesLaw$Sim" "letters" "[I", .fieldLink RX1 25 "TelegraphPricesLaw$Sim" "stand" "[[Z", .fieldLink RX1 28 "TelegraphPricesLaw$Sim" "join" "[[Z", .fieldLink RX1 31 "TelegraphPricesLaw$Sim" "word" "[I", .arrayClass .int, .methodLink RX1 66 yX1_init, .instanceMethod yX1_init, .code yX1_init cX1_init 1 none, .methodLink RX1 1 objectInit, .instanceMethod objectInit, .code objectInit ⟨#[0xb1]⟩ 1 none, .fieldLink RX1 16 "TelegraphPricesLaw$Sim" "coins" "I", .classLink RX1 23 "[[Z", .arrayClass .boolean, .fieldLink RX1 34 "TelegraphPricesLaw$Sim" "joined" "[Z"] ++ wsX10)
def wsX1_wording_r1 : List Cond := [Cond.fieldLink RX1 31 "TelegraphPricesLaw$Sim" "word" "[I", Cond.arrayClass .int, Cond.fieldLink RX1 49 "TelegraphPricesLaw$Sim" "words" "I", Cond.fieldLink RX1 19 "TelegraphPricesLaw$Sim" "letters" "[I", Cond.fieldLink RX1 28 "TelegraphPricesLaw$Sim" "join" "[[Z", Cond.methodLink RX1 67 yX1_rest, Cond.instanceMethod yX1_rest, Cond.selects RX1 yX1_rest yX1_rest, Cond.initialized RX1, Cond.code yX1_rest cX1_rest 5 (some (.object "TelegraphPricesLaw$Sim")), Cond.classLink RX1 8 RX1, Cond.instantiable RX1 11, Cond.fieldLink RX1 7 "TelegraphPricesLaw$Sim" "limit" "I", Cond.fieldLink RX1 13 "TelegraphPricesLaw$Sim" "least" "I", Cond.fieldLink RX1 25 "TelegraphPricesLaw$Sim" "stand" "[[Z", Cond.methodLink RX1 66 yX1_init, Cond.instanceMethod yX1_init, Cond.code yX1_init cX1_init 1 none, Cond.methodLink RX1 1 objectInit, Cond.instanceMethod objectInit, Cond.code objectInit ⟨#[0xb1]⟩ 1 none, Cond.fieldLink RX1 16 "TelegraphPricesLaw$Sim" "coins" "I", Cond.classLink RX1 23 "[[Z", Cond.arrayClass .boolean]
def wsX1_wording_r2 : List Cond := [Cond.fieldLink RX1 34 "TelegraphPricesLaw$Sim" "joined" "[Z", Cond.methodLink RX1 71 yX1_cheapest, Cond.instanceMethod yX1_cheapest, Cond.selects RX1 yX1_cheapest yX1_cheapest, Cond.code yX1_cheapest cX1_cheapest 1 (some .int), Cond.methodLink RX1 62 yX1_upTo, Cond.instanceMethod yX1_upTo, Cond.selects RX1 yX1_upTo yX1_upTo, Cond.code yX1_upTo cX1_upTo 5 (some (.array .int)), Cond.methodLink RX1 56 Lib.Math.min.name, Cond.static Lib.Math.min.name, Cond.initialized "java/lang/Math", Cond.code Lib.Math.min.name Lib.Math.min.code 2 (some .int), Cond.methodLink RX1 52 yX1_may, Cond.instanceMethod yX1_may, Cond.selects RX1 yX1_may yX1_may, Cond.code yX1_may cX1_may 3 (some .boolean), Cond.methodLink RX1 38 yX1_counts, Cond.instanceMethod yX1_counts, Cond.selects RX1 yX1_counts yX1_counts, Cond.code yX1_counts cX1_counts 2 (some .int), Cond.methodLink RX1 46 yX1_lifted, Cond.instanceMethod yX1_lifted, Cond.selects RX1 yX1_lifted yX1_lifted]
def wsX1_wording_r3 : List Cond := [Cond.code yX1_lifted cX1_lifted 2 (some .int)]
def wsX1_wording : List Cond := .code yX1_wording cX1_wording 8 (some (.array .int)) :: ((wsX1_wording_r1 ++ (wsX1_wording_r2 ++ wsX1_wording_r3)) ++ wsX10)
def wsX1_isSame_r1 : List Cond := [Cond.fieldLink RX1 31 "TelegraphPricesLaw$Sim" "word" "[I", Cond.fieldLink RX1 49 "TelegraphPricesLaw$Sim" "words" "I", Cond.fieldLink RX1 7 "TelegraphPricesLaw$Sim" "limit" "I", Cond.fieldLink RX1 13 "TelegraphPricesLaw$Sim" "least" "I", Cond.fieldLink RX1 16 "TelegraphPricesLaw$Sim" "coins" "I", Cond.fieldLink RX1 102 "TelegraphPricesLaw$Sim" "sent" "I", Cond.fieldLink RX1 107 "TelegraphPricesLaw$Sim" "earned" "I", Cond.fieldLink RX1 28 "TelegraphPricesLaw$Sim" "join" "[[Z", Cond.fieldLink RX1 19 "TelegraphPricesLaw$Sim" "letters" "[I", Cond.fieldLink RX1 34 "TelegraphPricesLaw$Sim" "joined" "[Z", Cond.constantLong RX1 137 (1000000), Cond.methodLink RX1 75 yX0_words, Cond.instanceMethod yX0_words, Cond.selects RX0 yX0_words yX0_words, Cond.initialized RX0, Cond.code yX0_words cX0_words 1 (some .int), Cond.fieldLink RX0 19 "TelegraphPrices" "words" "I", Cond.methodLink RX1 79 yX0_limit, Cond.instanceMethod yX0_limit, Cond.selects RX0 yX0_limit yX0_limit, Cond.code yX0_limit cX0_limit 1 (some .int), Cond.fieldLink RX0 23 "TelegraphPrices" "limit" "I", Cond.methodLink RX1 81 yX0_leastCount, Cond.instanceMethod yX0_leastCount]
def wsX1_isSame_r2 : List Cond := [Cond.selects RX0 yX0_leastCount yX0_leastCount, Cond.code yX0_leastCount cX0_leastCount 1 (some .int), Cond.fieldLink RX0 26 "TelegraphPrices" "leastCount" "I", Cond.methodLink RX1 84 yX0_coins, Cond.instanceMethod yX0_coins, Cond.selects RX0 yX0_coins yX0_coins, Cond.code yX0_coins cX0_coins 1 (some .int), Cond.fieldLink RX0 29 "TelegraphPrices" "coins" "I", Cond.methodLink RX1 86 yX0_length, Cond.instanceMethod yX0_length, Cond.selects RX0 yX0_length yX0_length, Cond.code yX0_length cX0_length 1 (some .int), Cond.fieldLink RX0 39 "TelegraphPrices" "length" "I", Cond.methodLink RX1 89 yX0_count, Cond.instanceMethod yX0_count, Cond.selects RX0 yX0_count yX0_count, Cond.code yX0_count cX0_count 3 (some .int), Cond.fieldLink RX0 35 "TelegraphPrices" "joined" "[Z", Cond.fieldLink RX0 32 "TelegraphPrices" "telegram" "[I", Cond.fieldLink RX0 9 "TelegraphPrices" "letters" "[I", Cond.methodLink RX0 126 yX0_countOfPair, Cond.instanceMethod yX0_countOfPair, Cond.selects RX0 yX0_countOfPair yX0_countOfPair, Cond.code yX0_countOfPair cX0_countOfPair 3 (some .int)]
def wsX1_isSame_r3 : List Cond := [Cond.methodLink RX0 118 yX0_countOfLetters, Cond.instanceMethod yX0_countOfLetters, Cond.selects RX0 yX0_countOfLetters yX0_countOfLetters, Cond.code yX0_countOfLetters cX0_countOfLetters 2 (some .int), Cond.methodLink RX0 130 yX0_atLeastTheLeastCount, Cond.instanceMethod yX0_atLeastTheLeastCount, Cond.selects RX0 yX0_atLeastTheLeastCount yX0_atLeastTheLeastCount, Cond.code yX0_atLeastTheLeastCount cX0_atLeastTheLeastCount 2 (some .int), Cond.methodLink RX0 175 Lib.Math.max.name, Cond.static Lib.Math.max.name, Cond.initialized "java/lang/Math", Cond.code Lib.Math.max.name Lib.Math.max.code 2 (some .int), Cond.methodLink RX1 92 yX1_count, Cond.instanceMethod yX1_count, Cond.selects RX1 yX1_count yX1_count, Cond.initialized RX1, Cond.code yX1_count cX1_count 1 (some .int), Cond.methodLink RX1 42 yX1_sum, Cond.instanceMethod yX1_sum, Cond.selects RX1 yX1_sum yX1_sum, Cond.code yX1_sum cX1_sum 6 (some .int), Cond.methodLink RX1 38 yX1_counts, Cond.instanceMethod yX1_counts, Cond.selects RX1 yX1_counts yX1_counts]
def wsX1_isSame_r4 : List Cond := [Cond.code yX1_counts cX1_counts 2 (some .int), Cond.methodLink RX1 46 yX1_lifted, Cond.instanceMethod yX1_lifted, Cond.selects RX1 yX1_lifted yX1_lifted, Cond.code yX1_lifted cX1_lifted 2 (some .int), Cond.methodLink RX1 93 yX0_price, Cond.instanceMethod yX0_price, Cond.selects RX0 yX0_price yX0_price, Cond.code yX0_price cX0_price 1 (some .int), Cond.methodLink RX0 105 yX0_count, Cond.methodLink RX1 96 yX0_cheapestCount, Cond.instanceMethod yX0_cheapestCount, Cond.selects RX0 yX0_cheapestCount yX0_cheapestCount, Cond.code yX0_cheapestCount cX0_cheapestCount 1 (some .int), Cond.fieldLink RX0 51 "TelegraphPrices" "leastJoined" "[I", Cond.methodLink RX0 141 yX0_noteLeastCounts, Cond.instanceMethod yX0_noteLeastCounts, Cond.selects RX0 yX0_noteLeastCounts yX0_noteLeastCounts, Cond.code yX0_noteLeastCounts cX0_noteLeastCounts 3 none, Cond.fieldLink RX0 48 "TelegraphPrices" "leastAlone" "[I", Cond.constant RX0 151 (1000000), Cond.methodLink RX0 178 yX0_bestWordAt, Cond.instanceMethod yX0_bestWordAt, Cond.selects RX0 yX0_bestWordAt yX0_bestWordAt]
def wsX1_isSame_r5 : List Cond := [Cond.code yX0_bestWordAt cX0_bestWordAt 5 (some .int), Cond.methodLink RX0 184 yX0_mayHold, Cond.instanceMethod yX0_mayHold, Cond.selects RX0 yX0_mayHold yX0_mayHold, Cond.code yX0_mayHold cX0_mayHold 3 (some .boolean), Cond.fieldLink RX0 13 "TelegraphPrices" "standIns" "[I", Cond.methodLink RX0 84 yX0_hasBit, Cond.static yX0_hasBit, Cond.code yX0_hasBit cX0_hasBit 2 (some .boolean), Cond.methodLink RX0 181 yX0_bestPairAt, Cond.instanceMethod yX0_bestPairAt, Cond.selects RX0 yX0_bestPairAt yX0_bestPairAt, Cond.code yX0_bestPairAt cX0_bestPairAt 7 (some .int), Cond.fieldLink RX0 16 "TelegraphPrices" "joins" "[I", Cond.methodLink RX0 144 yX0_leastInAll, Cond.instanceMethod yX0_leastInAll, Cond.selects RX0 yX0_leastInAll yX0_leastInAll, Cond.code yX0_leastInAll cX0_leastInAll 4 (some .int), Cond.fieldLink RX0 57 "TelegraphPrices" "leastFrom" "[I", Cond.methodLink RX0 152 Lib.Math.min.name, Cond.static Lib.Math.min.name, Cond.code Lib.Math.min.name Lib.Math.min.code 2 (some .int), Cond.methodLink RX1 71 yX1_cheapest, Cond.instanceMethod yX1_cheapest]
def wsX1_isSame_r6 : List Cond := [Cond.selects RX1 yX1_cheapest yX1_cheapest, Cond.code yX1_cheapest cX1_cheapest 1 (some .int), Cond.methodLink RX1 62 yX1_upTo, Cond.instanceMethod yX1_upTo, Cond.selects RX1 yX1_upTo yX1_upTo, Cond.code yX1_upTo cX1_upTo 5 (some (.array .int)), Cond.arrayClass .int, Cond.methodLink RX1 56 Lib.Math.min.name, Cond.methodLink RX1 52 yX1_may, Cond.instanceMethod yX1_may, Cond.selects RX1 yX1_may yX1_may, Cond.code yX1_may cX1_may 3 (some .boolean), Cond.fieldLink RX1 25 "TelegraphPricesLaw$Sim" "stand" "[[Z", Cond.methodLink RX1 99 yX0_sent, Cond.instanceMethod yX0_sent, Cond.selects RX0 yX0_sent yX0_sent, Cond.code yX0_sent cX0_sent 1 (some .int), Cond.fieldLink RX0 42 "TelegraphPrices" "sent" "I", Cond.methodLink RX1 104 yX0_earned, Cond.instanceMethod yX0_earned, Cond.selects RX0 yX0_earned yX0_earned, Cond.code yX0_earned cX0_earned 1 (some .int), Cond.fieldLink RX0 45 "TelegraphPrices" "earned" "I", Cond.methodLink RX1 109 yX0_saves]
def wsX1_isSame_r7 : List Cond := [Cond.instanceMethod yX0_saves, Cond.selects RX0 yX0_saves yX0_saves, Cond.code yX0_saves cX0_saves 1 (some .int), Cond.methodLink RX0 138 yX0_price, Cond.methodLink RX0 148 yX0_cheapestCount, Cond.methodLink RX1 112 yX0_priceTo, Cond.instanceMethod yX0_priceTo, Cond.selects RX0 yX0_priceTo yX0_priceTo, Cond.code yX0_priceTo cX0_priceTo 2 (some .int), Cond.classLink RX0 133 "java/lang/IndexOutOfBoundsException", Cond.initialized "java/lang/IndexOutOfBoundsException", Cond.methodLink RX1 115 yX0_mayStandFor, Cond.instanceMethod yX0_mayStandFor, Cond.selects RX0 yX0_mayStandFor yX0_mayStandFor, Cond.code yX0_mayStandFor cX0_mayStandFor 3 (some .boolean), Cond.methodLink RX0 78 yX0_needWord, Cond.instanceMethod yX0_needWord, Cond.selects RX0 yX0_needWord yX0_needWord, Cond.code yX0_needWord cX0_needWord 2 none, Cond.methodLink RX1 118 yX0_mayJoin, Cond.instanceMethod yX0_mayJoin, Cond.selects RX0 yX0_mayJoin yX0_mayJoin, Cond.code yX0_mayJoin cX0_mayJoin 3 (some .boolean), Cond.methodLink RX1 121 yX0_lettersOf]
def wsX1_isSame_r8 : List Cond := [Cond.instanceMethod yX0_lettersOf, Cond.selects RX0 yX0_lettersOf yX0_lettersOf, Cond.code yX0_lettersOf cX0_lettersOf 2 (some .int), Cond.methodLink RX1 124 yX0_countOf, Cond.instanceMethod yX0_countOf, Cond.selects RX0 yX0_countOf yX0_countOf, Cond.code yX0_countOf cX0_countOf 2 (some .int), Cond.methodLink RX1 127 yX0_standInsOf, Cond.instanceMethod yX0_standInsOf, Cond.selects RX0 yX0_standInsOf yX0_standInsOf, Cond.code yX0_standInsOf cX0_standInsOf 2 (some .int), Cond.methodLink RX0 121 yJ6_bitCount_0f7a4, Cond.static yJ6_bitCount_0f7a4, Cond.initialized RJ6, Cond.code yJ6_bitCount_0f7a4 cJ6_bitCount_0f7a4 1 (some .int), Cond.constant RJ6 265 (1431655765), Cond.constant RJ6 266 (858993459), Cond.constant RJ6 267 (252645135), Cond.methodLink RX1 130 yX0_wordAt, Cond.instanceMethod yX0_wordAt, Cond.selects RX0 yX0_wordAt yX0_wordAt, Cond.code yX0_wordAt cX0_wordAt 2 (some .int), Cond.methodLink RX0 96 yX0_needPlace, Cond.instanceMethod yX0_needPlace]
def wsX1_isSame_r9 : List Cond := [Cond.selects RX0 yX0_needPlace yX0_needPlace, Cond.code yX0_needPlace cX0_needPlace 2 none, Cond.methodLink RX1 133 yX0_isJoined, Cond.instanceMethod yX0_isJoined, Cond.selects RX0 yX0_isJoined yX0_isJoined, Cond.code yX0_isJoined cX0_isJoined 2 (some .boolean), Cond.methodLink RX1 139 yX0_wordings, Cond.instanceMethod yX0_wordings, Cond.selects RX0 yX0_wordings yX0_wordings, Cond.code yX0_wordings cX0_wordings 3 (some .int), Cond.methodLink RX1 142 yX0_meanCost, Cond.instanceMethod yX0_meanCost, Cond.selects RX0 yX0_meanCost yX0_meanCost, Cond.code yX0_meanCost cX0_meanCost 1 (some .double)]
def wsX1_isSame : List Cond := .code yX1_isSame cX1_isSame 6 (some .boolean) :: ((wsX1_isSame_r1 ++ (wsX1_isSame_r2 ++ (wsX1_isSame_r3 ++ (wsX1_isSame_r4 ++ (wsX1_isSame_r5 ++ (wsX1_isSame_r6 ++ (wsX1_isSame_r7 ++ (wsX1_isSame_r8 ++ wsX1_isSame_r9)))))))) ++ wsX10 ++ wsX00 ++ (vx_atS RX0 137 "java/lang/IndexOutOfBoundsException" ["java/lang/RuntimeException", "java/lang/Exception"]).filter goodWord)
def wsJ9_max_7cf53 : List Cond := .code yJ9_max_7cf53 cJ9_max_7cf53 2 (some .int) :: ([])
def wsJ9_min_7cf53 : List Cond := .code yJ9_min_7cf53 cJ9_min_7cf53 2 (some .int) :: ([])
def wsJ9_min_f86c9 : List Cond := .code yJ9_min_f86c9 cJ9_min_f86c9 4 (some .long) :: ([])
def wsL_below : List Cond := .code yL_below cL_below 2 (some .int) :: ([.constant RL 7 (2147483647)])
def wsL_cell : List Cond := .code yL_cell cL_cell 2 (some .int) :: ([.constant RL 8 (790386105)])
def wsL_act_r1 : List Cond := [Cond.fieldLink RL 9 "TelegraphPricesLaw$Sim" "word" "[I", Cond.fieldLink RL 21 "TelegraphPricesLaw$Sim" "words" "I", Cond.fieldLink RL 25 "TelegraphPricesLaw$Sim" "letters" "[I", Cond.fieldLink RL 34 "TelegraphPricesLaw$Sim" "stand" "[[Z", Cond.fieldLink RL 42 "TelegraphPricesLaw$Sim" "join" "[[Z", Cond.fieldLink RL 48 "TelegraphPricesLaw$Sim" "limit" "I", Cond.fieldLink RL 54 "TelegraphPricesLaw$Sim" "least" "I", Cond.fieldLink RL 60 "TelegraphPricesLaw$Sim" "coins" "I", Cond.arrayClass .int, Cond.arrayClass .boolean, Cond.fieldLink RL 66 "TelegraphPricesLaw$Sim" "joined" "[Z", Cond.fieldLink RL 88 "TelegraphPricesLaw$Sim" "sent" "I", Cond.fieldLink RL 91 "TelegraphPricesLaw$Sim" "earned" "I", Cond.methodLink RL 15 yL_below, Cond.static yL_below, Cond.initialized RL, Cond.code yL_below cL_below 2 (some .int), Cond.constant RL 7 (2147483647), Cond.methodLink RL 28 yX0_addWord, Cond.instanceMethod yX0_addWord, Cond.selects RX0 yX0_addWord yX0_addWord, Cond.initialized RX0, Cond.code yX0_addWord cX0_addWord 3 (some .int), Cond.classLink RX0 66 "java/lang/IllegalArgumentException"]
def wsL_act_r2 : List Cond := [Cond.initialized "java/lang/IllegalArgumentException", Cond.classLink RX0 73 "java/lang/IllegalStateException", Cond.initialized "java/lang/IllegalStateException", Cond.fieldLink RX0 19 "TelegraphPrices" "words" "I", Cond.fieldLink RX0 9 "TelegraphPrices" "letters" "[I", Cond.fieldLink RX0 13 "TelegraphPrices" "standIns" "[I", Cond.fieldLink RX0 16 "TelegraphPrices" "joins" "[I", Cond.methodLink RL 38 yX0_turnStandIn, Cond.instanceMethod yX0_turnStandIn, Cond.selects RX0 yX0_turnStandIn yX0_turnStandIn, Cond.code yX0_turnStandIn cX0_turnStandIn 3 (some .boolean), Cond.methodLink RX0 78 yX0_needWord, Cond.instanceMethod yX0_needWord, Cond.selects RX0 yX0_needWord yX0_needWord, Cond.code yX0_needWord cX0_needWord 2 none, Cond.classLink RX0 133 "java/lang/IndexOutOfBoundsException", Cond.initialized "java/lang/IndexOutOfBoundsException", Cond.methodLink RX0 84 yX0_hasBit, Cond.static yX0_hasBit, Cond.code yX0_hasBit cX0_hasBit 2 (some .boolean), Cond.methodLink RL 45 yX0_turnJoin, Cond.instanceMethod yX0_turnJoin, Cond.selects RX0 yX0_turnJoin yX0_turnJoin, Cond.code yX0_turnJoin cX0_turnJoin 3 (some .boolean)]
def wsL_act_r3 : List Cond := [Cond.methodLink RL 51 yX0_setLimit, Cond.instanceMethod yX0_setLimit, Cond.selects RX0 yX0_setLimit yX0_setLimit, Cond.code yX0_setLimit cX0_setLimit 3 (some .int), Cond.fieldLink RX0 23 "TelegraphPrices" "limit" "I", Cond.methodLink RL 57 yX0_setLeastCount, Cond.instanceMethod yX0_setLeastCount, Cond.selects RX0 yX0_setLeastCount yX0_setLeastCount, Cond.code yX0_setLeastCount cX0_setLeastCount 3 (some .int), Cond.fieldLink RX0 26 "TelegraphPrices" "leastCount" "I", Cond.methodLink RL 63 yX0_setCoins, Cond.instanceMethod yX0_setCoins, Cond.selects RX0 yX0_setCoins yX0_setCoins, Cond.code yX0_setCoins cX0_setCoins 3 (some .int), Cond.fieldLink RX0 29 "TelegraphPrices" "coins" "I", Cond.methodLink RL 70 yX0_strike, Cond.instanceMethod yX0_strike, Cond.selects RX0 yX0_strike yX0_strike, Cond.code yX0_strike cX0_strike 3 (some .int), Cond.fieldLink RX0 35 "TelegraphPrices" "joined" "[Z", Cond.fieldLink RX0 39 "TelegraphPrices" "length" "I", Cond.fieldLink RX0 32 "TelegraphPrices" "telegram" "[I", Cond.methodLink RX0 96 yX0_needPlace, Cond.instanceMethod yX0_needPlace]
def wsL_act_r4 : List Cond := [Cond.selects RX0 yX0_needPlace yX0_needPlace, Cond.code yX0_needPlace cX0_needPlace 2 none, Cond.methodLink RL 73 yX0_turnJoined, Cond.instanceMethod yX0_turnJoined, Cond.selects RX0 yX0_turnJoined yX0_turnJoined, Cond.code yX0_turnJoined cX0_turnJoined 2 (some .boolean), Cond.methodLink RX0 99 yX0_couldBeJoined, Cond.instanceMethod yX0_couldBeJoined, Cond.selects RX0 yX0_couldBeJoined yX0_couldBeJoined, Cond.code yX0_couldBeJoined cX0_couldBeJoined 3 (some .boolean), Cond.methodLink RL 77 yX1_count, Cond.instanceMethod yX1_count, Cond.selects RX1 yX1_count yX1_count, Cond.initialized RX1, Cond.code yX1_count cX1_count 1 (some .int), Cond.fieldLink RX1 31 "TelegraphPricesLaw$Sim" "word" "[I", Cond.fieldLink RX1 34 "TelegraphPricesLaw$Sim" "joined" "[Z", Cond.methodLink RX1 42 yX1_sum, Cond.instanceMethod yX1_sum, Cond.selects RX1 yX1_sum yX1_sum, Cond.code yX1_sum cX1_sum 6 (some .int), Cond.fieldLink RX1 19 "TelegraphPricesLaw$Sim" "letters" "[I", Cond.methodLink RX1 38 yX1_counts, Cond.instanceMethod yX1_counts]
def wsL_act_r5 : List Cond := [Cond.selects RX1 yX1_counts yX1_counts, Cond.code yX1_counts cX1_counts 2 (some .int), Cond.fieldLink RX1 7 "TelegraphPricesLaw$Sim" "limit" "I", Cond.methodLink RX1 46 yX1_lifted, Cond.instanceMethod yX1_lifted, Cond.selects RX1 yX1_lifted yX1_lifted, Cond.code yX1_lifted cX1_lifted 2 (some .int), Cond.fieldLink RX1 13 "TelegraphPricesLaw$Sim" "least" "I", Cond.methodLink RL 81 yX1_wording, Cond.instanceMethod yX1_wording, Cond.selects RX1 yX1_wording yX1_wording, Cond.code yX1_wording cX1_wording 8 (some (.array .int)), Cond.fieldLink RX1 49 "TelegraphPricesLaw$Sim" "words" "I", Cond.fieldLink RX1 28 "TelegraphPricesLaw$Sim" "join" "[[Z", Cond.methodLink RX1 67 yX1_rest, Cond.instanceMethod yX1_rest, Cond.selects RX1 yX1_rest yX1_rest, Cond.code yX1_rest cX1_rest 5 (some (.object "TelegraphPricesLaw$Sim")), Cond.classLink RX1 8 RX1, Cond.instantiable RX1 11, Cond.fieldLink RX1 25 "TelegraphPricesLaw$Sim" "stand" "[[Z", Cond.methodLink RX1 66 yX1_init, Cond.instanceMethod yX1_init, Cond.code yX1_init cX1_init 1 none]
def wsL_act_r6 : List Cond := [Cond.methodLink RX1 1 objectInit, Cond.instanceMethod objectInit, Cond.code objectInit ⟨#[0xb1]⟩ 1 none, Cond.fieldLink RX1 16 "TelegraphPricesLaw$Sim" "coins" "I", Cond.classLink RX1 23 "[[Z", Cond.methodLink RX1 71 yX1_cheapest, Cond.instanceMethod yX1_cheapest, Cond.selects RX1 yX1_cheapest yX1_cheapest, Cond.code yX1_cheapest cX1_cheapest 1 (some .int), Cond.methodLink RX1 62 yX1_upTo, Cond.instanceMethod yX1_upTo, Cond.selects RX1 yX1_upTo yX1_upTo, Cond.code yX1_upTo cX1_upTo 5 (some (.array .int)), Cond.methodLink RX1 56 Lib.Math.min.name, Cond.static Lib.Math.min.name, Cond.initialized "java/lang/Math", Cond.code Lib.Math.min.name Lib.Math.min.code 2 (some .int), Cond.methodLink RX1 52 yX1_may, Cond.instanceMethod yX1_may, Cond.selects RX1 yX1_may yX1_may, Cond.code yX1_may cX1_may 3 (some .boolean), Cond.methodLink RL 85 yX0_reword, Cond.instanceMethod yX0_reword, Cond.selects RX0 yX0_reword yX0_reword]
def wsL_act_r7 : List Cond := [Cond.code yX0_reword cX0_reword 3 (some .int), Cond.fieldLink RX0 60 "TelegraphPrices" "cheapestWords" "[I", Cond.fieldLink RX0 63 "TelegraphPrices" "cheapestJoined" "[Z", Cond.methodLink RX0 105 yX0_count, Cond.instanceMethod yX0_count, Cond.selects RX0 yX0_count yX0_count, Cond.code yX0_count cX0_count 3 (some .int), Cond.methodLink RX0 126 yX0_countOfPair, Cond.instanceMethod yX0_countOfPair, Cond.selects RX0 yX0_countOfPair yX0_countOfPair, Cond.code yX0_countOfPair cX0_countOfPair 3 (some .int), Cond.methodLink RX0 118 yX0_countOfLetters, Cond.instanceMethod yX0_countOfLetters, Cond.selects RX0 yX0_countOfLetters yX0_countOfLetters, Cond.code yX0_countOfLetters cX0_countOfLetters 2 (some .int), Cond.methodLink RX0 130 yX0_atLeastTheLeastCount, Cond.instanceMethod yX0_atLeastTheLeastCount, Cond.selects RX0 yX0_atLeastTheLeastCount yX0_atLeastTheLeastCount, Cond.code yX0_atLeastTheLeastCount cX0_atLeastTheLeastCount 2 (some .int), Cond.methodLink RX0 175 Lib.Math.max.name, Cond.static Lib.Math.max.name, Cond.code Lib.Math.max.name Lib.Math.max.code 2 (some .int), Cond.methodLink RX0 109 yX0_noteCheapestWording, Cond.instanceMethod yX0_noteCheapestWording]
def wsL_act_r8 : List Cond := [Cond.selects RX0 yX0_noteCheapestWording yX0_noteCheapestWording, Cond.code yX0_noteCheapestWording cX0_noteCheapestWording 3 none, Cond.fieldLink RX0 51 "TelegraphPrices" "leastJoined" "[I", Cond.fieldLink RX0 48 "TelegraphPrices" "leastAlone" "[I", Cond.fieldLink RX0 57 "TelegraphPrices" "leastFrom" "[I", Cond.methodLink RX0 141 yX0_noteLeastCounts, Cond.instanceMethod yX0_noteLeastCounts, Cond.selects RX0 yX0_noteLeastCounts yX0_noteLeastCounts, Cond.code yX0_noteLeastCounts cX0_noteLeastCounts 3 none, Cond.constant RX0 151 (1000000), Cond.methodLink RX0 178 yX0_bestWordAt, Cond.instanceMethod yX0_bestWordAt, Cond.selects RX0 yX0_bestWordAt yX0_bestWordAt, Cond.code yX0_bestWordAt cX0_bestWordAt 5 (some .int), Cond.methodLink RX0 184 yX0_mayHold, Cond.instanceMethod yX0_mayHold, Cond.selects RX0 yX0_mayHold yX0_mayHold, Cond.code yX0_mayHold cX0_mayHold 3 (some .boolean), Cond.methodLink RX0 181 yX0_bestPairAt, Cond.instanceMethod yX0_bestPairAt, Cond.selects RX0 yX0_bestPairAt yX0_bestPairAt, Cond.code yX0_bestPairAt cX0_bestPairAt 7 (some .int), Cond.methodLink RX0 144 yX0_leastInAll, Cond.instanceMethod yX0_leastInAll]
def wsL_act_r9 : List Cond := [Cond.selects RX0 yX0_leastInAll yX0_leastInAll, Cond.code yX0_leastInAll cX0_leastInAll 4 (some .int), Cond.methodLink RX0 152 Lib.Math.min.name, Cond.methodLink RX0 187 yX0_noteCheapestAt, Cond.instanceMethod yX0_noteCheapestAt, Cond.selects RX0 yX0_noteCheapestAt yX0_noteCheapestAt, Cond.code yX0_noteCheapestAt cX0_noteCheapestAt 4 none, Cond.methodLink RL 94 yX0_send, Cond.instanceMethod yX0_send, Cond.selects RX0 yX0_send yX0_send, Cond.code yX0_send cX0_send 3 (some .int), Cond.fieldLink RX0 42 "TelegraphPrices" "sent" "I", Cond.fieldLink RX0 45 "TelegraphPrices" "earned" "I", Cond.methodLink RX0 112 yX0_priceTo, Cond.instanceMethod yX0_priceTo, Cond.selects RX0 yX0_priceTo yX0_priceTo, Cond.code yX0_priceTo cX0_priceTo 2 (some .int), Cond.methodLink RX0 138 yX0_price, Cond.instanceMethod yX0_price, Cond.selects RX0 yX0_price yX0_price, Cond.code yX0_price cX0_price 1 (some .int), Cond.methodLink RL 97 yX0_write, Cond.instanceMethod yX0_write, Cond.selects RX0 yX0_write yX0_write]
def wsL_act_r10 : List Cond := [Cond.code yX0_write cX0_write 2 (some .int)]
def wsL_act : List Cond := .code yL_act cL_act 20 (some .boolean) :: ((wsL_act_r1 ++ (wsL_act_r2 ++ (wsL_act_r3 ++ (wsL_act_r4 ++ (wsL_act_r5 ++ (wsL_act_r6 ++ (wsL_act_r7 ++ (wsL_act_r8 ++ (wsL_act_r9 ++ wsL_act_r10))))))))) ++ wsX10 ++ wsX00 ++ (vx_atS RX0 70 "java/lang/IllegalArgumentException" ["java/lang/RuntimeException", "java/lang/Exception"]).filter goodWord ++ (vx_atS RX0 77 "java/lang/IllegalStateException" ["java/lang/RuntimeException", "java/lang/Exception"]).filter goodWord ++ (vx_atS RX0 137 "java/lang/IndexOutOfBoundsException" ["java/lang/RuntimeException", "java/lang/Exception"]).filter goodWord)
def wsL_build_r1 : List Cond := [Cond.classLink RL 10 RX1, Cond.instantiable RX1 11, Cond.initialized RX1, Cond.instanceMethod yX1_init, Cond.code yX1_init cX1_init 1 none, Cond.methodLink RX1 1 objectInit, Cond.instanceMethod objectInit, Cond.code objectInit ⟨#[0xb1]⟩ 1 none, Cond.fieldLink RX1 7 "TelegraphPricesLaw$Sim" "limit" "I", Cond.fieldLink RX1 13 "TelegraphPricesLaw$Sim" "least" "I", Cond.fieldLink RX1 16 "TelegraphPricesLaw$Sim" "coins" "I", Cond.arrayClass .int, Cond.fieldLink RX1 19 "TelegraphPricesLaw$Sim" "letters" "[I", Cond.classLink RX1 23 "[[Z", Cond.arrayClass .boolean, Cond.fieldLink RX1 25 "TelegraphPricesLaw$Sim" "stand" "[[Z", Cond.fieldLink RX1 28 "TelegraphPricesLaw$Sim" "join" "[[Z", Cond.fieldLink RX1 31 "TelegraphPricesLaw$Sim" "word" "[I", Cond.fieldLink RX1 34 "TelegraphPricesLaw$Sim" "joined" "[Z", Cond.methodLink RL 101 yL_cell, Cond.static yL_cell, Cond.initialized RL, Cond.code yL_cell cL_cell 2 (some .int), Cond.constant RL 8 (790386105)]
def wsL_build_r2 : List Cond := [Cond.methodLink RL 15 yL_below, Cond.static yL_below, Cond.code yL_below cL_below 2 (some .int), Cond.constant RL 7 (2147483647), Cond.methodLink RL 105 yL_act, Cond.static yL_act, Cond.code yL_act cL_act 20 (some .boolean), Cond.fieldLink RL 9 "TelegraphPricesLaw$Sim" "word" "[I", Cond.fieldLink RL 21 "TelegraphPricesLaw$Sim" "words" "I", Cond.fieldLink RL 25 "TelegraphPricesLaw$Sim" "letters" "[I", Cond.fieldLink RL 34 "TelegraphPricesLaw$Sim" "stand" "[[Z", Cond.fieldLink RL 42 "TelegraphPricesLaw$Sim" "join" "[[Z", Cond.fieldLink RL 48 "TelegraphPricesLaw$Sim" "limit" "I", Cond.fieldLink RL 54 "TelegraphPricesLaw$Sim" "least" "I", Cond.fieldLink RL 60 "TelegraphPricesLaw$Sim" "coins" "I", Cond.fieldLink RL 66 "TelegraphPricesLaw$Sim" "joined" "[Z", Cond.fieldLink RL 88 "TelegraphPricesLaw$Sim" "sent" "I", Cond.fieldLink RL 91 "TelegraphPricesLaw$Sim" "earned" "I", Cond.methodLink RL 28 yX0_addWord, Cond.instanceMethod yX0_addWord, Cond.selects RX0 yX0_addWord yX0_addWord, Cond.initialized RX0, Cond.code yX0_addWord cX0_addWord 3 (some .int), Cond.classLink RX0 66 "java/lang/IllegalArgumentException"]
def wsL_build_r3 : List Cond := [Cond.initialized "java/lang/IllegalArgumentException", Cond.classLink RX0 73 "java/lang/IllegalStateException", Cond.initialized "java/lang/IllegalStateException", Cond.fieldLink RX0 19 "TelegraphPrices" "words" "I", Cond.fieldLink RX0 9 "TelegraphPrices" "letters" "[I", Cond.fieldLink RX0 13 "TelegraphPrices" "standIns" "[I", Cond.fieldLink RX0 16 "TelegraphPrices" "joins" "[I", Cond.methodLink RL 38 yX0_turnStandIn, Cond.instanceMethod yX0_turnStandIn, Cond.selects RX0 yX0_turnStandIn yX0_turnStandIn, Cond.code yX0_turnStandIn cX0_turnStandIn 3 (some .boolean), Cond.methodLink RX0 78 yX0_needWord, Cond.instanceMethod yX0_needWord, Cond.selects RX0 yX0_needWord yX0_needWord, Cond.code yX0_needWord cX0_needWord 2 none, Cond.classLink RX0 133 "java/lang/IndexOutOfBoundsException", Cond.initialized "java/lang/IndexOutOfBoundsException", Cond.methodLink RX0 84 yX0_hasBit, Cond.static yX0_hasBit, Cond.code yX0_hasBit cX0_hasBit 2 (some .boolean), Cond.methodLink RL 45 yX0_turnJoin, Cond.instanceMethod yX0_turnJoin, Cond.selects RX0 yX0_turnJoin yX0_turnJoin, Cond.code yX0_turnJoin cX0_turnJoin 3 (some .boolean)]
def wsL_build_r4 : List Cond := [Cond.methodLink RL 51 yX0_setLimit, Cond.instanceMethod yX0_setLimit, Cond.selects RX0 yX0_setLimit yX0_setLimit, Cond.code yX0_setLimit cX0_setLimit 3 (some .int), Cond.fieldLink RX0 23 "TelegraphPrices" "limit" "I", Cond.methodLink RL 57 yX0_setLeastCount, Cond.instanceMethod yX0_setLeastCount, Cond.selects RX0 yX0_setLeastCount yX0_setLeastCount, Cond.code yX0_setLeastCount cX0_setLeastCount 3 (some .int), Cond.fieldLink RX0 26 "TelegraphPrices" "leastCount" "I", Cond.methodLink RL 63 yX0_setCoins, Cond.instanceMethod yX0_setCoins, Cond.selects RX0 yX0_setCoins yX0_setCoins, Cond.code yX0_setCoins cX0_setCoins 3 (some .int), Cond.fieldLink RX0 29 "TelegraphPrices" "coins" "I", Cond.methodLink RL 70 yX0_strike, Cond.instanceMethod yX0_strike, Cond.selects RX0 yX0_strike yX0_strike, Cond.code yX0_strike cX0_strike 3 (some .int), Cond.fieldLink RX0 35 "TelegraphPrices" "joined" "[Z", Cond.fieldLink RX0 39 "TelegraphPrices" "length" "I", Cond.fieldLink RX0 32 "TelegraphPrices" "telegram" "[I", Cond.methodLink RX0 96 yX0_needPlace, Cond.instanceMethod yX0_needPlace]
def wsL_build_r5 : List Cond := [Cond.selects RX0 yX0_needPlace yX0_needPlace, Cond.code yX0_needPlace cX0_needPlace 2 none, Cond.methodLink RL 73 yX0_turnJoined, Cond.instanceMethod yX0_turnJoined, Cond.selects RX0 yX0_turnJoined yX0_turnJoined, Cond.code yX0_turnJoined cX0_turnJoined 2 (some .boolean), Cond.methodLink RX0 99 yX0_couldBeJoined, Cond.instanceMethod yX0_couldBeJoined, Cond.selects RX0 yX0_couldBeJoined yX0_couldBeJoined, Cond.code yX0_couldBeJoined cX0_couldBeJoined 3 (some .boolean), Cond.methodLink RL 77 yX1_count, Cond.instanceMethod yX1_count, Cond.selects RX1 yX1_count yX1_count, Cond.code yX1_count cX1_count 1 (some .int), Cond.methodLink RX1 42 yX1_sum, Cond.instanceMethod yX1_sum, Cond.selects RX1 yX1_sum yX1_sum, Cond.code yX1_sum cX1_sum 6 (some .int), Cond.methodLink RX1 38 yX1_counts, Cond.instanceMethod yX1_counts, Cond.selects RX1 yX1_counts yX1_counts, Cond.code yX1_counts cX1_counts 2 (some .int), Cond.methodLink RX1 46 yX1_lifted, Cond.instanceMethod yX1_lifted]
def wsL_build_r6 : List Cond := [Cond.selects RX1 yX1_lifted yX1_lifted, Cond.code yX1_lifted cX1_lifted 2 (some .int), Cond.methodLink RL 81 yX1_wording, Cond.instanceMethod yX1_wording, Cond.selects RX1 yX1_wording yX1_wording, Cond.code yX1_wording cX1_wording 8 (some (.array .int)), Cond.fieldLink RX1 49 "TelegraphPricesLaw$Sim" "words" "I", Cond.methodLink RX1 67 yX1_rest, Cond.instanceMethod yX1_rest, Cond.selects RX1 yX1_rest yX1_rest, Cond.code yX1_rest cX1_rest 5 (some (.object "TelegraphPricesLaw$Sim")), Cond.classLink RX1 8 RX1, Cond.methodLink RX1 66 yX1_init, Cond.methodLink RX1 71 yX1_cheapest, Cond.instanceMethod yX1_cheapest, Cond.selects RX1 yX1_cheapest yX1_cheapest, Cond.code yX1_cheapest cX1_cheapest 1 (some .int), Cond.methodLink RX1 62 yX1_upTo, Cond.instanceMethod yX1_upTo, Cond.selects RX1 yX1_upTo yX1_upTo, Cond.code yX1_upTo cX1_upTo 5 (some (.array .int)), Cond.methodLink RX1 56 Lib.Math.min.name, Cond.static Lib.Math.min.name, Cond.initialized "java/lang/Math"]
def wsL_build_r7 : List Cond := [Cond.code Lib.Math.min.name Lib.Math.min.code 2 (some .int), Cond.methodLink RX1 52 yX1_may, Cond.instanceMethod yX1_may, Cond.selects RX1 yX1_may yX1_may, Cond.code yX1_may cX1_may 3 (some .boolean), Cond.methodLink RL 85 yX0_reword, Cond.instanceMethod yX0_reword, Cond.selects RX0 yX0_reword yX0_reword, Cond.code yX0_reword cX0_reword 3 (some .int), Cond.fieldLink RX0 60 "TelegraphPrices" "cheapestWords" "[I", Cond.fieldLink RX0 63 "TelegraphPrices" "cheapestJoined" "[Z", Cond.methodLink RX0 105 yX0_count, Cond.instanceMethod yX0_count, Cond.selects RX0 yX0_count yX0_count, Cond.code yX0_count cX0_count 3 (some .int), Cond.methodLink RX0 126 yX0_countOfPair, Cond.instanceMethod yX0_countOfPair, Cond.selects RX0 yX0_countOfPair yX0_countOfPair, Cond.code yX0_countOfPair cX0_countOfPair 3 (some .int), Cond.methodLink RX0 118 yX0_countOfLetters, Cond.instanceMethod yX0_countOfLetters, Cond.selects RX0 yX0_countOfLetters yX0_countOfLetters, Cond.code yX0_countOfLetters cX0_countOfLetters 2 (some .int), Cond.methodLink RX0 130 yX0_atLeastTheLeastCount]
def wsL_build_r8 : List Cond := [Cond.instanceMethod yX0_atLeastTheLeastCount, Cond.selects RX0 yX0_atLeastTheLeastCount yX0_atLeastTheLeastCount, Cond.code yX0_atLeastTheLeastCount cX0_atLeastTheLeastCount 2 (some .int), Cond.methodLink RX0 175 Lib.Math.max.name, Cond.static Lib.Math.max.name, Cond.code Lib.Math.max.name Lib.Math.max.code 2 (some .int), Cond.methodLink RX0 109 yX0_noteCheapestWording, Cond.instanceMethod yX0_noteCheapestWording, Cond.selects RX0 yX0_noteCheapestWording yX0_noteCheapestWording, Cond.code yX0_noteCheapestWording cX0_noteCheapestWording 3 none, Cond.fieldLink RX0 51 "TelegraphPrices" "leastJoined" "[I", Cond.fieldLink RX0 48 "TelegraphPrices" "leastAlone" "[I", Cond.fieldLink RX0 57 "TelegraphPrices" "leastFrom" "[I", Cond.methodLink RX0 141 yX0_noteLeastCounts, Cond.instanceMethod yX0_noteLeastCounts, Cond.selects RX0 yX0_noteLeastCounts yX0_noteLeastCounts, Cond.code yX0_noteLeastCounts cX0_noteLeastCounts 3 none, Cond.constant RX0 151 (1000000), Cond.methodLink RX0 178 yX0_bestWordAt, Cond.instanceMethod yX0_bestWordAt, Cond.selects RX0 yX0_bestWordAt yX0_bestWordAt, Cond.code yX0_bestWordAt cX0_bestWordAt 5 (some .int), Cond.methodLink RX0 184 yX0_mayHold, Cond.instanceMethod yX0_mayHold]
def wsL_build_r9 : List Cond := [Cond.selects RX0 yX0_mayHold yX0_mayHold, Cond.code yX0_mayHold cX0_mayHold 3 (some .boolean), Cond.methodLink RX0 181 yX0_bestPairAt, Cond.instanceMethod yX0_bestPairAt, Cond.selects RX0 yX0_bestPairAt yX0_bestPairAt, Cond.code yX0_bestPairAt cX0_bestPairAt 7 (some .int), Cond.methodLink RX0 144 yX0_leastInAll, Cond.instanceMethod yX0_leastInAll, Cond.selects RX0 yX0_leastInAll yX0_leastInAll, Cond.code yX0_leastInAll cX0_leastInAll 4 (some .int), Cond.methodLink RX0 152 Lib.Math.min.name, Cond.methodLink RX0 187 yX0_noteCheapestAt, Cond.instanceMethod yX0_noteCheapestAt, Cond.selects RX0 yX0_noteCheapestAt yX0_noteCheapestAt, Cond.code yX0_noteCheapestAt cX0_noteCheapestAt 4 none, Cond.methodLink RL 94 yX0_send, Cond.instanceMethod yX0_send, Cond.selects RX0 yX0_send yX0_send, Cond.code yX0_send cX0_send 3 (some .int), Cond.fieldLink RX0 42 "TelegraphPrices" "sent" "I", Cond.fieldLink RX0 45 "TelegraphPrices" "earned" "I", Cond.methodLink RX0 112 yX0_priceTo, Cond.instanceMethod yX0_priceTo, Cond.selects RX0 yX0_priceTo yX0_priceTo]
def wsL_build_r10 : List Cond := [Cond.code yX0_priceTo cX0_priceTo 2 (some .int), Cond.methodLink RX0 138 yX0_price, Cond.instanceMethod yX0_price, Cond.selects RX0 yX0_price yX0_price, Cond.code yX0_price cX0_price 1 (some .int), Cond.methodLink RL 97 yX0_write, Cond.instanceMethod yX0_write, Cond.selects RX0 yX0_write yX0_write, Cond.code yX0_write cX0_write 2 (some .int)]
def wsL_build : List Cond := .code yL_build cL_build 5 (some (.object "TelegraphPricesLaw$Sim")) :: ((wsL_build_r1 ++ (wsL_build_r2 ++ (wsL_build_r3 ++ (wsL_build_r4 ++ (wsL_build_r5 ++ (wsL_build_r6 ++ (wsL_build_r7 ++ (wsL_build_r8 ++ (wsL_build_r9 ++ wsL_build_r10))))))))) ++ wsX10 ++ wsX00 ++ (vx_atS RX0 70 "java/lang/IllegalArgumentException" ["java/lang/RuntimeException", "java/lang/Exception"]).filter goodWord ++ (vx_atS RX0 77 "java/lang/IllegalStateException" ["java/lang/RuntimeException", "java/lang/Exception"]).filter goodWord ++ (vx_atS RX0 137 "java/lang/IndexOutOfBoundsException" ["java/lang/RuntimeException", "java/lang/Exception"]).filter goodWord)
def wsL_law0_r1 : List Cond := [Cond.classLink RL 29 RX0, Cond.instantiable RX0 18, Cond.initialized RX0, Cond.constantLong RL 141 (1000000), Cond.methodLink RL 143 Lib.MathLoose.min_long.x, Cond.static Lib.MathLoose.min_long.x, Cond.initialized "java/lang/Math", Cond.code Lib.MathLoose.min_long.x Lib.MathLoose.min_long.code 4 (some .long), Cond.methodLink RL 162 Lib.Math.max.name, Cond.static Lib.Math.max.name, Cond.code Lib.Math.max.name Lib.Math.max.code 2 (some .int), Cond.arrayClass .int, Cond.fieldLink RL 9 "TelegraphPricesLaw$Sim" "word" "[I", Cond.arrayClass .boolean, Cond.fieldLink RL 66 "TelegraphPricesLaw$Sim" "joined" "[Z", Cond.fieldLink RL 88 "TelegraphPricesLaw$Sim" "sent" "I", Cond.fieldLink RL 91 "TelegraphPricesLaw$Sim" "earned" "I", Cond.methodLink RL 109 yX0_init, Cond.instanceMethod yX0_init, Cond.code yX0_init cX0_init 1 none, Cond.methodLink RX0 1 objectInit, Cond.instanceMethod objectInit, Cond.code objectInit ⟨#[0xb1]⟩ 1 none, Cond.fieldLink RX0 9 "TelegraphPrices" "letters" "[I"]
def wsL_law0_r2 : List Cond := [Cond.fieldLink RX0 13 "TelegraphPrices" "standIns" "[I", Cond.fieldLink RX0 16 "TelegraphPrices" "joins" "[I", Cond.fieldLink RX0 19 "TelegraphPrices" "words" "I", Cond.fieldLink RX0 23 "TelegraphPrices" "limit" "I", Cond.fieldLink RX0 26 "TelegraphPrices" "leastCount" "I", Cond.fieldLink RX0 29 "TelegraphPrices" "coins" "I", Cond.fieldLink RX0 32 "TelegraphPrices" "telegram" "[I", Cond.fieldLink RX0 35 "TelegraphPrices" "joined" "[Z", Cond.fieldLink RX0 39 "TelegraphPrices" "length" "I", Cond.fieldLink RX0 42 "TelegraphPrices" "sent" "I", Cond.fieldLink RX0 45 "TelegraphPrices" "earned" "I", Cond.fieldLink RX0 48 "TelegraphPrices" "leastAlone" "[I", Cond.fieldLink RX0 51 "TelegraphPrices" "leastJoined" "[I", Cond.fieldLink RX0 54 "TelegraphPrices" "leastTried" "[I", Cond.fieldLink RX0 57 "TelegraphPrices" "leastFrom" "[I", Cond.fieldLink RX0 60 "TelegraphPrices" "cheapestWords" "[I", Cond.fieldLink RX0 63 "TelegraphPrices" "cheapestJoined" "[Z", Cond.methodLink RL 110 yL_build, Cond.static yL_build, Cond.initialized RL, Cond.code yL_build cL_build 5 (some (.object "TelegraphPricesLaw$Sim")), Cond.classLink RL 10 RX1, Cond.instantiable RX1 11, Cond.initialized RX1]
def wsL_law0_r3 : List Cond := [Cond.instanceMethod yX1_init, Cond.code yX1_init cX1_init 1 none, Cond.methodLink RX1 1 objectInit, Cond.fieldLink RX1 7 "TelegraphPricesLaw$Sim" "limit" "I", Cond.fieldLink RX1 13 "TelegraphPricesLaw$Sim" "least" "I", Cond.fieldLink RX1 16 "TelegraphPricesLaw$Sim" "coins" "I", Cond.fieldLink RX1 19 "TelegraphPricesLaw$Sim" "letters" "[I", Cond.classLink RX1 23 "[[Z", Cond.fieldLink RX1 25 "TelegraphPricesLaw$Sim" "stand" "[[Z", Cond.fieldLink RX1 28 "TelegraphPricesLaw$Sim" "join" "[[Z", Cond.fieldLink RX1 31 "TelegraphPricesLaw$Sim" "word" "[I", Cond.fieldLink RX1 34 "TelegraphPricesLaw$Sim" "joined" "[Z", Cond.methodLink RL 101 yL_cell, Cond.static yL_cell, Cond.code yL_cell cL_cell 2 (some .int), Cond.constant RL 8 (790386105), Cond.methodLink RL 15 yL_below, Cond.static yL_below, Cond.code yL_below cL_below 2 (some .int), Cond.constant RL 7 (2147483647), Cond.methodLink RL 105 yL_act, Cond.static yL_act, Cond.code yL_act cL_act 20 (some .boolean), Cond.fieldLink RL 21 "TelegraphPricesLaw$Sim" "words" "I"]
def wsL_law0_r4 : List Cond := [Cond.fieldLink RL 25 "TelegraphPricesLaw$Sim" "letters" "[I", Cond.fieldLink RL 34 "TelegraphPricesLaw$Sim" "stand" "[[Z", Cond.fieldLink RL 42 "TelegraphPricesLaw$Sim" "join" "[[Z", Cond.fieldLink RL 48 "TelegraphPricesLaw$Sim" "limit" "I", Cond.fieldLink RL 54 "TelegraphPricesLaw$Sim" "least" "I", Cond.fieldLink RL 60 "TelegraphPricesLaw$Sim" "coins" "I", Cond.methodLink RL 28 yX0_addWord, Cond.instanceMethod yX0_addWord, Cond.selects RX0 yX0_addWord yX0_addWord, Cond.code yX0_addWord cX0_addWord 3 (some .int), Cond.classLink RX0 66 "java/lang/IllegalArgumentException", Cond.initialized "java/lang/IllegalArgumentException", Cond.classLink RX0 73 "java/lang/IllegalStateException", Cond.initialized "java/lang/IllegalStateException", Cond.methodLink RL 38 yX0_turnStandIn, Cond.instanceMethod yX0_turnStandIn, Cond.selects RX0 yX0_turnStandIn yX0_turnStandIn, Cond.code yX0_turnStandIn cX0_turnStandIn 3 (some .boolean), Cond.methodLink RX0 78 yX0_needWord, Cond.instanceMethod yX0_needWord, Cond.selects RX0 yX0_needWord yX0_needWord, Cond.code yX0_needWord cX0_needWord 2 none, Cond.classLink RX0 133 "java/lang/IndexOutOfBoundsException", Cond.initialized "java/lang/IndexOutOfBoundsException"]
def wsL_law0_r5 : List Cond := [Cond.methodLink RX0 84 yX0_hasBit, Cond.static yX0_hasBit, Cond.code yX0_hasBit cX0_hasBit 2 (some .boolean), Cond.methodLink RL 45 yX0_turnJoin, Cond.instanceMethod yX0_turnJoin, Cond.selects RX0 yX0_turnJoin yX0_turnJoin, Cond.code yX0_turnJoin cX0_turnJoin 3 (some .boolean), Cond.methodLink RL 51 yX0_setLimit, Cond.instanceMethod yX0_setLimit, Cond.selects RX0 yX0_setLimit yX0_setLimit, Cond.code yX0_setLimit cX0_setLimit 3 (some .int), Cond.methodLink RL 57 yX0_setLeastCount, Cond.instanceMethod yX0_setLeastCount, Cond.selects RX0 yX0_setLeastCount yX0_setLeastCount, Cond.code yX0_setLeastCount cX0_setLeastCount 3 (some .int), Cond.methodLink RL 63 yX0_setCoins, Cond.instanceMethod yX0_setCoins, Cond.selects RX0 yX0_setCoins yX0_setCoins, Cond.code yX0_setCoins cX0_setCoins 3 (some .int), Cond.methodLink RL 70 yX0_strike, Cond.instanceMethod yX0_strike, Cond.selects RX0 yX0_strike yX0_strike, Cond.code yX0_strike cX0_strike 3 (some .int), Cond.methodLink RX0 96 yX0_needPlace]
def wsL_law0_r6 : List Cond := [Cond.instanceMethod yX0_needPlace, Cond.selects RX0 yX0_needPlace yX0_needPlace, Cond.code yX0_needPlace cX0_needPlace 2 none, Cond.methodLink RL 73 yX0_turnJoined, Cond.instanceMethod yX0_turnJoined, Cond.selects RX0 yX0_turnJoined yX0_turnJoined, Cond.code yX0_turnJoined cX0_turnJoined 2 (some .boolean), Cond.methodLink RX0 99 yX0_couldBeJoined, Cond.instanceMethod yX0_couldBeJoined, Cond.selects RX0 yX0_couldBeJoined yX0_couldBeJoined, Cond.code yX0_couldBeJoined cX0_couldBeJoined 3 (some .boolean), Cond.methodLink RL 77 yX1_count, Cond.instanceMethod yX1_count, Cond.selects RX1 yX1_count yX1_count, Cond.code yX1_count cX1_count 1 (some .int), Cond.methodLink RX1 42 yX1_sum, Cond.instanceMethod yX1_sum, Cond.selects RX1 yX1_sum yX1_sum, Cond.code yX1_sum cX1_sum 6 (some .int), Cond.methodLink RX1 38 yX1_counts, Cond.instanceMethod yX1_counts, Cond.selects RX1 yX1_counts yX1_counts, Cond.code yX1_counts cX1_counts 2 (some .int), Cond.methodLink RX1 46 yX1_lifted]
def wsL_law0_r7 : List Cond := [Cond.instanceMethod yX1_lifted, Cond.selects RX1 yX1_lifted yX1_lifted, Cond.code yX1_lifted cX1_lifted 2 (some .int), Cond.methodLink RL 81 yX1_wording, Cond.instanceMethod yX1_wording, Cond.selects RX1 yX1_wording yX1_wording, Cond.code yX1_wording cX1_wording 8 (some (.array .int)), Cond.fieldLink RX1 49 "TelegraphPricesLaw$Sim" "words" "I", Cond.methodLink RX1 67 yX1_rest, Cond.instanceMethod yX1_rest, Cond.selects RX1 yX1_rest yX1_rest, Cond.code yX1_rest cX1_rest 5 (some (.object "TelegraphPricesLaw$Sim")), Cond.classLink RX1 8 RX1, Cond.methodLink RX1 66 yX1_init, Cond.methodLink RX1 71 yX1_cheapest, Cond.instanceMethod yX1_cheapest, Cond.selects RX1 yX1_cheapest yX1_cheapest, Cond.code yX1_cheapest cX1_cheapest 1 (some .int), Cond.methodLink RX1 62 yX1_upTo, Cond.instanceMethod yX1_upTo, Cond.selects RX1 yX1_upTo yX1_upTo, Cond.code yX1_upTo cX1_upTo 5 (some (.array .int)), Cond.methodLink RX1 56 Lib.Math.min.name, Cond.static Lib.Math.min.name]
def wsL_law0_r8 : List Cond := [Cond.code Lib.Math.min.name Lib.Math.min.code 2 (some .int), Cond.methodLink RX1 52 yX1_may, Cond.instanceMethod yX1_may, Cond.selects RX1 yX1_may yX1_may, Cond.code yX1_may cX1_may 3 (some .boolean), Cond.methodLink RL 85 yX0_reword, Cond.instanceMethod yX0_reword, Cond.selects RX0 yX0_reword yX0_reword, Cond.code yX0_reword cX0_reword 3 (some .int), Cond.methodLink RX0 105 yX0_count, Cond.instanceMethod yX0_count, Cond.selects RX0 yX0_count yX0_count, Cond.code yX0_count cX0_count 3 (some .int), Cond.methodLink RX0 126 yX0_countOfPair, Cond.instanceMethod yX0_countOfPair, Cond.selects RX0 yX0_countOfPair yX0_countOfPair, Cond.code yX0_countOfPair cX0_countOfPair 3 (some .int), Cond.methodLink RX0 118 yX0_countOfLetters, Cond.instanceMethod yX0_countOfLetters, Cond.selects RX0 yX0_countOfLetters yX0_countOfLetters, Cond.code yX0_countOfLetters cX0_countOfLetters 2 (some .int), Cond.methodLink RX0 130 yX0_atLeastTheLeastCount, Cond.instanceMethod yX0_atLeastTheLeastCount, Cond.selects RX0 yX0_atLeastTheLeastCount yX0_atLeastTheLeastCount]
def wsL_law0_r9 : List Cond := [Cond.code yX0_atLeastTheLeastCount cX0_atLeastTheLeastCount 2 (some .int), Cond.methodLink RX0 175 Lib.Math.max.name, Cond.methodLink RX0 109 yX0_noteCheapestWording, Cond.instanceMethod yX0_noteCheapestWording, Cond.selects RX0 yX0_noteCheapestWording yX0_noteCheapestWording, Cond.code yX0_noteCheapestWording cX0_noteCheapestWording 3 none, Cond.methodLink RX0 141 yX0_noteLeastCounts, Cond.instanceMethod yX0_noteLeastCounts, Cond.selects RX0 yX0_noteLeastCounts yX0_noteLeastCounts, Cond.code yX0_noteLeastCounts cX0_noteLeastCounts 3 none, Cond.constant RX0 151 (1000000), Cond.methodLink RX0 178 yX0_bestWordAt, Cond.instanceMethod yX0_bestWordAt, Cond.selects RX0 yX0_bestWordAt yX0_bestWordAt, Cond.code yX0_bestWordAt cX0_bestWordAt 5 (some .int), Cond.methodLink RX0 184 yX0_mayHold, Cond.instanceMethod yX0_mayHold, Cond.selects RX0 yX0_mayHold yX0_mayHold, Cond.code yX0_mayHold cX0_mayHold 3 (some .boolean), Cond.methodLink RX0 181 yX0_bestPairAt, Cond.instanceMethod yX0_bestPairAt, Cond.selects RX0 yX0_bestPairAt yX0_bestPairAt, Cond.code yX0_bestPairAt cX0_bestPairAt 7 (some .int), Cond.methodLink RX0 144 yX0_leastInAll]
def wsL_law0_r10 : List Cond := [Cond.instanceMethod yX0_leastInAll, Cond.selects RX0 yX0_leastInAll yX0_leastInAll, Cond.code yX0_leastInAll cX0_leastInAll 4 (some .int), Cond.methodLink RX0 152 Lib.Math.min.name, Cond.methodLink RX0 187 yX0_noteCheapestAt, Cond.instanceMethod yX0_noteCheapestAt, Cond.selects RX0 yX0_noteCheapestAt yX0_noteCheapestAt, Cond.code yX0_noteCheapestAt cX0_noteCheapestAt 4 none, Cond.methodLink RL 94 yX0_send, Cond.instanceMethod yX0_send, Cond.selects RX0 yX0_send yX0_send, Cond.code yX0_send cX0_send 3 (some .int), Cond.methodLink RX0 112 yX0_priceTo, Cond.instanceMethod yX0_priceTo, Cond.selects RX0 yX0_priceTo yX0_priceTo, Cond.code yX0_priceTo cX0_priceTo 2 (some .int), Cond.methodLink RX0 138 yX0_price, Cond.instanceMethod yX0_price, Cond.selects RX0 yX0_price yX0_price, Cond.code yX0_price cX0_price 1 (some .int), Cond.methodLink RL 97 yX0_write, Cond.instanceMethod yX0_write, Cond.selects RX0 yX0_write yX0_write, Cond.code yX0_write cX0_write 2 (some .int)]
def wsL_law0_r11 : List Cond := [Cond.methodLink RL 114 yX0_words, Cond.instanceMethod yX0_words, Cond.selects RX0 yX0_words yX0_words, Cond.code yX0_words cX0_words 1 (some .int), Cond.methodLink RL 116 yX0_limit, Cond.instanceMethod yX0_limit, Cond.selects RX0 yX0_limit yX0_limit, Cond.code yX0_limit cX0_limit 1 (some .int), Cond.methodLink RL 118 yX0_leastCount, Cond.instanceMethod yX0_leastCount, Cond.selects RX0 yX0_leastCount yX0_leastCount, Cond.code yX0_leastCount cX0_leastCount 1 (some .int), Cond.methodLink RL 121 yX0_coins, Cond.instanceMethod yX0_coins, Cond.selects RX0 yX0_coins yX0_coins, Cond.code yX0_coins cX0_coins 1 (some .int), Cond.methodLink RL 123 yX0_countOf, Cond.instanceMethod yX0_countOf, Cond.selects RX0 yX0_countOf yX0_countOf, Cond.code yX0_countOf cX0_countOf 2 (some .int), Cond.methodLink RL 126 yX0_mayStandFor, Cond.instanceMethod yX0_mayStandFor, Cond.selects RX0 yX0_mayStandFor yX0_mayStandFor, Cond.code yX0_mayStandFor cX0_mayStandFor 3 (some .boolean)]
def wsL_law0_r12 : List Cond := [Cond.methodLink RL 129 yX0_lettersOf, Cond.instanceMethod yX0_lettersOf, Cond.selects RX0 yX0_lettersOf yX0_lettersOf, Cond.code yX0_lettersOf cX0_lettersOf 2 (some .int), Cond.methodLink RL 132 yX0_standInsOf, Cond.instanceMethod yX0_standInsOf, Cond.selects RX0 yX0_standInsOf yX0_standInsOf, Cond.code yX0_standInsOf cX0_standInsOf 2 (some .int), Cond.methodLink RX0 121 yJ6_bitCount_0f7a4, Cond.static yJ6_bitCount_0f7a4, Cond.initialized RJ6, Cond.code yJ6_bitCount_0f7a4 cJ6_bitCount_0f7a4 1 (some .int), Cond.constant RJ6 265 (1431655765), Cond.constant RJ6 266 (858993459), Cond.constant RJ6 267 (252645135), Cond.methodLink RL 135 yX0_length, Cond.instanceMethod yX0_length, Cond.selects RX0 yX0_length yX0_length, Cond.code yX0_length cX0_length 1 (some .int), Cond.methodLink RL 138 yX0_wordAt, Cond.instanceMethod yX0_wordAt, Cond.selects RX0 yX0_wordAt yX0_wordAt, Cond.code yX0_wordAt cX0_wordAt 2 (some .int), Cond.methodLink RL 149 yX0_isJoined]
def wsL_law0_r13 : List Cond := [Cond.instanceMethod yX0_isJoined, Cond.selects RX0 yX0_isJoined yX0_isJoined, Cond.code yX0_isJoined cX0_isJoined 2 (some .boolean), Cond.methodLink RL 152 yX0_isJoinedInCheapest, Cond.instanceMethod yX0_isJoinedInCheapest, Cond.selects RX0 yX0_isJoinedInCheapest yX0_isJoinedInCheapest, Cond.code yX0_isJoinedInCheapest cX0_isJoinedInCheapest 2 (some .boolean), Cond.methodLink RL 155 yX0_count, Cond.methodLink RL 156 yX0_cheapestCount, Cond.instanceMethod yX0_cheapestCount, Cond.selects RX0 yX0_cheapestCount yX0_cheapestCount, Cond.code yX0_cheapestCount cX0_cheapestCount 1 (some .int), Cond.methodLink RL 159 yX0_wordings, Cond.instanceMethod yX0_wordings, Cond.selects RX0 yX0_wordings yX0_wordings, Cond.code yX0_wordings cX0_wordings 3 (some .int), Cond.methodLink RL 165 yX0_price, Cond.methodLink RL 168 yX0_saves, Cond.instanceMethod yX0_saves, Cond.selects RX0 yX0_saves yX0_saves, Cond.code yX0_saves cX0_saves 1 (some .int), Cond.methodLink RX0 148 yX0_cheapestCount, Cond.methodLink RL 171 yX0_priceTo, Cond.methodLink RL 174 yX0_earned]
def wsL_law0_r14 : List Cond := [Cond.instanceMethod yX0_earned, Cond.selects RX0 yX0_earned yX0_earned, Cond.code yX0_earned cX0_earned 1 (some .int), Cond.methodLink RL 176 yX0_sent, Cond.instanceMethod yX0_sent, Cond.selects RX0 yX0_sent yX0_sent, Cond.code yX0_sent cX0_sent 1 (some .int), Cond.methodLink RL 178 yX0_meanCost, Cond.instanceMethod yX0_meanCost, Cond.selects RX0 yX0_meanCost yX0_meanCost, Cond.code yX0_meanCost cX0_meanCost 1 (some .double), Cond.methodLink RL 182 yX1_isSame, Cond.instanceMethod yX1_isSame, Cond.selects RX1 yX1_isSame yX1_isSame, Cond.code yX1_isSame cX1_isSame 6 (some .boolean), Cond.fieldLink RX1 102 "TelegraphPricesLaw$Sim" "sent" "I", Cond.fieldLink RX1 107 "TelegraphPricesLaw$Sim" "earned" "I", Cond.constantLong RX1 137 (1000000), Cond.methodLink RX1 75 yX0_words, Cond.methodLink RX1 79 yX0_limit, Cond.methodLink RX1 81 yX0_leastCount, Cond.methodLink RX1 84 yX0_coins, Cond.methodLink RX1 86 yX0_length, Cond.methodLink RX1 89 yX0_count]
def wsL_law0_r15 : List Cond := [Cond.methodLink RX1 92 yX1_count, Cond.methodLink RX1 93 yX0_price, Cond.methodLink RX1 96 yX0_cheapestCount, Cond.methodLink RX1 99 yX0_sent, Cond.methodLink RX1 104 yX0_earned, Cond.methodLink RX1 109 yX0_saves, Cond.methodLink RX1 112 yX0_priceTo, Cond.methodLink RX1 115 yX0_mayStandFor, Cond.methodLink RX1 118 yX0_mayJoin, Cond.instanceMethod yX0_mayJoin, Cond.selects RX0 yX0_mayJoin yX0_mayJoin, Cond.code yX0_mayJoin cX0_mayJoin 3 (some .boolean), Cond.methodLink RX1 121 yX0_lettersOf, Cond.methodLink RX1 124 yX0_countOf, Cond.methodLink RX1 127 yX0_standInsOf, Cond.methodLink RX1 130 yX0_wordAt, Cond.methodLink RX1 133 yX0_isJoined, Cond.methodLink RX1 139 yX0_wordings, Cond.methodLink RX1 142 yX0_meanCost]
def wsL_law0 : List Cond := (wsL_law0_r1 ++ (wsL_law0_r2 ++ (wsL_law0_r3 ++ (wsL_law0_r4 ++ (wsL_law0_r5 ++ (wsL_law0_r6 ++ (wsL_law0_r7 ++ (wsL_law0_r8 ++ (wsL_law0_r9 ++ (wsL_law0_r10 ++ (wsL_law0_r11 ++ (wsL_law0_r12 ++ (wsL_law0_r13 ++ (wsL_law0_r14 ++ wsL_law0_r15)))))))))))))) ++ wsX00 ++ wsX10 ++ ([] : List Cond)
def wsL_law : List Cond := wsL_law0 ++ (vx_atS RX0 70 "java/lang/IllegalArgumentException" ["java/lang/RuntimeException", "java/lang/Exception"]).filter goodWord ++ (vx_atS RX0 77 "java/lang/IllegalStateException" ["java/lang/RuntimeException", "java/lang/Exception"]).filter goodWord ++ (vx_atS RX0 137 "java/lang/IndexOutOfBoundsException" ["java/lang/RuntimeException", "java/lang/Exception"]).filter goodWord
theorem inlX0 : ∀ w ∈ wsX00, w ∈ wsL_law := fun _ h => List.mem_append_left _ (List.mem_append_left _ (List.mem_append_left _ (List.mem_append_left _ (List.mem_append_left _ (List.mem_append_right _ h)))))
theorem inlX1 : ∀ w ∈ wsX10, w ∈ wsL_law := fun _ h => List.mem_append_left _ (List.mem_append_left _ (List.mem_append_left _ (List.mem_append_left _ (List.mem_append_right _ h))))
abbrev vwCl : List vw_C := [(RX0, TX0, 18), (RX1, TX1, 11)]
end
section
theorem dX0_init_0 : decode cX0_init 0 = .ok (.aload_n 0, 1) := by decide +kernel
theorem dX0_init_1 : decode cX0_init 1 = .ok (.invokespecial 1, 3) := by decide +kernel
theorem dX0_init_4 : decode cX0_init 4 = .ok (.aload_n 0, 1) := by decide +kernel
theorem dX0_init_5 : decode cX0_init 5 = .ok (.bipush 12, 2) := by decide +kernel
theorem dX0_init_7 : decode cX0_init 7 = .ok (.newarray .int, 2) := by decide +kernel
theorem dX0_init_9 : decode cX0_init 9 = .ok (.putfield 9, 3) := by decide +kernel
theorem dX0_init_12 : decode cX0_init 12 = .ok (.aload_n 0, 1) := by decide +kernel
theorem dX0_init_13 : decode cX0_init 13 = .ok (.bipush 12, 2) := by decide +kernel
theorem dX0_init_15 : decode cX0_init 15 = .ok (.newarray .int, 2) := by decide +kernel
theorem dX0_init_17 : decode cX0_init 17 = .ok (.putfield 13, 3) := by decide +kernel
theorem dX0_init_20 : decode cX0_init 20 = .ok (.aload_n 0, 1) := by decide +kernel
theorem dX0_init_21 : decode cX0_init 21 = .ok (.bipush 12, 2) := by decide +kernel
theorem dX0_init_23 : decode cX0_init 23 = .ok (.newarray .int, 2) := by decide +kernel
theorem dX0_init_25 : decode cX0_init 25 = .ok (.putfield 16, 3) := by decide +kernel
theorem dX0_init_28 : decode cX0_init 28 = .ok (.aload_n 0, 1) := by decide +kernel
theorem dX0_init_29 : decode cX0_init 29 = .ok (.iconst 0, 1) := by decide +kernel
theorem dX0_init_30 : decode cX0_init 30 = .ok (.putfield 19, 3) := by decide +kernel
theorem dX0_init_33 : decode cX0_init 33 = .ok (.aload_n 0, 1) := by decide +kernel
theorem dX0_init_34 : decode cX0_init 34 = .ok (.bipush 10, 2) := by decide +kernel
theorem dX0_init_36 : decode cX0_init 36 = .ok (.putfield 23, 3) := by decide +kernel
theorem dX0_init_39 : decode cX0_init 39 = .ok (.aload_n 0, 1) := by decide +kernel
theorem dX0_init_40 : decode cX0_init 40 = .ok (.iconst 5, 1) := by decide +kernel
theorem dX0_init_41 : decode cX0_init 41 = .ok (.putfield 26, 3) := by decide +kernel
theorem dX0_init_44 : decode cX0_init 44 = .ok (.aload_n 0, 1) := by decide +kernel
theorem dX0_init_45 : decode cX0_init 45 = .ok (.iconst 2, 1) := by decide +kernel
theorem dX0_init_46 : decode cX0_init 46 = .ok (.putfield 29, 3) := by decide +kernel
theorem dX0_init_49 : decode cX0_init 49 = .ok (.aload_n 0, 1) := by decide +kernel
theorem dX0_init_50 : decode cX0_init 50 = .ok (.bipush 16, 2) := by decide +kernel
theorem dX0_init_52 : decode cX0_init 52 = .ok (.newarray .int, 2) := by decide +kernel
theorem dX0_init_54 : decode cX0_init 54 = .ok (.putfield 32, 3) := by decide +kernel
theorem dX0_init_57 : decode cX0_init 57 = .ok (.aload_n 0, 1) := by decide +kernel
theorem dX0_init_58 : decode cX0_init 58 = .ok (.bipush 16, 2) := by decide +kernel
theorem dX0_init_60 : decode cX0_init 60 = .ok (.newarray .boolean, 2) := by decide +kernel
theorem dX0_init_62 : decode cX0_init 62 = .ok (.putfield 35, 3) := by decide +kernel
theorem dX0_init_65 : decode cX0_init 65 = .ok (.aload_n 0, 1) := by decide +kernel
theorem dX0_init_66 : decode cX0_init 66 = .ok (.iconst 0, 1) := by decide +kernel
theorem dX0_init_67 : decode cX0_init 67 = .ok (.putfield 39, 3) := by decide +kernel
theorem dX0_init_70 : decode cX0_init 70 = .ok (.aload_n 0, 1) := by decide +kernel
theorem dX0_init_71 : decode cX0_init 71 = .ok (.iconst 0, 1) := by decide +kernel
theorem dX0_init_72 : decode cX0_init 72 = .ok (.putfield 42, 3) := by decide +kernel
theorem dX0_init_75 : decode cX0_init 75 = .ok (.aload_n 0, 1) := by decide +kernel
theorem dX0_init_76 : decode cX0_init 76 = .ok (.iconst 0, 1) := by decide +kernel
theorem dX0_init_77 : decode cX0_init 77 = .ok (.putfield 45, 3) := by decide +kernel
theorem dX0_init_80 : decode cX0_init 80 = .ok (.aload_n 0, 1) := by decide +kernel
theorem dX0_init_81 : decode cX0_init 81 = .ok (.bipush 16, 2) := by decide +kernel
theorem dX0_init_83 : decode cX0_init 83 = .ok (.newarray .int, 2) := by decide +kernel
theorem dX0_init_85 : decode cX0_init 85 = .ok (.putfield 48, 3) := by decide +kernel
theorem dX0_init_88 : decode cX0_init 88 = .ok (.aload_n 0, 1) := by decide +kernel
theorem dX0_init_89 : decode cX0_init 89 = .ok (.bipush 16, 2) := by decide +kernel
theorem dX0_init_91 : decode cX0_init 91 = .ok (.newarray .int, 2) := by decide +kernel
theorem dX0_init_93 : decode cX0_init 93 = .ok (.putfield 51, 3) := by decide +kernel
theorem dX0_init_96 : decode cX0_init 96 = .ok (.aload_n 0, 1) := by decide +kernel
theorem dX0_init_97 : decode cX0_init 97 = .ok (.bipush 16, 2) := by decide +kernel
theorem dX0_init_99 : decode cX0_init 99 = .ok (.newarray .int, 2) := by decide +kernel
theorem dX0_init_101 : decode cX0_init 101 = .ok (.putfield 54, 3) := by decide +kernel
theorem dX0_init_104 : decode cX0_init 104 = .ok (.aload_n 0, 1) := by decide +kernel
theorem dX0_init_105 : decode cX0_init 105 = .ok (.bipush 18, 2) := by decide +kernel
theorem dX0_init_107 : decode cX0_init 107 = .ok (.newarray .int, 2) := by decide +kernel
theorem dX0_init_109 : decode cX0_init 109 = .ok (.putfield 57, 3) := by decide +kernel
theorem dX0_init_112 : decode cX0_init 112 = .ok (.aload_n 0, 1) := by decide +kernel
theorem dX0_init_113 : decode cX0_init 113 = .ok (.bipush 16, 2) := by decide +kernel
theorem dX0_init_115 : decode cX0_init 115 = .ok (.newarray .int, 2) := by decide +kernel
theorem dX0_init_117 : decode cX0_init 117 = .ok (.putfield 60, 3) := by decide +kernel
theorem dX0_init_120 : decode cX0_init 120 = .ok (.aload_n 0, 1) := by decide +kernel
theorem dX0_init_121 : decode cX0_init 121 = .ok (.bipush 16, 2) := by decide +kernel
theorem dX0_init_123 : decode cX0_init 123 = .ok (.newarray .boolean, 2) := by decide +kernel
theorem dX0_init_125 : decode cX0_init 125 = .ok (.putfield 63, 3) := by decide +kernel
theorem dX0_init_128 : decode cX0_init 128 = .ok (.return_, 1) := by decide +kernel
theorem dX0_addWord_0 : decode cX0_addWord 0 = .ok (.iload_n 1, 1) := by decide +kernel
theorem dX0_addWord_1 : decode cX0_addWord 1 = .ok (.iconst 1, 1) := by decide +kernel
theorem dX0_addWord_2 : decode cX0_addWord 2 = .ok (.if_icmp .lt 9, 3) := by decide +kernel
theorem dX0_addWord_5 : decode cX0_addWord 5 = .ok (.iload_n 1, 1) := by decide +kernel
theorem dX0_addWord_6 : decode cX0_addWord 6 = .ok (.bipush 30, 2) := by decide +kernel
theorem dX0_addWord_8 : decode cX0_addWord 8 = .ok (.if_icmp .le 13, 3) := by decide +kernel
theorem dX0_addWord_11 : decode cX0_addWord 11 = .ok (.new 66, 3) := by decide +kernel
theorem dX0_addWord_14 : decode cX0_addWord 14 = .ok (.dup, 1) := by decide +kernel
theorem dX0_addWord_15 : decode cX0_addWord 15 = .ok (.ldc 68, 2) := by decide +kernel
theorem dX0_addWord_17 : decode cX0_addWord 17 = .ok (.invokespecial 70, 3) := by decide +kernel
theorem dX0_addWord_20 : decode cX0_addWord 20 = .ok (.athrow, 1) := by decide +kernel
theorem dX0_addWord_21 : decode cX0_addWord 21 = .ok (.aload_n 0, 1) := by decide +kernel
theorem dX0_addWord_22 : decode cX0_addWord 22 = .ok (.getfield 19, 3) := by decide +kernel
theorem dX0_addWord_25 : decode cX0_addWord 25 = .ok (.bipush 12, 2) := by decide +kernel
theorem dX0_addWord_27 : decode cX0_addWord 27 = .ok (.if_icmp .lt 13, 3) := by decide +kernel
theorem dX0_addWord_30 : decode cX0_addWord 30 = .ok (.new 73, 3) := by decide +kernel
theorem dX0_addWord_33 : decode cX0_addWord 33 = .ok (.dup, 1) := by decide +kernel
theorem dX0_addWord_34 : decode cX0_addWord 34 = .ok (.ldc 75, 2) := by decide +kernel
theorem dX0_addWord_36 : decode cX0_addWord 36 = .ok (.invokespecial 77, 3) := by decide +kernel
theorem dX0_addWord_39 : decode cX0_addWord 39 = .ok (.athrow, 1) := by decide +kernel
theorem dX0_addWord_40 : decode cX0_addWord 40 = .ok (.aload_n 0, 1) := by decide +kernel
theorem dX0_addWord_41 : decode cX0_addWord 41 = .ok (.getfield 19, 3) := by decide +kernel
theorem dX0_addWord_44 : decode cX0_addWord 44 = .ok (.istore_n 2, 1) := by decide +kernel
theorem dX0_addWord_45 : decode cX0_addWord 45 = .ok (.aload_n 0, 1) := by decide +kernel
theorem dX0_addWord_46 : decode cX0_addWord 46 = .ok (.getfield 9, 3) := by decide +kernel
theorem dX0_addWord_49 : decode cX0_addWord 49 = .ok (.iload_n 2, 1) := by decide +kernel
theorem dX0_addWord_50 : decode cX0_addWord 50 = .ok (.iload_n 1, 1) := by decide +kernel
theorem dX0_addWord_51 : decode cX0_addWord 51 = .ok (.iastore, 1) := by decide +kernel
theorem dX0_addWord_52 : decode cX0_addWord 52 = .ok (.aload_n 0, 1) := by decide +kernel
theorem dX0_addWord_53 : decode cX0_addWord 53 = .ok (.getfield 13, 3) := by decide +kernel
theorem dX0_addWord_56 : decode cX0_addWord 56 = .ok (.iload_n 2, 1) := by decide +kernel
theorem dX0_addWord_57 : decode cX0_addWord 57 = .ok (.iconst 1, 1) := by decide +kernel
theorem dX0_addWord_58 : decode cX0_addWord 58 = .ok (.iload_n 2, 1) := by decide +kernel
theorem dX0_addWord_59 : decode cX0_addWord 59 = .ok (.ishl, 1) := by decide +kernel
theorem dX0_addWord_60 : decode cX0_addWord 60 = .ok (.iastore, 1) := by decide +kernel
theorem dX0_addWord_61 : decode cX0_addWord 61 = .ok (.aload_n 0, 1) := by decide +kernel
theorem dX0_addWord_62 : decode cX0_addWord 62 = .ok (.getfield 16, 3) := by decide +kernel
theorem dX0_addWord_65 : decode cX0_addWord 65 = .ok (.iload_n 2, 1) := by decide +kernel
theorem dX0_addWord_66 : decode cX0_addWord 66 = .ok (.iconst 0, 1) := by decide +kernel
theorem dX0_addWord_67 : decode cX0_addWord 67 = .ok (.iastore, 1) := by decide +kernel
theorem dX0_addWord_68 : decode cX0_addWord 68 = .ok (.aload_n 0, 1) := by decide +kernel
theorem dX0_addWord_69 : decode cX0_addWord 69 = .ok (.dup, 1) := by decide +kernel
theorem dX0_addWord_70 : decode cX0_addWord 70 = .ok (.getfield 19, 3) := by decide +kernel
theorem dX0_addWord_73 : decode cX0_addWord 73 = .ok (.iconst 1, 1) := by decide +kernel
theorem dX0_addWord_74 : decode cX0_addWord 74 = .ok (.iadd, 1) := by decide +kernel
theorem dX0_addWord_75 : decode cX0_addWord 75 = .ok (.putfield 19, 3) := by decide +kernel
theorem dX0_addWord_78 : decode cX0_addWord 78 = .ok (.iload_n 2, 1) := by decide +kernel
theorem dX0_addWord_79 : decode cX0_addWord 79 = .ok (.ireturn, 1) := by decide +kernel
set_option maxRecDepth 20000 in
theorem ggX0_turnStandIn_X0_needWord : GoodIn wsX0_turnStandIn wsX0_needWord := goodIn_ca (goodIn_r _ [8, 9, 10, 11, 15, 16, 17, 18, 19, 20, 21, 22, 23, 24, 25, 26, 27, 28, 29, 30, 31, 32] (by decide +kernel) (by decide +kernel)) (goodIn_sub (fun _ h => List.mem_cons_of_mem _ (List.mem_append_right _ h)) (by decide +kernel))
set_option maxRecDepth 20000 in
theorem gX0_turnStandIn_X0_needWord : GoodIn wsX0_turnStandIn (wsV RX0 78 RX0 yX0_needWord wsX0_needWord) := goodIn_app (goodIn_of _ (by decide +kernel)) ggX0_turnStandIn_X0_needWord
set_option maxRecDepth 20000 in
theorem ggX0_turnStandIn_X0_hasBit : GoodIn wsX0_turnStandIn wsX0_hasBit := goodIn_r _ [14] (by decide +kernel) (by decide +kernel)
set_option maxRecDepth 20000 in
theorem gX0_turnStandIn_X0_hasBit : GoodIn wsX0_turnStandIn (va_wsS RX0 84 yX0_hasBit wsX0_hasBit) := goodIn_app (goodIn_of _ (by decide +kernel)) ggX0_turnStandIn_X0_hasBit
theorem dX0_turnStandIn_0 : decode cX0_turnStandIn 0 = .ok (.aload_n 0, 1) := by decide +kernel
theorem dX0_turnStandIn_1 : decode cX0_turnStandIn 1 = .ok (.iload_n 1, 1) := by decide +kernel
theorem dX0_turnStandIn_2 : decode cX0_turnStandIn 2 = .ok (.invokevirtual 78, 3) := by decide +kernel
theorem dX0_turnStandIn_5 : decode cX0_turnStandIn 5 = .ok (.aload_n 0, 1) := by decide +kernel
theorem dX0_turnStandIn_6 : decode cX0_turnStandIn 6 = .ok (.iload_n 2, 1) := by decide +kernel
theorem dX0_turnStandIn_7 : decode cX0_turnStandIn 7 = .ok (.invokevirtual 78, 3) := by decide +kernel
theorem dX0_turnStandIn_10 : decode cX0_turnStandIn 10 = .ok (.iload_n 1, 1) := by decide +kernel
theorem dX0_turnStandIn_11 : decode cX0_turnStandIn 11 = .ok (.iload_n 2, 1) := by decide +kernel
theorem dX0_turnStandIn_12 : decode cX0_turnStandIn 12 = .ok (.if_icmp .ne 13, 3) := by decide +kernel
theorem dX0_turnStandIn_15 : decode cX0_turnStandIn 15 = .ok (.new 66, 3) := by decide +kernel
theorem dX0_turnStandIn_18 : decode cX0_turnStandIn 18 = .ok (.dup, 1) := by decide +kernel
theorem dX0_turnStandIn_19 : decode cX0_turnStandIn 19 = .ok (.ldc 82, 2) := by decide +kernel
theorem dX0_turnStandIn_21 : decode cX0_turnStandIn 21 = .ok (.invokespecial 70, 3) := by decide +kernel
theorem dX0_turnStandIn_24 : decode cX0_turnStandIn 24 = .ok (.athrow, 1) := by decide +kernel
theorem dX0_turnStandIn_25 : decode cX0_turnStandIn 25 = .ok (.aload_n 0, 1) := by decide +kernel
theorem dX0_turnStandIn_26 : decode cX0_turnStandIn 26 = .ok (.getfield 13, 3) := by decide +kernel
theorem dX0_turnStandIn_29 : decode cX0_turnStandIn 29 = .ok (.iload_n 1, 1) := by decide +kernel
theorem dX0_turnStandIn_30 : decode cX0_turnStandIn 30 = .ok (.dup2, 1) := by decide +kernel
theorem dX0_turnStandIn_31 : decode cX0_turnStandIn 31 = .ok (.iaload, 1) := by decide +kernel
theorem dX0_turnStandIn_32 : decode cX0_turnStandIn 32 = .ok (.iconst 1, 1) := by decide +kernel
theorem dX0_turnStandIn_33 : decode cX0_turnStandIn 33 = .ok (.iload_n 2, 1) := by decide +kernel
theorem dX0_turnStandIn_34 : decode cX0_turnStandIn 34 = .ok (.ishl, 1) := by decide +kernel
theorem dX0_turnStandIn_35 : decode cX0_turnStandIn 35 = .ok (.ixor, 1) := by decide +kernel
theorem dX0_turnStandIn_36 : decode cX0_turnStandIn 36 = .ok (.iastore, 1) := by decide +kernel
theorem dX0_turnStandIn_37 : decode cX0_turnStandIn 37 = .ok (.aload_n 0, 1) := by decide +kernel
theorem dX0_turnStandIn_38 : decode cX0_turnStandIn 38 = .ok (.getfield 13, 3) := by decide +kernel
theorem dX0_turnStandIn_41 : decode cX0_turnStandIn 41 = .ok (.iload_n 1, 1) := by decide +kernel
theorem dX0_turnStandIn_42 : decode cX0_turnStandIn 42 = .ok (.iaload, 1) := by decide +kernel
theorem dX0_turnStandIn_43 : decode cX0_turnStandIn 43 = .ok (.iload_n 2, 1) := by decide +kernel
theorem dX0_turnStandIn_44 : decode cX0_turnStandIn 44 = .ok (.invokestatic 84, 3) := by decide +kernel
theorem dX0_turnStandIn_47 : decode cX0_turnStandIn 47 = .ok (.ireturn, 1) := by decide +kernel
set_option maxRecDepth 20000 in
theorem ggX0_turnJoin_X0_needWord : GoodIn wsX0_turnJoin wsX0_needWord := goodIn_ca (goodIn_r _ [6, 7, 8, 9, 13, 14, 15, 16, 17, 18, 19, 20, 21, 22, 23, 24, 25, 26, 27, 28, 29, 30] (by decide +kernel) (by decide +kernel)) (goodIn_sub (fun _ h => List.mem_cons_of_mem _ (List.mem_append_right _ h)) (by decide +kernel))
set_option maxRecDepth 20000 in
theorem gX0_turnJoin_X0_needWord : GoodIn wsX0_turnJoin (wsV RX0 78 RX0 yX0_needWord wsX0_needWord) := goodIn_app (goodIn_of _ (by decide +kernel)) ggX0_turnJoin_X0_needWord
set_option maxRecDepth 20000 in
theorem ggX0_turnJoin_X0_hasBit : GoodIn wsX0_turnJoin wsX0_hasBit := goodIn_r _ [12] (by decide +kernel) (by decide +kernel)
set_option maxRecDepth 20000 in
theorem gX0_turnJoin_X0_hasBit : GoodIn wsX0_turnJoin (va_wsS RX0 84 yX0_hasBit wsX0_hasBit) := goodIn_app (goodIn_of _ (by decide +kernel)) ggX0_turnJoin_X0_hasBit
theorem dX0_turnJoin_0 : decode cX0_turnJoin 0 = .ok (.aload_n 0, 1) := by decide +kernel
theorem dX0_turnJoin_1 : decode cX0_turnJoin 1 = .ok (.iload_n 1, 1) := by decide +kernel
theorem dX0_turnJoin_2 : decode cX0_turnJoin 2 = .ok (.invokevirtual 78, 3) := by decide +kernel
theorem dX0_turnJoin_5 : decode cX0_turnJoin 5 = .ok (.aload_n 0, 1) := by decide +kernel
theorem dX0_turnJoin_6 : decode cX0_turnJoin 6 = .ok (.iload_n 2, 1) := by decide +kernel
theorem dX0_turnJoin_7 : decode cX0_turnJoin 7 = .ok (.invokevirtual 78, 3) := by decide +kernel
theorem dX0_turnJoin_10 : decode cX0_turnJoin 10 = .ok (.aload_n 0, 1) := by decide +kernel
theorem dX0_turnJoin_11 : decode cX0_turnJoin 11 = .ok (.getfield 16, 3) := by decide +kernel
theorem dX0_turnJoin_14 : decode cX0_turnJoin 14 = .ok (.iload_n 1, 1) := by decide +kernel
theorem dX0_turnJoin_15 : decode cX0_turnJoin 15 = .ok (.dup2, 1) := by decide +kernel
theorem dX0_turnJoin_16 : decode cX0_turnJoin 16 = .ok (.iaload, 1) := by decide +kernel
theorem dX0_turnJoin_17 : decode cX0_turnJoin 17 = .ok (.iconst 1, 1) := by decide +kernel
theorem dX0_turnJoin_18 : decode cX0_turnJoin 18 = .ok (.iload_n 2, 1) := by decide +kernel
theorem dX0_turnJoin_19 : decode cX0_turnJoin 19 = .ok (.ishl, 1) := by decide +kernel
theorem dX0_turnJoin_20 : decode cX0_turnJoin 20 = .ok (.ixor, 1) := by decide +kernel
theorem dX0_turnJoin_21 : decode cX0_turnJoin 21 = .ok (.iastore, 1) := by decide +kernel
theorem dX0_turnJoin_22 : decode cX0_turnJoin 22 = .ok (.aload_n 0, 1) := by decide +kernel
theorem dX0_turnJoin_23 : decode cX0_turnJoin 23 = .ok (.getfield 16, 3) := by decide +kernel
theorem dX0_turnJoin_26 : decode cX0_turnJoin 26 = .ok (.iload_n 1, 1) := by decide +kernel
theorem dX0_turnJoin_27 : decode cX0_turnJoin 27 = .ok (.iaload, 1) := by decide +kernel
theorem dX0_turnJoin_28 : decode cX0_turnJoin 28 = .ok (.iload_n 2, 1) := by decide +kernel
theorem dX0_turnJoin_29 : decode cX0_turnJoin 29 = .ok (.invokestatic 84, 3) := by decide +kernel
theorem dX0_turnJoin_32 : decode cX0_turnJoin 32 = .ok (.ireturn, 1) := by decide +kernel
theorem dX0_setLimit_0 : decode cX0_setLimit 0 = .ok (.iload_n 1, 1) := by decide +kernel
theorem dX0_setLimit_1 : decode cX0_setLimit 1 = .ok (.iconst 3, 1) := by decide +kernel
theorem dX0_setLimit_2 : decode cX0_setLimit 2 = .ok (.if_icmp .lt 9, 3) := by decide +kernel
theorem dX0_setLimit_5 : decode cX0_setLimit 5 = .ok (.iload_n 1, 1) := by decide +kernel
theorem dX0_setLimit_6 : decode cX0_setLimit 6 = .ok (.bipush 15, 2) := by decide +kernel
theorem dX0_setLimit_8 : decode cX0_setLimit 8 = .ok (.if_icmp .le 13, 3) := by decide +kernel
theorem dX0_setLimit_11 : decode cX0_setLimit 11 = .ok (.new 66, 3) := by decide +kernel
theorem dX0_setLimit_14 : decode cX0_setLimit 14 = .ok (.dup, 1) := by decide +kernel
theorem dX0_setLimit_15 : decode cX0_setLimit 15 = .ok (.ldc 88, 2) := by decide +kernel
theorem dX0_setLimit_17 : decode cX0_setLimit 17 = .ok (.invokespecial 70, 3) := by decide +kernel
theorem dX0_setLimit_20 : decode cX0_setLimit 20 = .ok (.athrow, 1) := by decide +kernel
theorem dX0_setLimit_21 : decode cX0_setLimit 21 = .ok (.aload_n 0, 1) := by decide +kernel
theorem dX0_setLimit_22 : decode cX0_setLimit 22 = .ok (.getfield 23, 3) := by decide +kernel
theorem dX0_setLimit_25 : decode cX0_setLimit 25 = .ok (.istore_n 2, 1) := by decide +kernel
theorem dX0_setLimit_26 : decode cX0_setLimit 26 = .ok (.aload_n 0, 1) := by decide +kernel
theorem dX0_setLimit_27 : decode cX0_setLimit 27 = .ok (.iload_n 1, 1) := by decide +kernel
theorem dX0_setLimit_28 : decode cX0_setLimit 28 = .ok (.putfield 23, 3) := by decide +kernel
theorem dX0_setLimit_31 : decode cX0_setLimit 31 = .ok (.iload_n 2, 1) := by decide +kernel
theorem dX0_setLimit_32 : decode cX0_setLimit 32 = .ok (.ireturn, 1) := by decide +kernel
theorem dX0_setLeastCount_0 : decode cX0_setLeastCount 0 = .ok (.iload_n 1, 1) := by decide +kernel
theorem dX0_setLeastCount_1 : decode cX0_setLeastCount 1 = .ok (.ifCond .lt 9, 3) := by decide +kernel
theorem dX0_setLeastCount_4 : decode cX0_setLeastCount 4 = .ok (.iload_n 1, 1) := by decide +kernel
theorem dX0_setLeastCount_5 : decode cX0_setLeastCount 5 = .ok (.bipush 20, 2) := by decide +kernel
theorem dX0_setLeastCount_7 : decode cX0_setLeastCount 7 = .ok (.if_icmp .le 13, 3) := by decide +kernel
theorem dX0_setLeastCount_10 : decode cX0_setLeastCount 10 = .ok (.new 66, 3) := by decide +kernel
theorem dX0_setLeastCount_13 : decode cX0_setLeastCount 13 = .ok (.dup, 1) := by decide +kernel
theorem dX0_setLeastCount_14 : decode cX0_setLeastCount 14 = .ok (.ldc 90, 2) := by decide +kernel
theorem dX0_setLeastCount_16 : decode cX0_setLeastCount 16 = .ok (.invokespecial 70, 3) := by decide +kernel
theorem dX0_setLeastCount_19 : decode cX0_setLeastCount 19 = .ok (.athrow, 1) := by decide +kernel
theorem dX0_setLeastCount_20 : decode cX0_setLeastCount 20 = .ok (.aload_n 0, 1) := by decide +kernel
theorem dX0_setLeastCount_21 : decode cX0_setLeastCount 21 = .ok (.getfield 26, 3) := by decide +kernel
theorem dX0_setLeastCount_24 : decode cX0_setLeastCount 24 = .ok (.istore_n 2, 1) := by decide +kernel
theorem dX0_setLeastCount_25 : decode cX0_setLeastCount 25 = .ok (.aload_n 0, 1) := by decide +kernel
theorem dX0_setLeastCount_26 : decode cX0_setLeastCount 26 = .ok (.iload_n 1, 1) := by decide +kernel
theorem dX0_setLeastCount_27 : decode cX0_setLeastCount 27 = .ok (.putfield 26, 3) := by decide +kernel
theorem dX0_setLeastCount_30 : decode cX0_setLeastCount 30 = .ok (.iload_n 2, 1) := by decide +kernel
theorem dX0_setLeastCount_31 : decode cX0_setLeastCount 31 = .ok (.ireturn, 1) := by decide +kernel
theorem dX0_setCoins_0 : decode cX0_setCoins 0 = .ok (.iload_n 1, 1) := by decide +kernel
theorem dX0_setCoins_1 : decode cX0_setCoins 1 = .ok (.iconst 1, 1) := by decide +kernel
theorem dX0_setCoins_2 : decode cX0_setCoins 2 = .ok (.if_icmp .lt 9, 3) := by decide +kernel
theorem dX0_setCoins_5 : decode cX0_setCoins 5 = .ok (.iload_n 1, 1) := by decide +kernel
theorem dX0_setCoins_6 : decode cX0_setCoins 6 = .ok (.bipush 50, 2) := by decide +kernel
theorem dX0_setCoins_8 : decode cX0_setCoins 8 = .ok (.if_icmp .le 13, 3) := by decide +kernel
theorem dX0_setCoins_11 : decode cX0_setCoins 11 = .ok (.new 66, 3) := by decide +kernel
theorem dX0_setCoins_14 : decode cX0_setCoins 14 = .ok (.dup, 1) := by decide +kernel
theorem dX0_setCoins_15 : decode cX0_setCoins 15 = .ok (.ldc 92, 2) := by decide +kernel
theorem dX0_setCoins_17 : decode cX0_setCoins 17 = .ok (.invokespecial 70, 3) := by decide +kernel
theorem dX0_setCoins_20 : decode cX0_setCoins 20 = .ok (.athrow, 1) := by decide +kernel
theorem dX0_setCoins_21 : decode cX0_setCoins 21 = .ok (.aload_n 0, 1) := by decide +kernel
theorem dX0_setCoins_22 : decode cX0_setCoins 22 = .ok (.getfield 29, 3) := by decide +kernel
theorem dX0_setCoins_25 : decode cX0_setCoins 25 = .ok (.istore_n 2, 1) := by decide +kernel
theorem dX0_setCoins_26 : decode cX0_setCoins 26 = .ok (.aload_n 0, 1) := by decide +kernel
theorem dX0_setCoins_27 : decode cX0_setCoins 27 = .ok (.iload_n 1, 1) := by decide +kernel
theorem dX0_setCoins_28 : decode cX0_setCoins 28 = .ok (.putfield 29, 3) := by decide +kernel
theorem dX0_setCoins_31 : decode cX0_setCoins 31 = .ok (.iload_n 2, 1) := by decide +kernel
theorem dX0_setCoins_32 : decode cX0_setCoins 32 = .ok (.ireturn, 1) := by decide +kernel
set_option maxRecDepth 20000 in
theorem ggX0_write_X0_needWord : GoodIn wsX0_write wsX0_needWord := goodIn_ca (goodIn_r _ [10, 11, 12, 13, 14, 15, 16, 17, 18, 19, 20, 21, 22, 23, 24, 25, 26, 27, 28, 29, 30, 31] (by decide +kernel) (by decide +kernel)) (goodIn_sub (fun _ h => List.mem_cons_of_mem _ (List.mem_append_right _ h)) (by decide +kernel))
set_option maxRecDepth 20000 in
theorem gX0_write_X0_needWord : GoodIn wsX0_write (wsV RX0 78 RX0 yX0_needWord wsX0_needWord) := goodIn_app (goodIn_of _ (by decide +kernel)) ggX0_write_X0_needWord
theorem dX0_write_0 : decode cX0_write 0 = .ok (.aload_n 0, 1) := by decide +kernel
theorem dX0_write_1 : decode cX0_write 1 = .ok (.iload_n 1, 1) := by decide +kernel
theorem dX0_write_2 : decode cX0_write 2 = .ok (.invokevirtual 78, 3) := by decide +kernel
theorem dX0_write_5 : decode cX0_write 5 = .ok (.aload_n 0, 1) := by decide +kernel
theorem dX0_write_6 : decode cX0_write 6 = .ok (.getfield 39, 3) := by decide +kernel
theorem dX0_write_9 : decode cX0_write 9 = .ok (.bipush 16, 2) := by decide +kernel
theorem dX0_write_11 : decode cX0_write 11 = .ok (.if_icmp .lt 13, 3) := by decide +kernel
theorem dX0_write_14 : decode cX0_write 14 = .ok (.new 73, 3) := by decide +kernel
theorem dX0_write_17 : decode cX0_write 17 = .ok (.dup, 1) := by decide +kernel
theorem dX0_write_18 : decode cX0_write 18 = .ok (.ldc 94, 2) := by decide +kernel
theorem dX0_write_20 : decode cX0_write 20 = .ok (.invokespecial 77, 3) := by decide +kernel
theorem dX0_write_23 : decode cX0_write 23 = .ok (.athrow, 1) := by decide +kernel
theorem dX0_write_24 : decode cX0_write 24 = .ok (.aload_n 0, 1) := by decide +kernel
theorem dX0_write_25 : decode cX0_write 25 = .ok (.getfield 32, 3) := by decide +kernel
theorem dX0_write_28 : decode cX0_write 28 = .ok (.aload_n 0, 1) := by decide +kernel
theorem dX0_write_29 : decode cX0_write 29 = .ok (.getfield 39, 3) := by decide +kernel
theorem dX0_write_32 : decode cX0_write 32 = .ok (.iload_n 1, 1) := by decide +kernel
theorem dX0_write_33 : decode cX0_write 33 = .ok (.iastore, 1) := by decide +kernel
theorem dX0_write_34 : decode cX0_write 34 = .ok (.aload_n 0, 1) := by decide +kernel
theorem dX0_write_35 : decode cX0_write 35 = .ok (.getfield 35, 3) := by decide +kernel
theorem dX0_write_38 : decode cX0_write 38 = .ok (.aload_n 0, 1) := by decide +kernel
theorem dX0_write_39 : decode cX0_write 39 = .ok (.getfield 39, 3) := by decide +kernel
theorem dX0_write_42 : decode cX0_write 42 = .ok (.iconst 0, 1) := by decide +kernel
theorem dX0_write_43 : decode cX0_write 43 = .ok (.bastore, 1) := by decide +kernel
theorem dX0_write_44 : decode cX0_write 44 = .ok (.aload_n 0, 1) := by decide +kernel
theorem dX0_write_45 : decode cX0_write 45 = .ok (.dup, 1) := by decide +kernel
theorem dX0_write_46 : decode cX0_write 46 = .ok (.getfield 39, 3) := by decide +kernel
theorem dX0_write_49 : decode cX0_write 49 = .ok (.iconst 1, 1) := by decide +kernel
theorem dX0_write_50 : decode cX0_write 50 = .ok (.iadd, 1) := by decide +kernel
theorem dX0_write_51 : decode cX0_write 51 = .ok (.putfield 39, 3) := by decide +kernel
theorem dX0_write_54 : decode cX0_write 54 = .ok (.aload_n 0, 1) := by decide +kernel
theorem dX0_write_55 : decode cX0_write 55 = .ok (.getfield 39, 3) := by decide +kernel
theorem dX0_write_58 : decode cX0_write 58 = .ok (.ireturn, 1) := by decide +kernel
set_option maxRecDepth 20000 in
theorem ggX0_strike_X0_needPlace : GoodIn wsX0_strike wsX0_needPlace := goodIn_ca (goodIn_r _ [8, 9, 10, 2, 11, 12, 13, 14, 15, 16, 17, 18, 19, 20, 21, 22, 23, 24, 25, 26, 27, 28] (by decide +kernel) (by decide +kernel)) (goodIn_sub (fun _ h => List.mem_cons_of_mem _ (List.mem_append_right _ h)) (by decide +kernel))
set_option maxRecDepth 20000 in
theorem gX0_strike_X0_needPlace : GoodIn wsX0_strike (wsV RX0 96 RX0 yX0_needPlace wsX0_needPlace) := goodIn_app (goodIn_of _ (by decide +kernel)) ggX0_strike_X0_needPlace
theorem dX0_strike_0 : decode cX0_strike 0 = .ok (.aload_n 0, 1) := by decide +kernel
theorem dX0_strike_1 : decode cX0_strike 1 = .ok (.iload_n 1, 1) := by decide +kernel
theorem dX0_strike_2 : decode cX0_strike 2 = .ok (.invokevirtual 96, 3) := by decide +kernel
theorem dX0_strike_5 : decode cX0_strike 5 = .ok (.iload_n 1, 1) := by decide +kernel
theorem dX0_strike_6 : decode cX0_strike 6 = .ok (.ifCond .le 12, 3) := by decide +kernel
theorem dX0_strike_9 : decode cX0_strike 9 = .ok (.aload_n 0, 1) := by decide +kernel
theorem dX0_strike_10 : decode cX0_strike 10 = .ok (.getfield 35, 3) := by decide +kernel
theorem dX0_strike_13 : decode cX0_strike 13 = .ok (.iload_n 1, 1) := by decide +kernel
theorem dX0_strike_14 : decode cX0_strike 14 = .ok (.iconst 1, 1) := by decide +kernel
theorem dX0_strike_15 : decode cX0_strike 15 = .ok (.isub, 1) := by decide +kernel
theorem dX0_strike_16 : decode cX0_strike 16 = .ok (.iconst 0, 1) := by decide +kernel
theorem dX0_strike_17 : decode cX0_strike 17 = .ok (.bastore, 1) := by decide +kernel
theorem dX0_strike_18 : decode cX0_strike 18 = .ok (.iload_n 1, 1) := by decide +kernel
theorem dX0_strike_19 : decode cX0_strike 19 = .ok (.istore_n 2, 1) := by decide +kernel
theorem dX0_strike_20 : decode cX0_strike 20 = .ok (.iload_n 2, 1) := by decide +kernel
theorem dX0_strike_21 : decode cX0_strike 21 = .ok (.iconst 1, 1) := by decide +kernel
theorem dX0_strike_22 : decode cX0_strike 22 = .ok (.iadd, 1) := by decide +kernel
theorem dX0_strike_23 : decode cX0_strike 23 = .ok (.aload_n 0, 1) := by decide +kernel
theorem dX0_strike_24 : decode cX0_strike 24 = .ok (.getfield 39, 3) := by decide +kernel
theorem dX0_strike_27 : decode cX0_strike 27 = .ok (.if_icmp .ge 37, 3) := by decide +kernel
theorem dX0_strike_30 : decode cX0_strike 30 = .ok (.aload_n 0, 1) := by decide +kernel
theorem dX0_strike_31 : decode cX0_strike 31 = .ok (.getfield 32, 3) := by decide +kernel
theorem dX0_strike_34 : decode cX0_strike 34 = .ok (.iload_n 2, 1) := by decide +kernel
theorem dX0_strike_35 : decode cX0_strike 35 = .ok (.aload_n 0, 1) := by decide +kernel
theorem dX0_strike_36 : decode cX0_strike 36 = .ok (.getfield 32, 3) := by decide +kernel
theorem dX0_strike_39 : decode cX0_strike 39 = .ok (.iload_n 2, 1) := by decide +kernel
theorem dX0_strike_40 : decode cX0_strike 40 = .ok (.iconst 1, 1) := by decide +kernel
theorem dX0_strike_41 : decode cX0_strike 41 = .ok (.iadd, 1) := by decide +kernel
theorem dX0_strike_42 : decode cX0_strike 42 = .ok (.iaload, 1) := by decide +kernel
theorem dX0_strike_43 : decode cX0_strike 43 = .ok (.iastore, 1) := by decide +kernel
theorem dX0_strike_44 : decode cX0_strike 44 = .ok (.aload_n 0, 1) := by decide +kernel
theorem dX0_strike_45 : decode cX0_strike 45 = .ok (.getfield 35, 3) := by decide +kernel
theorem dX0_strike_48 : decode cX0_strike 48 = .ok (.iload_n 2, 1) := by decide +kernel
theorem dX0_strike_49 : decode cX0_strike 49 = .ok (.aload_n 0, 1) := by decide +kernel
theorem dX0_strike_50 : decode cX0_strike 50 = .ok (.getfield 35, 3) := by decide +kernel
theorem dX0_strike_53 : decode cX0_strike 53 = .ok (.iload_n 2, 1) := by decide +kernel
theorem dX0_strike_54 : decode cX0_strike 54 = .ok (.iconst 1, 1) := by decide +kernel
theorem dX0_strike_55 : decode cX0_strike 55 = .ok (.iadd, 1) := by decide +kernel
theorem dX0_strike_56 : decode cX0_strike 56 = .ok (.baload, 1) := by decide +kernel
theorem dX0_strike_57 : decode cX0_strike 57 = .ok (.bastore, 1) := by decide +kernel
theorem dX0_strike_58 : decode cX0_strike 58 = .ok (.iinc 2 1, 3) := by decide +kernel
theorem dX0_strike_61 : decode cX0_strike 61 = .ok (.goto (-41), 3) := by decide +kernel
theorem dX0_strike_64 : decode cX0_strike 64 = .ok (.aload_n 0, 1) := by decide +kernel
theorem dX0_strike_65 : decode cX0_strike 65 = .ok (.dup, 1) := by decide +kernel
theorem dX0_strike_66 : decode cX0_strike 66 = .ok (.getfield 39, 3) := by decide +kernel
theorem dX0_strike_69 : decode cX0_strike 69 = .ok (.iconst 1, 1) := by decide +kernel
theorem dX0_strike_70 : decode cX0_strike 70 = .ok (.isub, 1) := by decide +kernel
theorem dX0_strike_71 : decode cX0_strike 71 = .ok (.putfield 39, 3) := by decide +kernel
theorem dX0_strike_74 : decode cX0_strike 74 = .ok (.aload_n 0, 1) := by decide +kernel
theorem dX0_strike_75 : decode cX0_strike 75 = .ok (.getfield 39, 3) := by decide +kernel
theorem dX0_strike_78 : decode cX0_strike 78 = .ok (.ireturn, 1) := by decide +kernel
set_option maxRecDepth 20000 in
theorem ggX0_turnJoined_X0_needPlace : GoodIn wsX0_turnJoined wsX0_needPlace := goodIn_ca (goodIn_r _ [8, 9, 10, 11, 21, 22, 23, 24, 25, 26, 27, 28, 29, 30, 31, 32, 33, 34, 35, 36, 37, 38] (by decide +kernel) (by decide +kernel)) (goodIn_sub (fun _ h => List.mem_cons_of_mem _ (List.mem_append_right _ h)) (by decide +kernel))
set_option maxRecDepth 20000 in
theorem gX0_turnJoined_X0_needPlace : GoodIn wsX0_turnJoined (wsV RX0 96 RX0 yX0_needPlace wsX0_needPlace) := goodIn_app (goodIn_of _ (by decide +kernel)) ggX0_turnJoined_X0_needPlace
set_option maxRecDepth 20000 in
theorem ggX0_turnJoined_X0_couldBeJoined : GoodIn wsX0_turnJoined wsX0_couldBeJoined := goodIn_r _ [15, 3, 16, 17, 18, 19, 7, 20, 21, 22, 23, 24, 25, 26, 27, 28, 29, 30, 31, 32, 33, 34, 35, 36, 37, 38] (by decide +kernel) (by decide +kernel)
set_option maxRecDepth 20000 in
theorem gX0_turnJoined_X0_couldBeJoined : GoodIn wsX0_turnJoined (wsV RX0 99 RX0 yX0_couldBeJoined wsX0_couldBeJoined) := goodIn_app (goodIn_of _ (by decide +kernel)) ggX0_turnJoined_X0_couldBeJoined
theorem dX0_turnJoined_0 : decode cX0_turnJoined 0 = .ok (.aload_n 0, 1) := by decide +kernel
theorem dX0_turnJoined_1 : decode cX0_turnJoined 1 = .ok (.iload_n 1, 1) := by decide +kernel
theorem dX0_turnJoined_2 : decode cX0_turnJoined 2 = .ok (.invokevirtual 96, 3) := by decide +kernel
theorem dX0_turnJoined_5 : decode cX0_turnJoined 5 = .ok (.aload_n 0, 1) := by decide +kernel
theorem dX0_turnJoined_6 : decode cX0_turnJoined 6 = .ok (.iload_n 1, 1) := by decide +kernel
theorem dX0_turnJoined_7 : decode cX0_turnJoined 7 = .ok (.iconst 1, 1) := by decide +kernel
theorem dX0_turnJoined_8 : decode cX0_turnJoined 8 = .ok (.iadd, 1) := by decide +kernel
theorem dX0_turnJoined_9 : decode cX0_turnJoined 9 = .ok (.invokevirtual 96, 3) := by decide +kernel
theorem dX0_turnJoined_12 : decode cX0_turnJoined 12 = .ok (.aload_n 0, 1) := by decide +kernel
theorem dX0_turnJoined_13 : decode cX0_turnJoined 13 = .ok (.getfield 35, 3) := by decide +kernel
theorem dX0_turnJoined_16 : decode cX0_turnJoined 16 = .ok (.iload_n 1, 1) := by decide +kernel
theorem dX0_turnJoined_17 : decode cX0_turnJoined 17 = .ok (.baload, 1) := by decide +kernel
theorem dX0_turnJoined_18 : decode cX0_turnJoined 18 = .ok (.ifCond .ne 21, 3) := by decide +kernel
theorem dX0_turnJoined_21 : decode cX0_turnJoined 21 = .ok (.aload_n 0, 1) := by decide +kernel
theorem dX0_turnJoined_22 : decode cX0_turnJoined 22 = .ok (.iload_n 1, 1) := by decide +kernel
theorem dX0_turnJoined_23 : decode cX0_turnJoined 23 = .ok (.invokevirtual 99, 3) := by decide +kernel
theorem dX0_turnJoined_26 : decode cX0_turnJoined 26 = .ok (.ifCond .ne 13, 3) := by decide +kernel
theorem dX0_turnJoined_29 : decode cX0_turnJoined 29 = .ok (.new 73, 3) := by decide +kernel
theorem dX0_turnJoined_32 : decode cX0_turnJoined 32 = .ok (.dup, 1) := by decide +kernel
theorem dX0_turnJoined_33 : decode cX0_turnJoined 33 = .ok (.ldc 103, 2) := by decide +kernel
theorem dX0_turnJoined_35 : decode cX0_turnJoined 35 = .ok (.invokespecial 77, 3) := by decide +kernel
theorem dX0_turnJoined_38 : decode cX0_turnJoined 38 = .ok (.athrow, 1) := by decide +kernel
theorem dX0_turnJoined_39 : decode cX0_turnJoined 39 = .ok (.aload_n 0, 1) := by decide +kernel
theorem dX0_turnJoined_40 : decode cX0_turnJoined 40 = .ok (.getfield 35, 3) := by decide +kernel
theorem dX0_turnJoined_43 : decode cX0_turnJoined 43 = .ok (.iload_n 1, 1) := by decide +kernel
theorem dX0_turnJoined_44 : decode cX0_turnJoined 44 = .ok (.aload_n 0, 1) := by decide +kernel
theorem dX0_turnJoined_45 : decode cX0_turnJoined 45 = .ok (.getfield 35, 3) := by decide +kernel
theorem dX0_turnJoined_48 : decode cX0_turnJoined 48 = .ok (.iload_n 1, 1) := by decide +kernel
theorem dX0_turnJoined_49 : decode cX0_turnJoined 49 = .ok (.baload, 1) := by decide +kernel
theorem dX0_turnJoined_50 : decode cX0_turnJoined 50 = .ok (.ifCond .ne 7, 3) := by decide +kernel
theorem dX0_turnJoined_53 : decode cX0_turnJoined 53 = .ok (.iconst 1, 1) := by decide +kernel
theorem dX0_turnJoined_54 : decode cX0_turnJoined 54 = .ok (.goto 4, 3) := by decide +kernel
theorem dX0_turnJoined_57 : decode cX0_turnJoined 57 = .ok (.iconst 0, 1) := by decide +kernel
theorem dX0_turnJoined_58 : decode cX0_turnJoined 58 = .ok (.bastore, 1) := by decide +kernel
theorem dX0_turnJoined_59 : decode cX0_turnJoined 59 = .ok (.aload_n 0, 1) := by decide +kernel
theorem dX0_turnJoined_60 : decode cX0_turnJoined 60 = .ok (.getfield 35, 3) := by decide +kernel
theorem dX0_turnJoined_63 : decode cX0_turnJoined 63 = .ok (.iload_n 1, 1) := by decide +kernel
theorem dX0_turnJoined_64 : decode cX0_turnJoined 64 = .ok (.baload, 1) := by decide +kernel
theorem dX0_turnJoined_65 : decode cX0_turnJoined 65 = .ok (.ireturn, 1) := by decide +kernel
set_option maxRecDepth 20000 in
theorem ggX0_reword_X0_count : GoodIn wsX0_reword wsX0_count := goodIn_r _ [10, 1, 4, 2, 11, 12, 13, 14, 9, 15, 16, 17, 18, 19, 20, 21, 22, 23, 24, 25, 26, 27, 28, 29, 71, 72, 73, 74, 75, 76, 77, 78, 79, 80, 81, 82, 83, 84, 85, 86, 87, 88] (by decide +kernel) (by decide +kernel)
set_option maxRecDepth 20000 in
theorem gX0_reword_X0_count : GoodIn wsX0_reword (wsV RX0 105 RX0 yX0_count wsX0_count) := goodIn_app (goodIn_of _ (by decide +kernel)) ggX0_reword_X0_count
set_option maxRecDepth 20000 in
theorem ggX0_reword_X0_noteCheapestWording : GoodIn wsX0_reword wsX0_noteCheapestWording := goodIn_r _ [33, 34, 1, 35, 36, 37, 38, 39, 9, 40, 11, 41, 42, 43, 44, 45, 2, 46, 47, 48, 49, 50, 51, 52, 53, 54, 16, 17, 18, 19, 20, 55, 56, 57, 58, 59, 12, 13, 14, 15, 60, 61, 62, 63, 64, 65, 28, 66, 67, 68, 69, 70, 3, 5, 71, 72, 73, 74, 75, 76, 77, 78, 79, 80, 81, 82, 83, 84, 85, 86, 87, 88] (by decide +kernel) (by decide +kernel)
set_option maxRecDepth 20000 in
theorem gX0_reword_X0_noteCheapestWording : GoodIn wsX0_reword (wsV RX0 109 RX0 yX0_noteCheapestWording wsX0_noteCheapestWording) := goodIn_app (goodIn_of _ (by decide +kernel)) ggX0_reword_X0_noteCheapestWording
theorem dX0_reword_0 : decode cX0_reword 0 = .ok (.aload_n 0, 1) := by decide +kernel
theorem dX0_reword_1 : decode cX0_reword 1 = .ok (.invokevirtual 105, 3) := by decide +kernel
theorem dX0_reword_4 : decode cX0_reword 4 = .ok (.istore_n 1, 1) := by decide +kernel
theorem dX0_reword_5 : decode cX0_reword 5 = .ok (.aload_n 0, 1) := by decide +kernel
theorem dX0_reword_6 : decode cX0_reword 6 = .ok (.invokevirtual 109, 3) := by decide +kernel
theorem dX0_reword_9 : decode cX0_reword 9 = .ok (.iconst 0, 1) := by decide +kernel
theorem dX0_reword_10 : decode cX0_reword 10 = .ok (.istore_n 2, 1) := by decide +kernel
theorem dX0_reword_11 : decode cX0_reword 11 = .ok (.iload_n 2, 1) := by decide +kernel
theorem dX0_reword_12 : decode cX0_reword 12 = .ok (.aload_n 0, 1) := by decide +kernel
theorem dX0_reword_13 : decode cX0_reword 13 = .ok (.getfield 39, 3) := by decide +kernel
theorem dX0_reword_16 : decode cX0_reword 16 = .ok (.if_icmp .ge 33, 3) := by decide +kernel
theorem dX0_reword_19 : decode cX0_reword 19 = .ok (.aload_n 0, 1) := by decide +kernel
theorem dX0_reword_20 : decode cX0_reword 20 = .ok (.getfield 32, 3) := by decide +kernel
theorem dX0_reword_23 : decode cX0_reword 23 = .ok (.iload_n 2, 1) := by decide +kernel
theorem dX0_reword_24 : decode cX0_reword 24 = .ok (.aload_n 0, 1) := by decide +kernel
theorem dX0_reword_25 : decode cX0_reword 25 = .ok (.getfield 60, 3) := by decide +kernel
theorem dX0_reword_28 : decode cX0_reword 28 = .ok (.iload_n 2, 1) := by decide +kernel
theorem dX0_reword_29 : decode cX0_reword 29 = .ok (.iaload, 1) := by decide +kernel
theorem dX0_reword_30 : decode cX0_reword 30 = .ok (.iastore, 1) := by decide +kernel
theorem dX0_reword_31 : decode cX0_reword 31 = .ok (.aload_n 0, 1) := by decide +kernel
theorem dX0_reword_32 : decode cX0_reword 32 = .ok (.getfield 35, 3) := by decide +kernel
theorem dX0_reword_35 : decode cX0_reword 35 = .ok (.iload_n 2, 1) := by decide +kernel
theorem dX0_reword_36 : decode cX0_reword 36 = .ok (.aload_n 0, 1) := by decide +kernel
theorem dX0_reword_37 : decode cX0_reword 37 = .ok (.getfield 63, 3) := by decide +kernel
theorem dX0_reword_40 : decode cX0_reword 40 = .ok (.iload_n 2, 1) := by decide +kernel
theorem dX0_reword_41 : decode cX0_reword 41 = .ok (.baload, 1) := by decide +kernel
theorem dX0_reword_42 : decode cX0_reword 42 = .ok (.bastore, 1) := by decide +kernel
theorem dX0_reword_43 : decode cX0_reword 43 = .ok (.iinc 2 1, 3) := by decide +kernel
theorem dX0_reword_46 : decode cX0_reword 46 = .ok (.goto (-35), 3) := by decide +kernel
theorem dX0_reword_49 : decode cX0_reword 49 = .ok (.iload_n 1, 1) := by decide +kernel
theorem dX0_reword_50 : decode cX0_reword 50 = .ok (.aload_n 0, 1) := by decide +kernel
theorem dX0_reword_51 : decode cX0_reword 51 = .ok (.invokevirtual 105, 3) := by decide +kernel
theorem dX0_reword_54 : decode cX0_reword 54 = .ok (.isub, 1) := by decide +kernel
theorem dX0_reword_55 : decode cX0_reword 55 = .ok (.ireturn, 1) := by decide +kernel
set_option maxRecDepth 20000 in
theorem ggX0_send_X0_priceTo : GoodIn wsX0_send wsX0_priceTo := goodIn_ca (goodIn_r _ [10, 11, 12, 13, 14, 15, 9, 16, 17, 18, 19, 20, 21, 3, 22, 23, 24, 25, 26, 27, 28, 29, 30, 31, 32, 33, 34, 35, 36, 37, 38, 39, 40, 41, 42, 43, 44, 45, 46, 47, 48, 49, 50, 51, 52, 53, 54, 55, 56, 57, 58, 59, 60] (by decide +kernel) (by decide +kernel)) (goodIn_sub (fun _ h => List.mem_cons_of_mem _ (List.mem_append_right _ h)) (by decide +kernel))
set_option maxRecDepth 20000 in
theorem gX0_send_X0_priceTo : GoodIn wsX0_send (wsV RX0 112 RX0 yX0_priceTo wsX0_priceTo) := goodIn_app (goodIn_of _ (by decide +kernel)) ggX0_send_X0_priceTo
theorem dX0_send_0 : decode cX0_send 0 = .ok (.aload_n 0, 1) := by decide +kernel
theorem dX0_send_1 : decode cX0_send 1 = .ok (.iload_n 1, 1) := by decide +kernel
theorem dX0_send_2 : decode cX0_send 2 = .ok (.invokevirtual 112, 3) := by decide +kernel
theorem dX0_send_5 : decode cX0_send 5 = .ok (.istore_n 2, 1) := by decide +kernel
theorem dX0_send_6 : decode cX0_send 6 = .ok (.aload_n 0, 1) := by decide +kernel
theorem dX0_send_7 : decode cX0_send 7 = .ok (.getfield 39, 3) := by decide +kernel
theorem dX0_send_10 : decode cX0_send 10 = .ok (.ifCond .ne 13, 3) := by decide +kernel
theorem dX0_send_13 : decode cX0_send 13 = .ok (.new 73, 3) := by decide +kernel
theorem dX0_send_16 : decode cX0_send 16 = .ok (.dup, 1) := by decide +kernel
theorem dX0_send_17 : decode cX0_send 17 = .ok (.ldc 116, 2) := by decide +kernel
theorem dX0_send_19 : decode cX0_send 19 = .ok (.invokespecial 77, 3) := by decide +kernel
theorem dX0_send_22 : decode cX0_send 22 = .ok (.athrow, 1) := by decide +kernel
theorem dX0_send_23 : decode cX0_send 23 = .ok (.aload_n 0, 1) := by decide +kernel
theorem dX0_send_24 : decode cX0_send 24 = .ok (.dup, 1) := by decide +kernel
theorem dX0_send_25 : decode cX0_send 25 = .ok (.getfield 42, 3) := by decide +kernel
theorem dX0_send_28 : decode cX0_send 28 = .ok (.iconst 1, 1) := by decide +kernel
theorem dX0_send_29 : decode cX0_send 29 = .ok (.iadd, 1) := by decide +kernel
theorem dX0_send_30 : decode cX0_send 30 = .ok (.putfield 42, 3) := by decide +kernel
theorem dX0_send_33 : decode cX0_send 33 = .ok (.aload_n 0, 1) := by decide +kernel
theorem dX0_send_34 : decode cX0_send 34 = .ok (.dup, 1) := by decide +kernel
theorem dX0_send_35 : decode cX0_send 35 = .ok (.getfield 45, 3) := by decide +kernel
theorem dX0_send_38 : decode cX0_send 38 = .ok (.iload_n 2, 1) := by decide +kernel
theorem dX0_send_39 : decode cX0_send 39 = .ok (.iadd, 1) := by decide +kernel
theorem dX0_send_40 : decode cX0_send 40 = .ok (.putfield 45, 3) := by decide +kernel
theorem dX0_send_43 : decode cX0_send 43 = .ok (.aload_n 0, 1) := by decide +kernel
theorem dX0_send_44 : decode cX0_send 44 = .ok (.iconst 0, 1) := by decide +kernel
theorem dX0_send_45 : decode cX0_send 45 = .ok (.putfield 39, 3) := by decide +kernel
theorem dX0_send_48 : decode cX0_send 48 = .ok (.iload_n 2, 1) := by decide +kernel
theorem dX0_send_49 : decode cX0_send 49 = .ok (.ireturn, 1) := by decide +kernel
theorem dX0_words_0 : decode cX0_words 0 = .ok (.aload_n 0, 1) := by decide +kernel
theorem dX0_words_1 : decode cX0_words 1 = .ok (.getfield 19, 3) := by decide +kernel
theorem dX0_words_4 : decode cX0_words 4 = .ok (.ireturn, 1) := by decide +kernel
set_option maxRecDepth 20000 in
theorem ggX0_lettersOf_X0_needWord : GoodIn wsX0_lettersOf wsX0_needWord := goodIn_ca (goodIn_r _ [6, 7, 8, 9, 10, 11, 12, 13, 14, 15, 16, 17, 18, 19, 20, 21, 22, 23, 24, 25, 26, 27] (by decide +kernel) (by decide +kernel)) (goodIn_sub (fun _ h => List.mem_cons_of_mem _ (List.mem_append_right _ h)) (by decide +kernel))
set_option maxRecDepth 20000 in
theorem gX0_lettersOf_X0_needWord : GoodIn wsX0_lettersOf (wsV RX0 78 RX0 yX0_needWord wsX0_needWord) := goodIn_app (goodIn_of _ (by decide +kernel)) ggX0_lettersOf_X0_needWord
theorem dX0_lettersOf_0 : decode cX0_lettersOf 0 = .ok (.aload_n 0, 1) := by decide +kernel
theorem dX0_lettersOf_1 : decode cX0_lettersOf 1 = .ok (.iload_n 1, 1) := by decide +kernel
theorem dX0_lettersOf_2 : decode cX0_lettersOf 2 = .ok (.invokevirtual 78, 3) := by decide +kernel
theorem dX0_lettersOf_5 : decode cX0_lettersOf 5 = .ok (.aload_n 0, 1) := by decide +kernel
theorem dX0_lettersOf_6 : decode cX0_lettersOf 6 = .ok (.getfield 9, 3) := by decide +kernel
theorem dX0_lettersOf_9 : decode cX0_lettersOf 9 = .ok (.iload_n 1, 1) := by decide +kernel
theorem dX0_lettersOf_10 : decode cX0_lettersOf 10 = .ok (.iaload, 1) := by decide +kernel
theorem dX0_lettersOf_11 : decode cX0_lettersOf 11 = .ok (.ireturn, 1) := by decide +kernel
set_option maxRecDepth 20000 in
theorem ggX0_countOf_X0_needWord : GoodIn wsX0_countOf wsX0_needWord := goodIn_ca (goodIn_r _ [6, 7, 8, 9, 15, 16, 17, 18, 19, 20, 21, 22, 23, 24, 25, 26, 27, 28, 29, 30, 31, 32] (by decide +kernel) (by decide +kernel)) (goodIn_sub (fun _ h => List.mem_cons_of_mem _ (List.mem_append_right _ h)) (by decide +kernel))
set_option maxRecDepth 20000 in
theorem gX0_countOf_X0_needWord : GoodIn wsX0_countOf (wsV RX0 78 RX0 yX0_needWord wsX0_needWord) := goodIn_app (goodIn_of _ (by decide +kernel)) ggX0_countOf_X0_needWord
set_option maxRecDepth 20000 in
theorem ggX0_countOf_X0_countOfLetters : GoodIn wsX0_countOf wsX0_countOfLetters := goodIn_r _ [13, 14, 15, 16, 17, 18, 19, 20, 21, 22, 23, 24, 25, 26, 27, 28, 29, 30, 31, 32] (by decide +kernel) (by decide +kernel)
set_option maxRecDepth 20000 in
theorem gX0_countOf_X0_countOfLetters : GoodIn wsX0_countOf (wsV RX0 118 RX0 yX0_countOfLetters wsX0_countOfLetters) := goodIn_app (goodIn_of _ (by decide +kernel)) ggX0_countOf_X0_countOfLetters
theorem dX0_countOf_0 : decode cX0_countOf 0 = .ok (.aload_n 0, 1) := by decide +kernel
theorem dX0_countOf_1 : decode cX0_countOf 1 = .ok (.iload_n 1, 1) := by decide +kernel
theorem dX0_countOf_2 : decode cX0_countOf 2 = .ok (.invokevirtual 78, 3) := by decide +kernel
theorem dX0_countOf_5 : decode cX0_countOf 5 = .ok (.aload_n 0, 1) := by decide +kernel
theorem dX0_countOf_6 : decode cX0_countOf 6 = .ok (.aload_n 0, 1) := by decide +kernel
theorem dX0_countOf_7 : decode cX0_countOf 7 = .ok (.getfield 9, 3) := by decide +kernel
theorem dX0_countOf_10 : decode cX0_countOf 10 = .ok (.iload_n 1, 1) := by decide +kernel
theorem dX0_countOf_11 : decode cX0_countOf 11 = .ok (.iaload, 1) := by decide +kernel
theorem dX0_countOf_12 : decode cX0_countOf 12 = .ok (.invokevirtual 118, 3) := by decide +kernel
theorem dX0_countOf_15 : decode cX0_countOf 15 = .ok (.ireturn, 1) := by decide +kernel
set_option maxRecDepth 20000 in
theorem ggX0_mayStandFor_X0_needWord : GoodIn wsX0_mayStandFor wsX0_needWord := goodIn_ca (goodIn_r _ [6, 7, 8, 9, 13, 14, 15, 16, 17, 18, 19, 20, 21, 22, 23, 24, 25, 26, 27, 28, 29, 30] (by decide +kernel) (by decide +kernel)) (goodIn_sub (fun _ h => List.mem_cons_of_mem _ (List.mem_append_right _ h)) (by decide +kernel))
set_option maxRecDepth 20000 in
theorem gX0_mayStandFor_X0_needWord : GoodIn wsX0_mayStandFor (wsV RX0 78 RX0 yX0_needWord wsX0_needWord) := goodIn_app (goodIn_of _ (by decide +kernel)) ggX0_mayStandFor_X0_needWord
set_option maxRecDepth 20000 in
theorem ggX0_mayStandFor_X0_hasBit : GoodIn wsX0_mayStandFor wsX0_hasBit := goodIn_r _ [12] (by decide +kernel) (by decide +kernel)
set_option maxRecDepth 20000 in
theorem gX0_mayStandFor_X0_hasBit : GoodIn wsX0_mayStandFor (va_wsS RX0 84 yX0_hasBit wsX0_hasBit) := goodIn_app (goodIn_of _ (by decide +kernel)) ggX0_mayStandFor_X0_hasBit
theorem dX0_mayStandFor_0 : decode cX0_mayStandFor 0 = .ok (.aload_n 0, 1) := by decide +kernel
theorem dX0_mayStandFor_1 : decode cX0_mayStandFor 1 = .ok (.iload_n 1, 1) := by decide +kernel
theorem dX0_mayStandFor_2 : decode cX0_mayStandFor 2 = .ok (.invokevirtual 78, 3) := by decide +kernel
theorem dX0_mayStandFor_5 : decode cX0_mayStandFor 5 = .ok (.aload_n 0, 1) := by decide +kernel
theorem dX0_mayStandFor_6 : decode cX0_mayStandFor 6 = .ok (.iload_n 2, 1) := by decide +kernel
theorem dX0_mayStandFor_7 : decode cX0_mayStandFor 7 = .ok (.invokevirtual 78, 3) := by decide +kernel
theorem dX0_mayStandFor_10 : decode cX0_mayStandFor 10 = .ok (.aload_n 0, 1) := by decide +kernel
theorem dX0_mayStandFor_11 : decode cX0_mayStandFor 11 = .ok (.getfield 13, 3) := by decide +kernel
theorem dX0_mayStandFor_14 : decode cX0_mayStandFor 14 = .ok (.iload_n 1, 1) := by decide +kernel
theorem dX0_mayStandFor_15 : decode cX0_mayStandFor 15 = .ok (.iaload, 1) := by decide +kernel
theorem dX0_mayStandFor_16 : decode cX0_mayStandFor 16 = .ok (.iload_n 2, 1) := by decide +kernel
theorem dX0_mayStandFor_17 : decode cX0_mayStandFor 17 = .ok (.invokestatic 84, 3) := by decide +kernel
theorem dX0_mayStandFor_20 : decode cX0_mayStandFor 20 = .ok (.ireturn, 1) := by decide +kernel
set_option maxRecDepth 20000 in
theorem ggX0_mayJoin_X0_needWord : GoodIn wsX0_mayJoin wsX0_needWord := goodIn_ca (goodIn_r _ [6, 7, 8, 9, 13, 14, 15, 16, 17, 18, 19, 20, 21, 22, 23, 24, 25, 26, 27, 28, 29, 30] (by decide +kernel) (by decide +kernel)) (goodIn_sub (fun _ h => List.mem_cons_of_mem _ (List.mem_append_right _ h)) (by decide +kernel))
set_option maxRecDepth 20000 in
theorem gX0_mayJoin_X0_needWord : GoodIn wsX0_mayJoin (wsV RX0 78 RX0 yX0_needWord wsX0_needWord) := goodIn_app (goodIn_of _ (by decide +kernel)) ggX0_mayJoin_X0_needWord
set_option maxRecDepth 20000 in
theorem ggX0_mayJoin_X0_hasBit : GoodIn wsX0_mayJoin wsX0_hasBit := goodIn_r _ [12] (by decide +kernel) (by decide +kernel)
set_option maxRecDepth 20000 in
theorem gX0_mayJoin_X0_hasBit : GoodIn wsX0_mayJoin (va_wsS RX0 84 yX0_hasBit wsX0_hasBit) := goodIn_app (goodIn_of _ (by decide +kernel)) ggX0_mayJoin_X0_hasBit
theorem dX0_mayJoin_0 : decode cX0_mayJoin 0 = .ok (.aload_n 0, 1) := by decide +kernel
theorem dX0_mayJoin_1 : decode cX0_mayJoin 1 = .ok (.iload_n 1, 1) := by decide +kernel
theorem dX0_mayJoin_2 : decode cX0_mayJoin 2 = .ok (.invokevirtual 78, 3) := by decide +kernel
theorem dX0_mayJoin_5 : decode cX0_mayJoin 5 = .ok (.aload_n 0, 1) := by decide +kernel
theorem dX0_mayJoin_6 : decode cX0_mayJoin 6 = .ok (.iload_n 2, 1) := by decide +kernel
theorem dX0_mayJoin_7 : decode cX0_mayJoin 7 = .ok (.invokevirtual 78, 3) := by decide +kernel
theorem dX0_mayJoin_10 : decode cX0_mayJoin 10 = .ok (.aload_n 0, 1) := by decide +kernel
theorem dX0_mayJoin_11 : decode cX0_mayJoin 11 = .ok (.getfield 16, 3) := by decide +kernel
theorem dX0_mayJoin_14 : decode cX0_mayJoin 14 = .ok (.iload_n 1, 1) := by decide +kernel
theorem dX0_mayJoin_15 : decode cX0_mayJoin 15 = .ok (.iaload, 1) := by decide +kernel
theorem dX0_mayJoin_16 : decode cX0_mayJoin 16 = .ok (.iload_n 2, 1) := by decide +kernel
theorem dX0_mayJoin_17 : decode cX0_mayJoin 17 = .ok (.invokestatic 84, 3) := by decide +kernel
theorem dX0_mayJoin_20 : decode cX0_mayJoin 20 = .ok (.ireturn, 1) := by decide +kernel
set_option maxRecDepth 20000 in
theorem ggX0_standInsOf_X0_needWord : GoodIn wsX0_standInsOf wsX0_needWord := goodIn_ca (goodIn_r _ [6, 7, 8, 9, 17, 18, 19, 20, 21, 22, 23, 24, 25, 26, 27, 28, 29, 30, 31, 32, 33, 34] (by decide +kernel) (by decide +kernel)) (goodIn_sub (fun _ h => List.mem_cons_of_mem _ (List.mem_append_right _ h)) (by decide +kernel))
set_option maxRecDepth 20000 in
theorem gX0_standInsOf_X0_needWord : GoodIn wsX0_standInsOf (wsV RX0 78 RX0 yX0_needWord wsX0_needWord) := goodIn_app (goodIn_of _ (by decide +kernel)) ggX0_standInsOf_X0_needWord
set_option maxRecDepth 20000 in
theorem ggX0_standInsOf_J6_bitCount_0f7a4 : GoodIn wsX0_standInsOf wsJ6_bitCount_0f7a4 := goodIn_r _ [13, 14, 15, 16] (by decide +kernel) (by decide +kernel)
set_option maxRecDepth 20000 in
theorem gX0_standInsOf_J6_bitCount_0f7a4 : GoodIn wsX0_standInsOf (va_wsS RX0 121 yJ6_bitCount_0f7a4 wsJ6_bitCount_0f7a4) := goodIn_app (goodIn_of _ (by decide +kernel)) ggX0_standInsOf_J6_bitCount_0f7a4
theorem dX0_standInsOf_0 : decode cX0_standInsOf 0 = .ok (.aload_n 0, 1) := by decide +kernel
theorem dX0_standInsOf_1 : decode cX0_standInsOf 1 = .ok (.iload_n 1, 1) := by decide +kernel
theorem dX0_standInsOf_2 : decode cX0_standInsOf 2 = .ok (.invokevirtual 78, 3) := by decide +kernel
theorem dX0_standInsOf_5 : decode cX0_standInsOf 5 = .ok (.aload_n 0, 1) := by decide +kernel
theorem dX0_standInsOf_6 : decode cX0_standInsOf 6 = .ok (.getfield 13, 3) := by decide +kernel
theorem dX0_standInsOf_9 : decode cX0_standInsOf 9 = .ok (.iload_n 1, 1) := by decide +kernel
theorem dX0_standInsOf_10 : decode cX0_standInsOf 10 = .ok (.iaload, 1) := by decide +kernel
theorem dX0_standInsOf_11 : decode cX0_standInsOf 11 = .ok (.invokestatic 121, 3) := by decide +kernel
theorem dX0_standInsOf_14 : decode cX0_standInsOf 14 = .ok (.ireturn, 1) := by decide +kernel
theorem dX0_limit_0 : decode cX0_limit 0 = .ok (.aload_n 0, 1) := by decide +kernel
theorem dX0_limit_1 : decode cX0_limit 1 = .ok (.getfield 23, 3) := by decide +kernel
theorem dX0_limit_4 : decode cX0_limit 4 = .ok (.ireturn, 1) := by decide +kernel
theorem dX0_leastCount_0 : decode cX0_leastCount 0 = .ok (.aload_n 0, 1) := by decide +kernel
theorem dX0_leastCount_1 : decode cX0_leastCount 1 = .ok (.getfield 26, 3) := by decide +kernel
theorem dX0_leastCount_4 : decode cX0_leastCount 4 = .ok (.ireturn, 1) := by decide +kernel
theorem dX0_coins_0 : decode cX0_coins 0 = .ok (.aload_n 0, 1) := by decide +kernel
theorem dX0_coins_1 : decode cX0_coins 1 = .ok (.getfield 29, 3) := by decide +kernel
theorem dX0_coins_4 : decode cX0_coins 4 = .ok (.ireturn, 1) := by decide +kernel
theorem dX0_length_0 : decode cX0_length 0 = .ok (.aload_n 0, 1) := by decide +kernel
theorem dX0_length_1 : decode cX0_length 1 = .ok (.getfield 39, 3) := by decide +kernel
theorem dX0_length_4 : decode cX0_length 4 = .ok (.ireturn, 1) := by decide +kernel
set_option maxRecDepth 20000 in
theorem ggX0_wordAt_X0_needPlace : GoodIn wsX0_wordAt wsX0_needPlace := goodIn_ca (goodIn_r _ [6, 7, 8, 9, 10, 11, 12, 13, 14, 15, 16, 17, 18, 19, 20, 21, 22, 23, 24, 25, 26, 27] (by decide +kernel) (by decide +kernel)) (goodIn_sub (fun _ h => List.mem_cons_of_mem _ (List.mem_append_right _ h)) (by decide +kernel))
set_option maxRecDepth 20000 in
theorem gX0_wordAt_X0_needPlace : GoodIn wsX0_wordAt (wsV RX0 96 RX0 yX0_needPlace wsX0_needPlace) := goodIn_app (goodIn_of _ (by decide +kernel)) ggX0_wordAt_X0_needPlace
theorem dX0_wordAt_0 : decode cX0_wordAt 0 = .ok (.aload_n 0, 1) := by decide +kernel
theorem dX0_wordAt_1 : decode cX0_wordAt 1 = .ok (.iload_n 1, 1) := by decide +kernel
theorem dX0_wordAt_2 : decode cX0_wordAt 2 = .ok (.invokevirtual 96, 3) := by decide +kernel
theorem dX0_wordAt_5 : decode cX0_wordAt 5 = .ok (.aload_n 0, 1) := by decide +kernel
theorem dX0_wordAt_6 : decode cX0_wordAt 6 = .ok (.getfield 32, 3) := by decide +kernel
theorem dX0_wordAt_9 : decode cX0_wordAt 9 = .ok (.iload_n 1, 1) := by decide +kernel
theorem dX0_wordAt_10 : decode cX0_wordAt 10 = .ok (.iaload, 1) := by decide +kernel
theorem dX0_wordAt_11 : decode cX0_wordAt 11 = .ok (.ireturn, 1) := by decide +kernel
set_option maxRecDepth 20000 in
theorem ggX0_isJoined_X0_needPlace : GoodIn wsX0_isJoined wsX0_needPlace := goodIn_ca (goodIn_r _ [6, 7, 8, 9, 10, 11, 12, 13, 14, 15, 16, 17, 18, 19, 20, 21, 22, 23, 24, 25, 26, 27] (by decide +kernel) (by decide +kernel)) (goodIn_sub (fun _ h => List.mem_cons_of_mem _ (List.mem_append_right _ h)) (by decide +kernel))
set_option maxRecDepth 20000 in
theorem gX0_isJoined_X0_needPlace : GoodIn wsX0_isJoined (wsV RX0 96 RX0 yX0_needPlace wsX0_needPlace) := goodIn_app (goodIn_of _ (by decide +kernel)) ggX0_isJoined_X0_needPlace
theorem dX0_isJoined_0 : decode cX0_isJoined 0 = .ok (.aload_n 0, 1) := by decide +kernel
theorem dX0_isJoined_1 : decode cX0_isJoined 1 = .ok (.iload_n 1, 1) := by decide +kernel
theorem dX0_isJoined_2 : decode cX0_isJoined 2 = .ok (.invokevirtual 96, 3) := by decide +kernel
theorem dX0_isJoined_5 : decode cX0_isJoined 5 = .ok (.aload_n 0, 1) := by decide +kernel
theorem dX0_isJoined_6 : decode cX0_isJoined 6 = .ok (.getfield 35, 3) := by decide +kernel
theorem dX0_isJoined_9 : decode cX0_isJoined 9 = .ok (.iload_n 1, 1) := by decide +kernel
theorem dX0_isJoined_10 : decode cX0_isJoined 10 = .ok (.baload, 1) := by decide +kernel
theorem dX0_isJoined_11 : decode cX0_isJoined 11 = .ok (.ireturn, 1) := by decide +kernel
set_option maxRecDepth 20000 in
theorem ggX0_count_X0_countOfPair : GoodIn wsX0_count wsX0_countOfPair := goodIn_r _ [9, 4, 10, 11, 12, 8, 13, 14, 24, 25, 26, 27, 28, 29, 30, 31, 32, 33, 34, 35, 36, 37, 38, 39, 40, 41] (by decide +kernel) (by decide +kernel)
set_option maxRecDepth 20000 in
theorem gX0_count_X0_countOfPair : GoodIn wsX0_count (wsV RX0 126 RX0 yX0_countOfPair wsX0_countOfPair) := goodIn_app (goodIn_of _ (by decide +kernel)) ggX0_count_X0_countOfPair
set_option maxRecDepth 20000 in
theorem ggX0_count_X0_countOfLetters : GoodIn wsX0_count wsX0_countOfLetters := goodIn_r _ [13, 14, 24, 25, 26, 27, 28, 29, 30, 31, 32, 33, 34, 35, 36, 37, 38, 39, 40, 41] (by decide +kernel) (by decide +kernel)
set_option maxRecDepth 20000 in
theorem gX0_count_X0_countOfLetters : GoodIn wsX0_count (wsV RX0 118 RX0 yX0_countOfLetters wsX0_countOfLetters) := goodIn_app (goodIn_of _ (by decide +kernel)) ggX0_count_X0_countOfLetters
set_option maxRecDepth 20000 in
theorem ggX0_count_X0_atLeastTheLeastCount : GoodIn wsX0_count wsX0_atLeastTheLeastCount := goodIn_r _ [18, 1, 19, 20, 21, 22, 23, 24, 25, 26, 27, 28, 29, 30, 31, 32, 33, 34, 35, 36, 37, 38, 39, 40, 41] (by decide +kernel) (by decide +kernel)
set_option maxRecDepth 20000 in
theorem gX0_count_X0_atLeastTheLeastCount : GoodIn wsX0_count (wsV RX0 130 RX0 yX0_atLeastTheLeastCount wsX0_atLeastTheLeastCount) := goodIn_app (goodIn_of _ (by decide +kernel)) ggX0_count_X0_atLeastTheLeastCount
theorem dX0_count_0 : decode cX0_count 0 = .ok (.iconst 0, 1) := by decide +kernel
theorem dX0_count_1 : decode cX0_count 1 = .ok (.istore_n 1, 1) := by decide +kernel
theorem dX0_count_2 : decode cX0_count 2 = .ok (.iconst 0, 1) := by decide +kernel
theorem dX0_count_3 : decode cX0_count 3 = .ok (.istore_n 2, 1) := by decide +kernel
theorem dX0_count_4 : decode cX0_count 4 = .ok (.iload_n 2, 1) := by decide +kernel
theorem dX0_count_5 : decode cX0_count 5 = .ok (.aload_n 0, 1) := by decide +kernel
theorem dX0_count_6 : decode cX0_count 6 = .ok (.getfield 39, 3) := by decide +kernel
theorem dX0_count_9 : decode cX0_count 9 = .ok (.if_icmp .ge 73, 3) := by decide +kernel
theorem dX0_count_12 : decode cX0_count 12 = .ok (.aload_n 0, 1) := by decide +kernel
theorem dX0_count_13 : decode cX0_count 13 = .ok (.getfield 35, 3) := by decide +kernel
theorem dX0_count_16 : decode cX0_count 16 = .ok (.iload_n 2, 1) := by decide +kernel
theorem dX0_count_17 : decode cX0_count 17 = .ok (.baload, 1) := by decide +kernel
theorem dX0_count_18 : decode cX0_count 18 = .ok (.ifCond .eq 40, 3) := by decide +kernel
theorem dX0_count_21 : decode cX0_count 21 = .ok (.iload_n 2, 1) := by decide +kernel
theorem dX0_count_22 : decode cX0_count 22 = .ok (.iconst 1, 1) := by decide +kernel
theorem dX0_count_23 : decode cX0_count 23 = .ok (.iadd, 1) := by decide +kernel
theorem dX0_count_24 : decode cX0_count 24 = .ok (.aload_n 0, 1) := by decide +kernel
theorem dX0_count_25 : decode cX0_count 25 = .ok (.getfield 39, 3) := by decide +kernel
theorem dX0_count_28 : decode cX0_count 28 = .ok (.if_icmp .ge 30, 3) := by decide +kernel
theorem dX0_count_31 : decode cX0_count 31 = .ok (.iload_n 1, 1) := by decide +kernel
theorem dX0_count_32 : decode cX0_count 32 = .ok (.aload_n 0, 1) := by decide +kernel
theorem dX0_count_33 : decode cX0_count 33 = .ok (.aload_n 0, 1) := by decide +kernel
theorem dX0_count_34 : decode cX0_count 34 = .ok (.getfield 32, 3) := by decide +kernel
theorem dX0_count_37 : decode cX0_count 37 = .ok (.iload_n 2, 1) := by decide +kernel
theorem dX0_count_38 : decode cX0_count 38 = .ok (.iaload, 1) := by decide +kernel
theorem dX0_count_39 : decode cX0_count 39 = .ok (.aload_n 0, 1) := by decide +kernel
theorem dX0_count_40 : decode cX0_count 40 = .ok (.getfield 32, 3) := by decide +kernel
theorem dX0_count_43 : decode cX0_count 43 = .ok (.iload_n 2, 1) := by decide +kernel
theorem dX0_count_44 : decode cX0_count 44 = .ok (.iconst 1, 1) := by decide +kernel
theorem dX0_count_45 : decode cX0_count 45 = .ok (.iadd, 1) := by decide +kernel
theorem dX0_count_46 : decode cX0_count 46 = .ok (.iaload, 1) := by decide +kernel
theorem dX0_count_47 : decode cX0_count 47 = .ok (.invokevirtual 126, 3) := by decide +kernel
theorem dX0_count_50 : decode cX0_count 50 = .ok (.iadd, 1) := by decide +kernel
theorem dX0_count_51 : decode cX0_count 51 = .ok (.istore_n 1, 1) := by decide +kernel
theorem dX0_count_52 : decode cX0_count 52 = .ok (.iinc 2 2, 3) := by decide +kernel
theorem dX0_count_55 : decode cX0_count 55 = .ok (.goto (-51), 3) := by decide +kernel
theorem dX0_count_58 : decode cX0_count 58 = .ok (.iload_n 1, 1) := by decide +kernel
theorem dX0_count_59 : decode cX0_count 59 = .ok (.aload_n 0, 1) := by decide +kernel
theorem dX0_count_60 : decode cX0_count 60 = .ok (.aload_n 0, 1) := by decide +kernel
theorem dX0_count_61 : decode cX0_count 61 = .ok (.getfield 9, 3) := by decide +kernel
theorem dX0_count_64 : decode cX0_count 64 = .ok (.aload_n 0, 1) := by decide +kernel
theorem dX0_count_65 : decode cX0_count 65 = .ok (.getfield 32, 3) := by decide +kernel
theorem dX0_count_68 : decode cX0_count 68 = .ok (.iload_n 2, 1) := by decide +kernel
theorem dX0_count_69 : decode cX0_count 69 = .ok (.iaload, 1) := by decide +kernel
theorem dX0_count_70 : decode cX0_count 70 = .ok (.iaload, 1) := by decide +kernel
theorem dX0_count_71 : decode cX0_count 71 = .ok (.invokevirtual 118, 3) := by decide +kernel
theorem dX0_count_74 : decode cX0_count 74 = .ok (.iadd, 1) := by decide +kernel
theorem dX0_count_75 : decode cX0_count 75 = .ok (.istore_n 1, 1) := by decide +kernel
theorem dX0_count_76 : decode cX0_count 76 = .ok (.iinc 2 1, 3) := by decide +kernel
theorem dX0_count_79 : decode cX0_count 79 = .ok (.goto (-75), 3) := by decide +kernel
theorem dX0_count_82 : decode cX0_count 82 = .ok (.aload_n 0, 1) := by decide +kernel
theorem dX0_count_83 : decode cX0_count 83 = .ok (.iload_n 1, 1) := by decide +kernel
theorem dX0_count_84 : decode cX0_count 84 = .ok (.invokevirtual 130, 3) := by decide +kernel
theorem dX0_count_87 : decode cX0_count 87 = .ok (.ireturn, 1) := by decide +kernel
set_option maxRecDepth 20000 in
theorem ggX0_price_X0_count : GoodIn wsX0_price wsX0_count := goodIn_r _ [6, 7, 8, 9, 10, 11, 12, 13, 5, 14, 15, 16, 17, 18, 19, 20, 21, 22, 23, 24, 25, 26, 27, 28, 29, 30, 31, 32, 33, 34, 35, 36, 37, 38, 39, 40, 41, 42, 43, 44, 45, 46] (by decide +kernel) (by decide +kernel)
set_option maxRecDepth 20000 in
theorem gX0_price_X0_count : GoodIn wsX0_price (wsV RX0 105 RX0 yX0_count wsX0_count) := goodIn_app (goodIn_of _ (by decide +kernel)) ggX0_price_X0_count
theorem dX0_price_0 : decode cX0_price 0 = .ok (.aload_n 0, 1) := by decide +kernel
theorem dX0_price_1 : decode cX0_price 1 = .ok (.invokevirtual 105, 3) := by decide +kernel
theorem dX0_price_4 : decode cX0_price 4 = .ok (.aload_n 0, 1) := by decide +kernel
theorem dX0_price_5 : decode cX0_price 5 = .ok (.getfield 29, 3) := by decide +kernel
theorem dX0_price_8 : decode cX0_price 8 = .ok (.imul, 1) := by decide +kernel
theorem dX0_price_9 : decode cX0_price 9 = .ok (.ireturn, 1) := by decide +kernel
set_option maxRecDepth 20000 in
theorem ggX0_priceTo_X0_price : GoodIn wsX0_priceTo wsX0_price := goodIn_r _ [7, 8, 9, 10, 11, 6, 12, 13, 14, 15, 16, 17, 18, 19, 20, 21, 22, 23, 24, 25, 26, 27, 28, 29, 30, 31, 32, 33, 34, 35, 36, 37, 38, 39, 40, 41, 42, 43, 44, 45, 46, 47, 48, 49, 50, 51, 52] (by decide +kernel) (by decide +kernel)
set_option maxRecDepth 20000 in
theorem gX0_priceTo_X0_price : GoodIn wsX0_priceTo (wsV RX0 138 RX0 yX0_price wsX0_price) := goodIn_app (goodIn_of _ (by decide +kernel)) ggX0_priceTo_X0_price
theorem dX0_priceTo_0 : decode cX0_priceTo 0 = .ok (.iload_n 1, 1) := by decide +kernel
theorem dX0_priceTo_1 : decode cX0_priceTo 1 = .ok (.ifCond .lt 8, 3) := by decide +kernel
theorem dX0_priceTo_4 : decode cX0_priceTo 4 = .ok (.iload_n 1, 1) := by decide +kernel
theorem dX0_priceTo_5 : decode cX0_priceTo 5 = .ok (.iconst 4, 1) := by decide +kernel
theorem dX0_priceTo_6 : decode cX0_priceTo 6 = .ok (.if_icmp .lt 13, 3) := by decide +kernel
theorem dX0_priceTo_9 : decode cX0_priceTo 9 = .ok (.new 133, 3) := by decide +kernel
theorem dX0_priceTo_12 : decode cX0_priceTo 12 = .ok (.dup, 1) := by decide +kernel
theorem dX0_priceTo_13 : decode cX0_priceTo 13 = .ok (.ldc 135, 2) := by decide +kernel
theorem dX0_priceTo_15 : decode cX0_priceTo 15 = .ok (.invokespecial 137, 3) := by decide +kernel
theorem dX0_priceTo_18 : decode cX0_priceTo 18 = .ok (.athrow, 1) := by decide +kernel
theorem dX0_priceTo_19 : decode cX0_priceTo 19 = .ok (.aload_n 0, 1) := by decide +kernel
theorem dX0_priceTo_20 : decode cX0_priceTo 20 = .ok (.invokevirtual 138, 3) := by decide +kernel
theorem dX0_priceTo_23 : decode cX0_priceTo 23 = .ok (.iload_n 1, 1) := by decide +kernel
theorem dX0_priceTo_24 : decode cX0_priceTo 24 = .ok (.iconst 2, 1) := by decide +kernel
theorem dX0_priceTo_25 : decode cX0_priceTo 25 = .ok (.iadd, 1) := by decide +kernel
theorem dX0_priceTo_26 : decode cX0_priceTo 26 = .ok (.imul, 1) := by decide +kernel
theorem dX0_priceTo_27 : decode cX0_priceTo 27 = .ok (.iconst 2, 1) := by decide +kernel
theorem dX0_priceTo_28 : decode cX0_priceTo 28 = .ok (.idiv, 1) := by decide +kernel
theorem dX0_priceTo_29 : decode cX0_priceTo 29 = .ok (.ireturn, 1) := by decide +kernel
theorem dX0_sent_0 : decode cX0_sent 0 = .ok (.aload_n 0, 1) := by decide +kernel
theorem dX0_sent_1 : decode cX0_sent 1 = .ok (.getfield 42, 3) := by decide +kernel
theorem dX0_sent_4 : decode cX0_sent 4 = .ok (.ireturn, 1) := by decide +kernel
theorem dX0_earned_0 : decode cX0_earned 0 = .ok (.aload_n 0, 1) := by decide +kernel
theorem dX0_earned_1 : decode cX0_earned 1 = .ok (.getfield 45, 3) := by decide +kernel
theorem dX0_earned_4 : decode cX0_earned 4 = .ok (.ireturn, 1) := by decide +kernel
set_option maxRecDepth 20000 in
theorem ggX0_cheapestCount_X0_noteLeastCounts : GoodIn wsX0_cheapestCount wsX0_noteLeastCounts := goodIn_r _ [6, 7, 8, 9, 1, 10, 11, 12, 13, 5, 14, 15, 16, 17, 18, 19, 20, 21, 22, 23, 24, 25, 26, 27, 28, 29, 30, 31, 32, 33, 34, 35, 36, 37, 38, 56, 57, 58, 59, 60, 61, 62, 63, 64, 65, 66, 67, 68, 69, 70, 71, 72, 73] (by decide +kernel) (by decide +kernel)
set_option maxRecDepth 20000 in
theorem gX0_cheapestCount_X0_noteLeastCounts : GoodIn wsX0_cheapestCount (wsV RX0 141 RX0 yX0_noteLeastCounts wsX0_noteLeastCounts) := goodIn_app (goodIn_of _ (by decide +kernel)) ggX0_cheapestCount_X0_noteLeastCounts
set_option maxRecDepth 20000 in
theorem ggX0_cheapestCount_X0_leastInAll : GoodIn wsX0_cheapestCount wsX0_leastInAll := goodIn_r _ [42, 43, 7, 8, 44, 45, 46, 47, 56, 57, 58, 59, 60, 61, 62, 63, 64, 65, 66, 67, 68, 69, 70, 71, 72, 73] (by decide +kernel) (by decide +kernel)
set_option maxRecDepth 20000 in
theorem gX0_cheapestCount_X0_leastInAll : GoodIn wsX0_cheapestCount (wsV RX0 144 RX0 yX0_leastInAll wsX0_leastInAll) := goodIn_app (goodIn_of _ (by decide +kernel)) ggX0_cheapestCount_X0_leastInAll
set_option maxRecDepth 20000 in
theorem ggX0_cheapestCount_X0_atLeastTheLeastCount : GoodIn wsX0_cheapestCount wsX0_atLeastTheLeastCount := goodIn_r _ [51, 7, 52, 53, 54, 46, 55, 56, 57, 58, 59, 60, 61, 62, 63, 64, 65, 66, 67, 68, 69, 70, 71, 72, 73] (by decide +kernel) (by decide +kernel)
set_option maxRecDepth 20000 in
theorem gX0_cheapestCount_X0_atLeastTheLeastCount : GoodIn wsX0_cheapestCount (wsV RX0 130 RX0 yX0_atLeastTheLeastCount wsX0_atLeastTheLeastCount) := goodIn_app (goodIn_of _ (by decide +kernel)) ggX0_cheapestCount_X0_atLeastTheLeastCount
theorem dX0_cheapestCount_0 : decode cX0_cheapestCount 0 = .ok (.aload_n 0, 1) := by decide +kernel
theorem dX0_cheapestCount_1 : decode cX0_cheapestCount 1 = .ok (.invokevirtual 141, 3) := by decide +kernel
theorem dX0_cheapestCount_4 : decode cX0_cheapestCount 4 = .ok (.aload_n 0, 1) := by decide +kernel
theorem dX0_cheapestCount_5 : decode cX0_cheapestCount 5 = .ok (.aload_n 0, 1) := by decide +kernel
theorem dX0_cheapestCount_6 : decode cX0_cheapestCount 6 = .ok (.aload_n 0, 1) := by decide +kernel
theorem dX0_cheapestCount_7 : decode cX0_cheapestCount 7 = .ok (.getfield 51, 3) := by decide +kernel
theorem dX0_cheapestCount_10 : decode cX0_cheapestCount 10 = .ok (.invokevirtual 144, 3) := by decide +kernel
theorem dX0_cheapestCount_13 : decode cX0_cheapestCount 13 = .ok (.invokevirtual 130, 3) := by decide +kernel
theorem dX0_cheapestCount_16 : decode cX0_cheapestCount 16 = .ok (.ireturn, 1) := by decide +kernel
set_option maxRecDepth 20000 in
theorem ggX0_isJoinedInCheapest_X0_needPlace : GoodIn wsX0_isJoinedInCheapest wsX0_needPlace := goodIn_ca (goodIn_r _ [6, 7, 8, 9, 64, 65, 66, 67, 68, 69, 70, 71, 72, 73, 74, 75, 76, 77, 78, 79, 80, 81] (by decide +kernel) (by decide +kernel)) (goodIn_sub (fun _ h => List.mem_cons_of_mem _ (List.mem_append_right _ h)) (by decide +kernel))
set_option maxRecDepth 20000 in
theorem gX0_isJoinedInCheapest_X0_needPlace : GoodIn wsX0_isJoinedInCheapest (wsV RX0 96 RX0 yX0_needPlace wsX0_needPlace) := goodIn_app (goodIn_of _ (by decide +kernel)) ggX0_isJoinedInCheapest_X0_needPlace
set_option maxRecDepth 20000 in
theorem ggX0_isJoinedInCheapest_X0_noteCheapestWording : GoodIn wsX0_isJoinedInCheapest wsX0_noteCheapestWording := goodIn_r _ [13, 14, 9, 15, 16, 17, 18, 19, 5, 20, 21, 22, 23, 24, 25, 26, 27, 28, 29, 30, 31, 32, 33, 34, 35, 36, 37, 38, 39, 40, 41, 42, 43, 44, 45, 46, 47, 48, 49, 50, 51, 52, 53, 54, 55, 56, 57, 58, 59, 60, 61, 62, 63, 1, 64, 65, 66, 67, 68, 69, 70, 71, 72, 73, 74, 75, 76, 77, 78, 79, 80, 81] (by decide +kernel) (by decide +kernel)
set_option maxRecDepth 20000 in
theorem gX0_isJoinedInCheapest_X0_noteCheapestWording : GoodIn wsX0_isJoinedInCheapest (wsV RX0 109 RX0 yX0_noteCheapestWording wsX0_noteCheapestWording) := goodIn_app (goodIn_of _ (by decide +kernel)) ggX0_isJoinedInCheapest_X0_noteCheapestWording
theorem dX0_isJoinedInCheapest_0 : decode cX0_isJoinedInCheapest 0 = .ok (.aload_n 0, 1) := by decide +kernel
theorem dX0_isJoinedInCheapest_1 : decode cX0_isJoinedInCheapest 1 = .ok (.iload_n 1, 1) := by decide +kernel
theorem dX0_isJoinedInCheapest_2 : decode cX0_isJoinedInCheapest 2 = .ok (.invokevirtual 96, 3) := by decide +kernel
theorem dX0_isJoinedInCheapest_5 : decode cX0_isJoinedInCheapest 5 = .ok (.aload_n 0, 1) := by decide +kernel
theorem dX0_isJoinedInCheapest_6 : decode cX0_isJoinedInCheapest 6 = .ok (.invokevirtual 109, 3) := by decide +kernel
theorem dX0_isJoinedInCheapest_9 : decode cX0_isJoinedInCheapest 9 = .ok (.aload_n 0, 1) := by decide +kernel
theorem dX0_isJoinedInCheapest_10 : decode cX0_isJoinedInCheapest 10 = .ok (.getfield 63, 3) := by decide +kernel
theorem dX0_isJoinedInCheapest_13 : decode cX0_isJoinedInCheapest 13 = .ok (.iload_n 1, 1) := by decide +kernel
theorem dX0_isJoinedInCheapest_14 : decode cX0_isJoinedInCheapest 14 = .ok (.baload, 1) := by decide +kernel
theorem dX0_isJoinedInCheapest_15 : decode cX0_isJoinedInCheapest 15 = .ok (.ireturn, 1) := by decide +kernel
set_option maxRecDepth 20000 in
theorem ggX0_saves_X0_price : GoodIn wsX0_saves wsX0_price := goodIn_r _ [6, 1, 7, 8, 9, 5, 10, 11, 12, 13, 14, 15, 16, 17, 18, 19, 20, 21, 22, 23, 24, 25, 26, 27, 28, 29, 30, 31, 32, 70, 71, 72, 73, 74, 75, 76, 77, 78, 79, 80, 81, 82, 83, 84, 85, 86, 87] (by decide +kernel) (by decide +kernel)
set_option maxRecDepth 20000 in
theorem gX0_saves_X0_price : GoodIn wsX0_saves (wsV RX0 138 RX0 yX0_price wsX0_price) := goodIn_app (goodIn_of _ (by decide +kernel)) ggX0_saves_X0_price
set_option maxRecDepth 20000 in
theorem ggX0_saves_X0_cheapestCount : GoodIn wsX0_saves wsX0_cheapestCount := goodIn_r _ [36, 37, 38, 39, 40, 5, 41, 11, 42, 14, 43, 44, 45, 46, 47, 13, 48, 49, 50, 51, 52, 53, 54, 55, 56, 19, 20, 21, 22, 23, 57, 58, 59, 60, 61, 15, 16, 17, 18, 62, 63, 64, 65, 66, 67, 68, 31, 69, 24, 25, 26, 27, 28, 29, 30, 32, 70, 71, 72, 73, 74, 75, 76, 77, 78, 79, 80, 81, 82, 83, 84, 85, 86, 87] (by decide +kernel) (by decide +kernel)
set_option maxRecDepth 20000 in
theorem gX0_saves_X0_cheapestCount : GoodIn wsX0_saves (wsV RX0 148 RX0 yX0_cheapestCount wsX0_cheapestCount) := goodIn_app (goodIn_of _ (by decide +kernel)) ggX0_saves_X0_cheapestCount
theorem dX0_saves_0 : decode cX0_saves 0 = .ok (.aload_n 0, 1) := by decide +kernel
theorem dX0_saves_1 : decode cX0_saves 1 = .ok (.invokevirtual 138, 3) := by decide +kernel
theorem dX0_saves_4 : decode cX0_saves 4 = .ok (.aload_n 0, 1) := by decide +kernel
theorem dX0_saves_5 : decode cX0_saves 5 = .ok (.invokevirtual 148, 3) := by decide +kernel
theorem dX0_saves_8 : decode cX0_saves 8 = .ok (.aload_n 0, 1) := by decide +kernel
theorem dX0_saves_9 : decode cX0_saves 9 = .ok (.getfield 29, 3) := by decide +kernel
theorem dX0_saves_12 : decode cX0_saves 12 = .ok (.imul, 1) := by decide +kernel
theorem dX0_saves_13 : decode cX0_saves 13 = .ok (.isub, 1) := by decide +kernel
theorem dX0_saves_14 : decode cX0_saves 14 = .ok (.ireturn, 1) := by decide +kernel
set_option maxRecDepth 20000 in
theorem ggX0_wordings_J6_bitCount_0f7a4 : GoodIn wsX0_wordings wsJ6_bitCount_0f7a4 := goodIn_r _ [12, 13, 14, 15] (by decide +kernel) (by decide +kernel)
set_option maxRecDepth 20000 in
theorem gX0_wordings_J6_bitCount_0f7a4 : GoodIn wsX0_wordings (va_wsS RX0 121 yJ6_bitCount_0f7a4 wsJ6_bitCount_0f7a4) := goodIn_app (goodIn_of _ (by decide +kernel)) ggX0_wordings_J6_bitCount_0f7a4
theorem dX0_wordings_0 : decode cX0_wordings 0 = .ok (.iconst 1, 1) := by decide +kernel
theorem dX0_wordings_1 : decode cX0_wordings 1 = .ok (.istore_n 1, 1) := by decide +kernel
theorem dX0_wordings_2 : decode cX0_wordings 2 = .ok (.iconst 0, 1) := by decide +kernel
theorem dX0_wordings_3 : decode cX0_wordings 3 = .ok (.istore_n 2, 1) := by decide +kernel
theorem dX0_wordings_4 : decode cX0_wordings 4 = .ok (.iload_n 2, 1) := by decide +kernel
theorem dX0_wordings_5 : decode cX0_wordings 5 = .ok (.aload_n 0, 1) := by decide +kernel
theorem dX0_wordings_6 : decode cX0_wordings 6 = .ok (.getfield 39, 3) := by decide +kernel
theorem dX0_wordings_9 : decode cX0_wordings 9 = .ok (.if_icmp .ge 31, 3) := by decide +kernel
theorem dX0_wordings_12 : decode cX0_wordings 12 = .ok (.iload_n 1, 1) := by decide +kernel
theorem dX0_wordings_13 : decode cX0_wordings 13 = .ok (.aload_n 0, 1) := by decide +kernel
theorem dX0_wordings_14 : decode cX0_wordings 14 = .ok (.getfield 13, 3) := by decide +kernel
theorem dX0_wordings_17 : decode cX0_wordings 17 = .ok (.aload_n 0, 1) := by decide +kernel
theorem dX0_wordings_18 : decode cX0_wordings 18 = .ok (.getfield 32, 3) := by decide +kernel
theorem dX0_wordings_21 : decode cX0_wordings 21 = .ok (.iload_n 2, 1) := by decide +kernel
theorem dX0_wordings_22 : decode cX0_wordings 22 = .ok (.iaload, 1) := by decide +kernel
theorem dX0_wordings_23 : decode cX0_wordings 23 = .ok (.iaload, 1) := by decide +kernel
theorem dX0_wordings_24 : decode cX0_wordings 24 = .ok (.invokestatic 121, 3) := by decide +kernel
theorem dX0_wordings_27 : decode cX0_wordings 27 = .ok (.imul, 1) := by decide +kernel
theorem dX0_wordings_28 : decode cX0_wordings 28 = .ok (.ldc 151, 2) := by decide +kernel
theorem dX0_wordings_30 : decode cX0_wordings 30 = .ok (.invokestatic 152, 3) := by decide +kernel
theorem dX0_wordings_33 : decode cX0_wordings 33 = .ok (.istore_n 1, 1) := by decide +kernel
theorem dX0_wordings_34 : decode cX0_wordings 34 = .ok (.iinc 2 1, 3) := by decide +kernel
theorem dX0_wordings_37 : decode cX0_wordings 37 = .ok (.goto (-33), 3) := by decide +kernel
theorem dX0_wordings_40 : decode cX0_wordings 40 = .ok (.iload_n 1, 1) := by decide +kernel
theorem dX0_wordings_41 : decode cX0_wordings 41 = .ok (.ireturn, 1) := by decide +kernel
theorem dX0_meanCost_0 : decode cX0_meanCost 0 = .ok (.aload_n 0, 1) := by decide +kernel
theorem dX0_meanCost_1 : decode cX0_meanCost 1 = .ok (.getfield 42, 3) := by decide +kernel
theorem dX0_meanCost_4 : decode cX0_meanCost 4 = .ok (.ifCond .ne 5, 3) := by decide +kernel
theorem dX0_meanCost_7 : decode cX0_meanCost 7 = .ok (.dconst 0, 1) := by decide +kernel
theorem dX0_meanCost_8 : decode cX0_meanCost 8 = .ok (.dreturn, 1) := by decide +kernel
theorem dX0_meanCost_9 : decode cX0_meanCost 9 = .ok (.aload_n 0, 1) := by decide +kernel
theorem dX0_meanCost_10 : decode cX0_meanCost 10 = .ok (.getfield 45, 3) := by decide +kernel
theorem dX0_meanCost_13 : decode cX0_meanCost 13 = .ok (.i2d, 1) := by decide +kernel
theorem dX0_meanCost_14 : decode cX0_meanCost 14 = .ok (.aload_n 0, 1) := by decide +kernel
theorem dX0_meanCost_15 : decode cX0_meanCost 15 = .ok (.getfield 42, 3) := by decide +kernel
theorem dX0_meanCost_18 : decode cX0_meanCost 18 = .ok (.i2d, 1) := by decide +kernel
theorem dX0_meanCost_19 : decode cX0_meanCost 19 = .ok (.ddiv, 1) := by decide +kernel
theorem dX0_meanCost_20 : decode cX0_meanCost 20 = .ok (.dreturn, 1) := by decide +kernel
theorem dX0_needWord_0 : decode cX0_needWord 0 = .ok (.iload_n 1, 1) := by decide +kernel
theorem dX0_needWord_1 : decode cX0_needWord 1 = .ok (.ifCond .lt 11, 3) := by decide +kernel
theorem dX0_needWord_4 : decode cX0_needWord 4 = .ok (.iload_n 1, 1) := by decide +kernel
theorem dX0_needWord_5 : decode cX0_needWord 5 = .ok (.aload_n 0, 1) := by decide +kernel
theorem dX0_needWord_6 : decode cX0_needWord 6 = .ok (.getfield 19, 3) := by decide +kernel
theorem dX0_needWord_9 : decode cX0_needWord 9 = .ok (.if_icmp .lt 13, 3) := by decide +kernel
theorem dX0_needWord_12 : decode cX0_needWord 12 = .ok (.new 133, 3) := by decide +kernel
theorem dX0_needWord_15 : decode cX0_needWord 15 = .ok (.dup, 1) := by decide +kernel
theorem dX0_needWord_16 : decode cX0_needWord 16 = .ok (.ldc 171, 2) := by decide +kernel
theorem dX0_needWord_18 : decode cX0_needWord 18 = .ok (.invokespecial 137, 3) := by decide +kernel
theorem dX0_needWord_21 : decode cX0_needWord 21 = .ok (.athrow, 1) := by decide +kernel
theorem dX0_needWord_22 : decode cX0_needWord 22 = .ok (.return_, 1) := by decide +kernel
theorem dX0_needPlace_0 : decode cX0_needPlace 0 = .ok (.iload_n 1, 1) := by decide +kernel
theorem dX0_needPlace_1 : decode cX0_needPlace 1 = .ok (.ifCond .lt 11, 3) := by decide +kernel
theorem dX0_needPlace_4 : decode cX0_needPlace 4 = .ok (.iload_n 1, 1) := by decide +kernel
theorem dX0_needPlace_5 : decode cX0_needPlace 5 = .ok (.aload_n 0, 1) := by decide +kernel
theorem dX0_needPlace_6 : decode cX0_needPlace 6 = .ok (.getfield 39, 3) := by decide +kernel
theorem dX0_needPlace_9 : decode cX0_needPlace 9 = .ok (.if_icmp .lt 13, 3) := by decide +kernel
theorem dX0_needPlace_12 : decode cX0_needPlace 12 = .ok (.new 133, 3) := by decide +kernel
theorem dX0_needPlace_15 : decode cX0_needPlace 15 = .ok (.dup, 1) := by decide +kernel
theorem dX0_needPlace_16 : decode cX0_needPlace 16 = .ok (.ldc 173, 2) := by decide +kernel
theorem dX0_needPlace_18 : decode cX0_needPlace 18 = .ok (.invokespecial 137, 3) := by decide +kernel
theorem dX0_needPlace_21 : decode cX0_needPlace 21 = .ok (.athrow, 1) := by decide +kernel
theorem dX0_needPlace_22 : decode cX0_needPlace 22 = .ok (.return_, 1) := by decide +kernel
theorem dX0_hasBit_0 : decode cX0_hasBit 0 = .ok (.iload_n 0, 1) := by decide +kernel
theorem dX0_hasBit_1 : decode cX0_hasBit 1 = .ok (.iload_n 1, 1) := by decide +kernel
theorem dX0_hasBit_2 : decode cX0_hasBit 2 = .ok (.ishr, 1) := by decide +kernel
theorem dX0_hasBit_3 : decode cX0_hasBit 3 = .ok (.iconst 1, 1) := by decide +kernel
theorem dX0_hasBit_4 : decode cX0_hasBit 4 = .ok (.iand, 1) := by decide +kernel
theorem dX0_hasBit_5 : decode cX0_hasBit 5 = .ok (.iconst 1, 1) := by decide +kernel
theorem dX0_hasBit_6 : decode cX0_hasBit 6 = .ok (.if_icmp .ne 7, 3) := by decide +kernel
theorem dX0_hasBit_9 : decode cX0_hasBit 9 = .ok (.iconst 1, 1) := by decide +kernel
theorem dX0_hasBit_10 : decode cX0_hasBit 10 = .ok (.goto 4, 3) := by decide +kernel
theorem dX0_hasBit_13 : decode cX0_hasBit 13 = .ok (.iconst 0, 1) := by decide +kernel
theorem dX0_hasBit_14 : decode cX0_hasBit 14 = .ok (.ireturn, 1) := by decide +kernel
theorem dX0_countOfLetters_0 : decode cX0_countOfLetters 0 = .ok (.iload_n 1, 1) := by decide +kernel
theorem dX0_countOfLetters_1 : decode cX0_countOfLetters 1 = .ok (.aload_n 0, 1) := by decide +kernel
theorem dX0_countOfLetters_2 : decode cX0_countOfLetters 2 = .ok (.getfield 23, 3) := by decide +kernel
theorem dX0_countOfLetters_5 : decode cX0_countOfLetters 5 = .ok (.iadd, 1) := by decide +kernel
theorem dX0_countOfLetters_6 : decode cX0_countOfLetters 6 = .ok (.iconst 1, 1) := by decide +kernel
theorem dX0_countOfLetters_7 : decode cX0_countOfLetters 7 = .ok (.isub, 1) := by decide +kernel
theorem dX0_countOfLetters_8 : decode cX0_countOfLetters 8 = .ok (.aload_n 0, 1) := by decide +kernel
theorem dX0_countOfLetters_9 : decode cX0_countOfLetters 9 = .ok (.getfield 23, 3) := by decide +kernel
theorem dX0_countOfLetters_12 : decode cX0_countOfLetters 12 = .ok (.idiv, 1) := by decide +kernel
theorem dX0_countOfLetters_13 : decode cX0_countOfLetters 13 = .ok (.ireturn, 1) := by decide +kernel
set_option maxRecDepth 20000 in
theorem ggX0_countOfPair_X0_countOfLetters : GoodIn wsX0_countOfPair wsX0_countOfLetters := goodIn_r _ [6, 7, 8, 9, 10, 11, 12, 13, 14, 15, 16, 17, 18, 19, 20, 21, 22, 23, 24, 25] (by decide +kernel) (by decide +kernel)
set_option maxRecDepth 20000 in
theorem gX0_countOfPair_X0_countOfLetters : GoodIn wsX0_countOfPair (wsV RX0 118 RX0 yX0_countOfLetters wsX0_countOfLetters) := goodIn_app (goodIn_of _ (by decide +kernel)) ggX0_countOfPair_X0_countOfLetters
theorem dX0_countOfPair_0 : decode cX0_countOfPair 0 = .ok (.aload_n 0, 1) := by decide +kernel
theorem dX0_countOfPair_1 : decode cX0_countOfPair 1 = .ok (.aload_n 0, 1) := by decide +kernel
theorem dX0_countOfPair_2 : decode cX0_countOfPair 2 = .ok (.getfield 9, 3) := by decide +kernel
theorem dX0_countOfPair_5 : decode cX0_countOfPair 5 = .ok (.iload_n 1, 1) := by decide +kernel
theorem dX0_countOfPair_6 : decode cX0_countOfPair 6 = .ok (.iaload, 1) := by decide +kernel
theorem dX0_countOfPair_7 : decode cX0_countOfPair 7 = .ok (.aload_n 0, 1) := by decide +kernel
theorem dX0_countOfPair_8 : decode cX0_countOfPair 8 = .ok (.getfield 9, 3) := by decide +kernel
theorem dX0_countOfPair_11 : decode cX0_countOfPair 11 = .ok (.iload_n 2, 1) := by decide +kernel
theorem dX0_countOfPair_12 : decode cX0_countOfPair 12 = .ok (.iaload, 1) := by decide +kernel
theorem dX0_countOfPair_13 : decode cX0_countOfPair 13 = .ok (.iadd, 1) := by decide +kernel
theorem dX0_countOfPair_14 : decode cX0_countOfPair 14 = .ok (.invokevirtual 118, 3) := by decide +kernel
theorem dX0_countOfPair_17 : decode cX0_countOfPair 17 = .ok (.ireturn, 1) := by decide +kernel
theorem dX0_atLeastTheLeastCount_0 : decode cX0_atLeastTheLeastCount 0 = .ok (.aload_n 0, 1) := by decide +kernel
theorem dX0_atLeastTheLeastCount_1 : decode cX0_atLeastTheLeastCount 1 = .ok (.getfield 39, 3) := by decide +kernel
theorem dX0_atLeastTheLeastCount_4 : decode cX0_atLeastTheLeastCount 4 = .ok (.ifCond .ne 7, 3) := by decide +kernel
theorem dX0_atLeastTheLeastCount_7 : decode cX0_atLeastTheLeastCount 7 = .ok (.iconst 0, 1) := by decide +kernel
theorem dX0_atLeastTheLeastCount_8 : decode cX0_atLeastTheLeastCount 8 = .ok (.goto 11, 3) := by decide +kernel
theorem dX0_atLeastTheLeastCount_11 : decode cX0_atLeastTheLeastCount 11 = .ok (.iload_n 1, 1) := by decide +kernel
theorem dX0_atLeastTheLeastCount_12 : decode cX0_atLeastTheLeastCount 12 = .ok (.aload_n 0, 1) := by decide +kernel
theorem dX0_atLeastTheLeastCount_13 : decode cX0_atLeastTheLeastCount 13 = .ok (.getfield 26, 3) := by decide +kernel
theorem dX0_atLeastTheLeastCount_16 : decode cX0_atLeastTheLeastCount 16 = .ok (.invokestatic 175, 3) := by decide +kernel
theorem dX0_atLeastTheLeastCount_19 : decode cX0_atLeastTheLeastCount 19 = .ok (.ireturn, 1) := by decide +kernel
set_option maxRecDepth 20000 in
theorem ggX0_couldBeJoined_X0_hasBit : GoodIn wsX0_couldBeJoined wsX0_hasBit := goodIn_r _ [7] (by decide +kernel) (by decide +kernel)
set_option maxRecDepth 20000 in
theorem gX0_couldBeJoined_X0_hasBit : GoodIn wsX0_couldBeJoined (va_wsS RX0 84 yX0_hasBit wsX0_hasBit) := goodIn_app (goodIn_of _ (by decide +kernel)) ggX0_couldBeJoined_X0_hasBit
theorem dX0_couldBeJoined_0 : decode cX0_couldBeJoined 0 = .ok (.iload_n 1, 1) := by decide +kernel
theorem dX0_couldBeJoined_1 : decode cX0_couldBeJoined 1 = .ok (.ifCond .le 14, 3) := by decide +kernel
theorem dX0_couldBeJoined_4 : decode cX0_couldBeJoined 4 = .ok (.aload_n 0, 1) := by decide +kernel
theorem dX0_couldBeJoined_5 : decode cX0_couldBeJoined 5 = .ok (.getfield 35, 3) := by decide +kernel
theorem dX0_couldBeJoined_8 : decode cX0_couldBeJoined 8 = .ok (.iload_n 1, 1) := by decide +kernel
theorem dX0_couldBeJoined_9 : decode cX0_couldBeJoined 9 = .ok (.iconst 1, 1) := by decide +kernel
theorem dX0_couldBeJoined_10 : decode cX0_couldBeJoined 10 = .ok (.isub, 1) := by decide +kernel
theorem dX0_couldBeJoined_11 : decode cX0_couldBeJoined 11 = .ok (.baload, 1) := by decide +kernel
theorem dX0_couldBeJoined_12 : decode cX0_couldBeJoined 12 = .ok (.ifCond .ne 14, 3) := by decide +kernel
theorem dX0_couldBeJoined_15 : decode cX0_couldBeJoined 15 = .ok (.aload_n 0, 1) := by decide +kernel
theorem dX0_couldBeJoined_16 : decode cX0_couldBeJoined 16 = .ok (.getfield 35, 3) := by decide +kernel
theorem dX0_couldBeJoined_19 : decode cX0_couldBeJoined 19 = .ok (.iload_n 1, 1) := by decide +kernel
theorem dX0_couldBeJoined_20 : decode cX0_couldBeJoined 20 = .ok (.iconst 1, 1) := by decide +kernel
theorem dX0_couldBeJoined_21 : decode cX0_couldBeJoined 21 = .ok (.iadd, 1) := by decide +kernel
theorem dX0_couldBeJoined_22 : decode cX0_couldBeJoined 22 = .ok (.baload, 1) := by decide +kernel
theorem dX0_couldBeJoined_23 : decode cX0_couldBeJoined 23 = .ok (.ifCond .eq 7, 3) := by decide +kernel
theorem dX0_couldBeJoined_26 : decode cX0_couldBeJoined 26 = .ok (.iconst 1, 1) := by decide +kernel
theorem dX0_couldBeJoined_27 : decode cX0_couldBeJoined 27 = .ok (.goto 4, 3) := by decide +kernel
theorem dX0_couldBeJoined_30 : decode cX0_couldBeJoined 30 = .ok (.iconst 0, 1) := by decide +kernel
theorem dX0_couldBeJoined_31 : decode cX0_couldBeJoined 31 = .ok (.istore_n 2, 1) := by decide +kernel
theorem dX0_couldBeJoined_32 : decode cX0_couldBeJoined 32 = .ok (.iload_n 2, 1) := by decide +kernel
theorem dX0_couldBeJoined_33 : decode cX0_couldBeJoined 33 = .ok (.ifCond .ne 32, 3) := by decide +kernel
theorem dX0_couldBeJoined_36 : decode cX0_couldBeJoined 36 = .ok (.aload_n 0, 1) := by decide +kernel
theorem dX0_couldBeJoined_37 : decode cX0_couldBeJoined 37 = .ok (.getfield 16, 3) := by decide +kernel
theorem dX0_couldBeJoined_40 : decode cX0_couldBeJoined 40 = .ok (.aload_n 0, 1) := by decide +kernel
theorem dX0_couldBeJoined_41 : decode cX0_couldBeJoined 41 = .ok (.getfield 32, 3) := by decide +kernel
theorem dX0_couldBeJoined_44 : decode cX0_couldBeJoined 44 = .ok (.iload_n 1, 1) := by decide +kernel
theorem dX0_couldBeJoined_45 : decode cX0_couldBeJoined 45 = .ok (.iaload, 1) := by decide +kernel
theorem dX0_couldBeJoined_46 : decode cX0_couldBeJoined 46 = .ok (.iaload, 1) := by decide +kernel
theorem dX0_couldBeJoined_47 : decode cX0_couldBeJoined 47 = .ok (.aload_n 0, 1) := by decide +kernel
theorem dX0_couldBeJoined_48 : decode cX0_couldBeJoined 48 = .ok (.getfield 32, 3) := by decide +kernel
theorem dX0_couldBeJoined_51 : decode cX0_couldBeJoined 51 = .ok (.iload_n 1, 1) := by decide +kernel
theorem dX0_couldBeJoined_52 : decode cX0_couldBeJoined 52 = .ok (.iconst 1, 1) := by decide +kernel
theorem dX0_couldBeJoined_53 : decode cX0_couldBeJoined 53 = .ok (.iadd, 1) := by decide +kernel
theorem dX0_couldBeJoined_54 : decode cX0_couldBeJoined 54 = .ok (.iaload, 1) := by decide +kernel
theorem dX0_couldBeJoined_55 : decode cX0_couldBeJoined 55 = .ok (.invokestatic 84, 3) := by decide +kernel
theorem dX0_couldBeJoined_58 : decode cX0_couldBeJoined 58 = .ok (.ifCond .eq 7, 3) := by decide +kernel
theorem dX0_couldBeJoined_61 : decode cX0_couldBeJoined 61 = .ok (.iconst 1, 1) := by decide +kernel
theorem dX0_couldBeJoined_62 : decode cX0_couldBeJoined 62 = .ok (.goto 4, 3) := by decide +kernel
theorem dX0_couldBeJoined_65 : decode cX0_couldBeJoined 65 = .ok (.iconst 0, 1) := by decide +kernel
theorem dX0_couldBeJoined_66 : decode cX0_couldBeJoined 66 = .ok (.ireturn, 1) := by decide +kernel
set_option maxRecDepth 20000 in
theorem ggX0_mayHold_X0_hasBit : GoodIn wsX0_mayHold wsX0_hasBit := goodIn_r _ [7] (by decide +kernel) (by decide +kernel)
set_option maxRecDepth 20000 in
theorem gX0_mayHold_X0_hasBit : GoodIn wsX0_mayHold (va_wsS RX0 84 yX0_hasBit wsX0_hasBit) := goodIn_app (goodIn_of _ (by decide +kernel)) ggX0_mayHold_X0_hasBit
theorem dX0_mayHold_0 : decode cX0_mayHold 0 = .ok (.iload_n 1, 1) := by decide +kernel
theorem dX0_mayHold_1 : decode cX0_mayHold 1 = .ok (.aload_n 0, 1) := by decide +kernel
theorem dX0_mayHold_2 : decode cX0_mayHold 2 = .ok (.getfield 39, 3) := by decide +kernel
theorem dX0_mayHold_5 : decode cX0_mayHold 5 = .ok (.if_icmp .ge 25, 3) := by decide +kernel
theorem dX0_mayHold_8 : decode cX0_mayHold 8 = .ok (.aload_n 0, 1) := by decide +kernel
theorem dX0_mayHold_9 : decode cX0_mayHold 9 = .ok (.getfield 13, 3) := by decide +kernel
theorem dX0_mayHold_12 : decode cX0_mayHold 12 = .ok (.aload_n 0, 1) := by decide +kernel
theorem dX0_mayHold_13 : decode cX0_mayHold 13 = .ok (.getfield 32, 3) := by decide +kernel
theorem dX0_mayHold_16 : decode cX0_mayHold 16 = .ok (.iload_n 1, 1) := by decide +kernel
theorem dX0_mayHold_17 : decode cX0_mayHold 17 = .ok (.iaload, 1) := by decide +kernel
theorem dX0_mayHold_18 : decode cX0_mayHold 18 = .ok (.iaload, 1) := by decide +kernel
theorem dX0_mayHold_19 : decode cX0_mayHold 19 = .ok (.iload_n 2, 1) := by decide +kernel
theorem dX0_mayHold_20 : decode cX0_mayHold 20 = .ok (.invokestatic 84, 3) := by decide +kernel
theorem dX0_mayHold_23 : decode cX0_mayHold 23 = .ok (.ifCond .eq 7, 3) := by decide +kernel
theorem dX0_mayHold_26 : decode cX0_mayHold 26 = .ok (.iconst 1, 1) := by decide +kernel
theorem dX0_mayHold_27 : decode cX0_mayHold 27 = .ok (.goto 4, 3) := by decide +kernel
theorem dX0_mayHold_30 : decode cX0_mayHold 30 = .ok (.iconst 0, 1) := by decide +kernel
theorem dX0_mayHold_31 : decode cX0_mayHold 31 = .ok (.ireturn, 1) := by decide +kernel
set_option maxRecDepth 20000 in
theorem ggX0_noteLeastCounts_X0_bestWordAt : GoodIn wsX0_noteLeastCounts wsX0_bestWordAt := goodIn_r _ [10, 11, 5, 12, 3, 13, 14, 15, 9, 16, 1, 17, 18, 19, 20, 21, 22, 23, 24, 25, 35, 36, 37, 38, 39, 40, 41, 42, 43, 44, 45, 46, 47, 48, 49, 50, 51, 52] (by decide +kernel) (by decide +kernel)
set_option maxRecDepth 20000 in
theorem gX0_noteLeastCounts_X0_bestWordAt : GoodIn wsX0_noteLeastCounts (wsV RX0 178 RX0 yX0_bestWordAt wsX0_bestWordAt) := goodIn_app (goodIn_of _ (by decide +kernel)) ggX0_noteLeastCounts_X0_bestWordAt
set_option maxRecDepth 20000 in
theorem ggX0_noteLeastCounts_X0_countOfLetters : GoodIn wsX0_noteLeastCounts wsX0_countOfLetters := goodIn_r _ [24, 25, 35, 36, 37, 38, 39, 40, 41, 42, 43, 44, 45, 46, 47, 48, 49, 50, 51, 52] (by decide +kernel) (by decide +kernel)
set_option maxRecDepth 20000 in
theorem gX0_noteLeastCounts_X0_countOfLetters : GoodIn wsX0_noteLeastCounts (wsV RX0 118 RX0 yX0_countOfLetters wsX0_countOfLetters) := goodIn_app (goodIn_of _ (by decide +kernel)) ggX0_noteLeastCounts_X0_countOfLetters
set_option maxRecDepth 20000 in
theorem ggX0_noteLeastCounts_X0_bestPairAt : GoodIn wsX0_noteLeastCounts wsX0_bestPairAt := goodIn_r _ [29, 5, 12, 30, 13, 14, 15, 9, 16, 1, 17, 11, 18, 19, 20, 31, 32, 33, 34, 3, 21, 22, 23, 24, 25, 35, 36, 37, 38, 39, 40, 41, 42, 43, 44, 45, 46, 47, 48, 49, 50, 51, 52] (by decide +kernel) (by decide +kernel)
set_option maxRecDepth 20000 in
theorem gX0_noteLeastCounts_X0_bestPairAt : GoodIn wsX0_noteLeastCounts (wsV RX0 181 RX0 yX0_bestPairAt wsX0_bestPairAt) := goodIn_app (goodIn_of _ (by decide +kernel)) ggX0_noteLeastCounts_X0_bestPairAt
set_option maxRecDepth 20000 in
theorem ggX0_noteLeastCounts_X0_countOfPair : GoodIn wsX0_noteLeastCounts wsX0_countOfPair := goodIn_r _ [34, 3, 21, 22, 23, 9, 24, 25, 35, 36, 37, 38, 39, 40, 41, 42, 43, 44, 45, 46, 47, 48, 49, 50, 51, 52] (by decide +kernel) (by decide +kernel)
set_option maxRecDepth 20000 in
theorem gX0_noteLeastCounts_X0_countOfPair : GoodIn wsX0_noteLeastCounts (wsV RX0 126 RX0 yX0_countOfPair wsX0_countOfPair) := goodIn_app (goodIn_of _ (by decide +kernel)) ggX0_noteLeastCounts_X0_countOfPair
theorem dX0_noteLeastCounts_0 : decode cX0_noteLeastCounts 0 = .ok (.iconst 0, 1) := by decide +kernel
theorem dX0_noteLeastCounts_1 : decode cX0_noteLeastCounts 1 = .ok (.istore_n 1, 1) := by decide +kernel
theorem dX0_noteLeastCounts_2 : decode cX0_noteLeastCounts 2 = .ok (.iload_n 1, 1) := by decide +kernel
theorem dX0_noteLeastCounts_3 : decode cX0_noteLeastCounts 3 = .ok (.aload_n 0, 1) := by decide +kernel
theorem dX0_noteLeastCounts_4 : decode cX0_noteLeastCounts 4 = .ok (.getfield 39, 3) := by decide +kernel
theorem dX0_noteLeastCounts_7 : decode cX0_noteLeastCounts 7 = .ok (.if_icmp .ge 63, 3) := by decide +kernel
theorem dX0_noteLeastCounts_10 : decode cX0_noteLeastCounts 10 = .ok (.aload_n 0, 1) := by decide +kernel
theorem dX0_noteLeastCounts_11 : decode cX0_noteLeastCounts 11 = .ok (.getfield 48, 3) := by decide +kernel
theorem dX0_noteLeastCounts_14 : decode cX0_noteLeastCounts 14 = .ok (.iload_n 1, 1) := by decide +kernel
theorem dX0_noteLeastCounts_15 : decode cX0_noteLeastCounts 15 = .ok (.aload_n 0, 1) := by decide +kernel
theorem dX0_noteLeastCounts_16 : decode cX0_noteLeastCounts 16 = .ok (.aload_n 0, 1) := by decide +kernel
theorem dX0_noteLeastCounts_17 : decode cX0_noteLeastCounts 17 = .ok (.getfield 9, 3) := by decide +kernel
theorem dX0_noteLeastCounts_20 : decode cX0_noteLeastCounts 20 = .ok (.aload_n 0, 1) := by decide +kernel
theorem dX0_noteLeastCounts_21 : decode cX0_noteLeastCounts 21 = .ok (.iload_n 1, 1) := by decide +kernel
theorem dX0_noteLeastCounts_22 : decode cX0_noteLeastCounts 22 = .ok (.invokevirtual 178, 3) := by decide +kernel
theorem dX0_noteLeastCounts_25 : decode cX0_noteLeastCounts 25 = .ok (.iaload, 1) := by decide +kernel
theorem dX0_noteLeastCounts_26 : decode cX0_noteLeastCounts 26 = .ok (.invokevirtual 118, 3) := by decide +kernel
theorem dX0_noteLeastCounts_29 : decode cX0_noteLeastCounts 29 = .ok (.iastore, 1) := by decide +kernel
theorem dX0_noteLeastCounts_30 : decode cX0_noteLeastCounts 30 = .ok (.aload_n 0, 1) := by decide +kernel
theorem dX0_noteLeastCounts_31 : decode cX0_noteLeastCounts 31 = .ok (.iload_n 1, 1) := by decide +kernel
theorem dX0_noteLeastCounts_32 : decode cX0_noteLeastCounts 32 = .ok (.invokevirtual 181, 3) := by decide +kernel
theorem dX0_noteLeastCounts_35 : decode cX0_noteLeastCounts 35 = .ok (.istore_n 2, 1) := by decide +kernel
theorem dX0_noteLeastCounts_36 : decode cX0_noteLeastCounts 36 = .ok (.aload_n 0, 1) := by decide +kernel
theorem dX0_noteLeastCounts_37 : decode cX0_noteLeastCounts 37 = .ok (.getfield 51, 3) := by decide +kernel
theorem dX0_noteLeastCounts_40 : decode cX0_noteLeastCounts 40 = .ok (.iload_n 1, 1) := by decide +kernel
theorem dX0_noteLeastCounts_41 : decode cX0_noteLeastCounts 41 = .ok (.iload_n 2, 1) := by decide +kernel
theorem dX0_noteLeastCounts_42 : decode cX0_noteLeastCounts 42 = .ok (.iconst (-1), 1) := by decide +kernel
theorem dX0_noteLeastCounts_43 : decode cX0_noteLeastCounts 43 = .ok (.if_icmp .ne 8, 3) := by decide +kernel
theorem dX0_noteLeastCounts_46 : decode cX0_noteLeastCounts 46 = .ok (.ldc 151, 2) := by decide +kernel
theorem dX0_noteLeastCounts_48 : decode cX0_noteLeastCounts 48 = .ok (.goto 15, 3) := by decide +kernel
theorem dX0_noteLeastCounts_51 : decode cX0_noteLeastCounts 51 = .ok (.aload_n 0, 1) := by decide +kernel
theorem dX0_noteLeastCounts_52 : decode cX0_noteLeastCounts 52 = .ok (.iload_n 2, 1) := by decide +kernel
theorem dX0_noteLeastCounts_53 : decode cX0_noteLeastCounts 53 = .ok (.bipush 100, 2) := by decide +kernel
theorem dX0_noteLeastCounts_55 : decode cX0_noteLeastCounts 55 = .ok (.idiv, 1) := by decide +kernel
theorem dX0_noteLeastCounts_56 : decode cX0_noteLeastCounts 56 = .ok (.iload_n 2, 1) := by decide +kernel
theorem dX0_noteLeastCounts_57 : decode cX0_noteLeastCounts 57 = .ok (.bipush 100, 2) := by decide +kernel
theorem dX0_noteLeastCounts_59 : decode cX0_noteLeastCounts 59 = .ok (.irem, 1) := by decide +kernel
theorem dX0_noteLeastCounts_60 : decode cX0_noteLeastCounts 60 = .ok (.invokevirtual 126, 3) := by decide +kernel
theorem dX0_noteLeastCounts_63 : decode cX0_noteLeastCounts 63 = .ok (.iastore, 1) := by decide +kernel
theorem dX0_noteLeastCounts_64 : decode cX0_noteLeastCounts 64 = .ok (.iinc 1 1, 3) := by decide +kernel
theorem dX0_noteLeastCounts_67 : decode cX0_noteLeastCounts 67 = .ok (.goto (-65), 3) := by decide +kernel
theorem dX0_noteLeastCounts_70 : decode cX0_noteLeastCounts 70 = .ok (.return_, 1) := by decide +kernel
set_option maxRecDepth 20000 in
theorem ggX0_bestWordAt_X0_mayHold : GoodIn wsX0_bestWordAt wsX0_mayHold := goodIn_r _ [9, 10, 11, 1, 12, 13, 8, 14, 20, 21, 22, 23, 24, 25, 26, 27, 28, 29, 30, 31, 32, 33, 34, 35, 36, 37] (by decide +kernel) (by decide +kernel)
set_option maxRecDepth 20000 in
theorem gX0_bestWordAt_X0_mayHold : GoodIn wsX0_bestWordAt (wsV RX0 184 RX0 yX0_mayHold wsX0_mayHold) := goodIn_app (goodIn_of _ (by decide +kernel)) ggX0_bestWordAt_X0_mayHold
set_option maxRecDepth 20000 in
theorem ggX0_bestWordAt_X0_countOfLetters : GoodIn wsX0_bestWordAt wsX0_countOfLetters := goodIn_r _ [18, 19, 20, 21, 22, 23, 24, 25, 26, 27, 28, 29, 30, 31, 32, 33, 34, 35, 36, 37] (by decide +kernel) (by decide +kernel)
set_option maxRecDepth 20000 in
theorem gX0_bestWordAt_X0_countOfLetters : GoodIn wsX0_bestWordAt (wsV RX0 118 RX0 yX0_countOfLetters wsX0_countOfLetters) := goodIn_app (goodIn_of _ (by decide +kernel)) ggX0_bestWordAt_X0_countOfLetters
theorem dX0_bestWordAt_0 : decode cX0_bestWordAt 0 = .ok (.aload_n 0, 1) := by decide +kernel
theorem dX0_bestWordAt_1 : decode cX0_bestWordAt 1 = .ok (.getfield 32, 3) := by decide +kernel
theorem dX0_bestWordAt_4 : decode cX0_bestWordAt 4 = .ok (.iload_n 1, 1) := by decide +kernel
theorem dX0_bestWordAt_5 : decode cX0_bestWordAt 5 = .ok (.iaload, 1) := by decide +kernel
theorem dX0_bestWordAt_6 : decode cX0_bestWordAt 6 = .ok (.istore_n 2, 1) := by decide +kernel
theorem dX0_bestWordAt_7 : decode cX0_bestWordAt 7 = .ok (.ldc 151, 2) := by decide +kernel
theorem dX0_bestWordAt_9 : decode cX0_bestWordAt 9 = .ok (.istore_n 3, 1) := by decide +kernel
theorem dX0_bestWordAt_10 : decode cX0_bestWordAt 10 = .ok (.iconst 0, 1) := by decide +kernel
theorem dX0_bestWordAt_11 : decode cX0_bestWordAt 11 = .ok (.istore 4, 2) := by decide +kernel
theorem dX0_bestWordAt_13 : decode cX0_bestWordAt 13 = .ok (.iload 4, 2) := by decide +kernel
theorem dX0_bestWordAt_15 : decode cX0_bestWordAt 15 = .ok (.aload_n 0, 1) := by decide +kernel
theorem dX0_bestWordAt_16 : decode cX0_bestWordAt 16 = .ok (.getfield 19, 3) := by decide +kernel
theorem dX0_bestWordAt_19 : decode cX0_bestWordAt 19 = .ok (.if_icmp .ge 49, 3) := by decide +kernel
theorem dX0_bestWordAt_22 : decode cX0_bestWordAt 22 = .ok (.aload_n 0, 1) := by decide +kernel
theorem dX0_bestWordAt_23 : decode cX0_bestWordAt 23 = .ok (.iload_n 1, 1) := by decide +kernel
theorem dX0_bestWordAt_24 : decode cX0_bestWordAt 24 = .ok (.iload 4, 2) := by decide +kernel
theorem dX0_bestWordAt_26 : decode cX0_bestWordAt 26 = .ok (.invokevirtual 184, 3) := by decide +kernel
theorem dX0_bestWordAt_29 : decode cX0_bestWordAt 29 = .ok (.ifCond .eq 33, 3) := by decide +kernel
theorem dX0_bestWordAt_32 : decode cX0_bestWordAt 32 = .ok (.aload_n 0, 1) := by decide +kernel
theorem dX0_bestWordAt_33 : decode cX0_bestWordAt 33 = .ok (.aload_n 0, 1) := by decide +kernel
theorem dX0_bestWordAt_34 : decode cX0_bestWordAt 34 = .ok (.getfield 9, 3) := by decide +kernel
theorem dX0_bestWordAt_37 : decode cX0_bestWordAt 37 = .ok (.iload 4, 2) := by decide +kernel
theorem dX0_bestWordAt_39 : decode cX0_bestWordAt 39 = .ok (.iaload, 1) := by decide +kernel
theorem dX0_bestWordAt_40 : decode cX0_bestWordAt 40 = .ok (.invokevirtual 118, 3) := by decide +kernel
theorem dX0_bestWordAt_43 : decode cX0_bestWordAt 43 = .ok (.iload_n 3, 1) := by decide +kernel
theorem dX0_bestWordAt_44 : decode cX0_bestWordAt 44 = .ok (.if_icmp .ge 18, 3) := by decide +kernel
theorem dX0_bestWordAt_47 : decode cX0_bestWordAt 47 = .ok (.iload 4, 2) := by decide +kernel
theorem dX0_bestWordAt_49 : decode cX0_bestWordAt 49 = .ok (.istore_n 2, 1) := by decide +kernel
theorem dX0_bestWordAt_50 : decode cX0_bestWordAt 50 = .ok (.aload_n 0, 1) := by decide +kernel
theorem dX0_bestWordAt_51 : decode cX0_bestWordAt 51 = .ok (.aload_n 0, 1) := by decide +kernel
theorem dX0_bestWordAt_52 : decode cX0_bestWordAt 52 = .ok (.getfield 9, 3) := by decide +kernel
theorem dX0_bestWordAt_55 : decode cX0_bestWordAt 55 = .ok (.iload 4, 2) := by decide +kernel
theorem dX0_bestWordAt_57 : decode cX0_bestWordAt 57 = .ok (.iaload, 1) := by decide +kernel
theorem dX0_bestWordAt_58 : decode cX0_bestWordAt 58 = .ok (.invokevirtual 118, 3) := by decide +kernel
theorem dX0_bestWordAt_61 : decode cX0_bestWordAt 61 = .ok (.istore_n 3, 1) := by decide +kernel
theorem dX0_bestWordAt_62 : decode cX0_bestWordAt 62 = .ok (.iinc 4 1, 3) := by decide +kernel
theorem dX0_bestWordAt_65 : decode cX0_bestWordAt 65 = .ok (.goto (-52), 3) := by decide +kernel
theorem dX0_bestWordAt_68 : decode cX0_bestWordAt 68 = .ok (.iload_n 2, 1) := by decide +kernel
theorem dX0_bestWordAt_69 : decode cX0_bestWordAt 69 = .ok (.ireturn, 1) := by decide +kernel
set_option maxRecDepth 20000 in
theorem ggX0_bestPairAt_X0_mayHold : GoodIn wsX0_bestPairAt wsX0_mayHold := goodIn_r _ [8, 9, 10, 11, 12, 13, 7, 14, 25, 26, 27, 28, 29, 30, 31, 32, 33, 34, 35, 36, 37, 38, 39, 40, 41, 42] (by decide +kernel) (by decide +kernel)
set_option maxRecDepth 20000 in
theorem gX0_bestPairAt_X0_mayHold : GoodIn wsX0_bestPairAt (wsV RX0 184 RX0 yX0_mayHold wsX0_mayHold) := goodIn_app (goodIn_of _ (by decide +kernel)) ggX0_bestPairAt_X0_mayHold
set_option maxRecDepth 20000 in
theorem ggX0_bestPairAt_X0_hasBit : GoodIn wsX0_bestPairAt wsX0_hasBit := goodIn_r _ [14] (by decide +kernel) (by decide +kernel)
set_option maxRecDepth 20000 in
theorem gX0_bestPairAt_X0_hasBit : GoodIn wsX0_bestPairAt (va_wsS RX0 84 yX0_hasBit wsX0_hasBit) := goodIn_app (goodIn_of _ (by decide +kernel)) ggX0_bestPairAt_X0_hasBit
set_option maxRecDepth 20000 in
theorem ggX0_bestPairAt_X0_countOfPair : GoodIn wsX0_bestPairAt wsX0_countOfPair := goodIn_r _ [18, 19, 20, 21, 22, 7, 23, 24, 25, 26, 27, 28, 29, 30, 31, 32, 33, 34, 35, 36, 37, 38, 39, 40, 41, 42] (by decide +kernel) (by decide +kernel)
set_option maxRecDepth 20000 in
theorem gX0_bestPairAt_X0_countOfPair : GoodIn wsX0_bestPairAt (wsV RX0 126 RX0 yX0_countOfPair wsX0_countOfPair) := goodIn_app (goodIn_of _ (by decide +kernel)) ggX0_bestPairAt_X0_countOfPair
theorem dX0_bestPairAt_0 : decode cX0_bestPairAt 0 = .ok (.iconst (-1), 1) := by decide +kernel
theorem dX0_bestPairAt_1 : decode cX0_bestPairAt 1 = .ok (.istore_n 2, 1) := by decide +kernel
theorem dX0_bestPairAt_2 : decode cX0_bestPairAt 2 = .ok (.ldc 151, 2) := by decide +kernel
theorem dX0_bestPairAt_4 : decode cX0_bestPairAt 4 = .ok (.istore_n 3, 1) := by decide +kernel
theorem dX0_bestPairAt_5 : decode cX0_bestPairAt 5 = .ok (.iconst 0, 1) := by decide +kernel
theorem dX0_bestPairAt_6 : decode cX0_bestPairAt 6 = .ok (.istore 4, 2) := by decide +kernel
theorem dX0_bestPairAt_8 : decode cX0_bestPairAt 8 = .ok (.iload 4, 2) := by decide +kernel
theorem dX0_bestPairAt_10 : decode cX0_bestPairAt 10 = .ok (.aload_n 0, 1) := by decide +kernel
theorem dX0_bestPairAt_11 : decode cX0_bestPairAt 11 = .ok (.getfield 19, 3) := by decide +kernel
theorem dX0_bestPairAt_14 : decode cX0_bestPairAt 14 = .ok (.if_icmp .ge 106, 3) := by decide +kernel
theorem dX0_bestPairAt_17 : decode cX0_bestPairAt 17 = .ok (.aload_n 0, 1) := by decide +kernel
theorem dX0_bestPairAt_18 : decode cX0_bestPairAt 18 = .ok (.iload_n 1, 1) := by decide +kernel
theorem dX0_bestPairAt_19 : decode cX0_bestPairAt 19 = .ok (.iload 4, 2) := by decide +kernel
theorem dX0_bestPairAt_21 : decode cX0_bestPairAt 21 = .ok (.invokevirtual 184, 3) := by decide +kernel
theorem dX0_bestPairAt_24 : decode cX0_bestPairAt 24 = .ok (.ifCond .eq 90, 3) := by decide +kernel
theorem dX0_bestPairAt_27 : decode cX0_bestPairAt 27 = .ok (.iconst 0, 1) := by decide +kernel
theorem dX0_bestPairAt_28 : decode cX0_bestPairAt 28 = .ok (.istore 5, 2) := by decide +kernel
theorem dX0_bestPairAt_30 : decode cX0_bestPairAt 30 = .ok (.iload 5, 2) := by decide +kernel
theorem dX0_bestPairAt_32 : decode cX0_bestPairAt 32 = .ok (.aload_n 0, 1) := by decide +kernel
theorem dX0_bestPairAt_33 : decode cX0_bestPairAt 33 = .ok (.getfield 19, 3) := by decide +kernel
theorem dX0_bestPairAt_36 : decode cX0_bestPairAt 36 = .ok (.if_icmp .ge 78, 3) := by decide +kernel
theorem dX0_bestPairAt_39 : decode cX0_bestPairAt 39 = .ok (.aload_n 0, 1) := by decide +kernel
theorem dX0_bestPairAt_40 : decode cX0_bestPairAt 40 = .ok (.iload_n 1, 1) := by decide +kernel
theorem dX0_bestPairAt_41 : decode cX0_bestPairAt 41 = .ok (.iconst 1, 1) := by decide +kernel
theorem dX0_bestPairAt_42 : decode cX0_bestPairAt 42 = .ok (.iadd, 1) := by decide +kernel
theorem dX0_bestPairAt_43 : decode cX0_bestPairAt 43 = .ok (.iload 5, 2) := by decide +kernel
theorem dX0_bestPairAt_45 : decode cX0_bestPairAt 45 = .ok (.invokevirtual 184, 3) := by decide +kernel
theorem dX0_bestPairAt_48 : decode cX0_bestPairAt 48 = .ok (.ifCond .eq 22, 3) := by decide +kernel
theorem dX0_bestPairAt_51 : decode cX0_bestPairAt 51 = .ok (.aload_n 0, 1) := by decide +kernel
theorem dX0_bestPairAt_52 : decode cX0_bestPairAt 52 = .ok (.getfield 16, 3) := by decide +kernel
theorem dX0_bestPairAt_55 : decode cX0_bestPairAt 55 = .ok (.iload 4, 2) := by decide +kernel
theorem dX0_bestPairAt_57 : decode cX0_bestPairAt 57 = .ok (.iaload, 1) := by decide +kernel
theorem dX0_bestPairAt_58 : decode cX0_bestPairAt 58 = .ok (.iload 5, 2) := by decide +kernel
theorem dX0_bestPairAt_60 : decode cX0_bestPairAt 60 = .ok (.invokestatic 84, 3) := by decide +kernel
theorem dX0_bestPairAt_63 : decode cX0_bestPairAt 63 = .ok (.ifCond .eq 7, 3) := by decide +kernel
theorem dX0_bestPairAt_66 : decode cX0_bestPairAt 66 = .ok (.iconst 1, 1) := by decide +kernel
theorem dX0_bestPairAt_67 : decode cX0_bestPairAt 67 = .ok (.goto 4, 3) := by decide +kernel
theorem dX0_bestPairAt_70 : decode cX0_bestPairAt 70 = .ok (.iconst 0, 1) := by decide +kernel
theorem dX0_bestPairAt_71 : decode cX0_bestPairAt 71 = .ok (.istore 6, 2) := by decide +kernel
theorem dX0_bestPairAt_73 : decode cX0_bestPairAt 73 = .ok (.iload 6, 2) := by decide +kernel
theorem dX0_bestPairAt_75 : decode cX0_bestPairAt 75 = .ok (.ifCond .eq 33, 3) := by decide +kernel
theorem dX0_bestPairAt_78 : decode cX0_bestPairAt 78 = .ok (.aload_n 0, 1) := by decide +kernel
theorem dX0_bestPairAt_79 : decode cX0_bestPairAt 79 = .ok (.iload 4, 2) := by decide +kernel
theorem dX0_bestPairAt_81 : decode cX0_bestPairAt 81 = .ok (.iload 5, 2) := by decide +kernel
theorem dX0_bestPairAt_83 : decode cX0_bestPairAt 83 = .ok (.invokevirtual 126, 3) := by decide +kernel
theorem dX0_bestPairAt_86 : decode cX0_bestPairAt 86 = .ok (.iload_n 3, 1) := by decide +kernel
theorem dX0_bestPairAt_87 : decode cX0_bestPairAt 87 = .ok (.if_icmp .ge 21, 3) := by decide +kernel
theorem dX0_bestPairAt_90 : decode cX0_bestPairAt 90 = .ok (.iload 4, 2) := by decide +kernel
theorem dX0_bestPairAt_92 : decode cX0_bestPairAt 92 = .ok (.bipush 100, 2) := by decide +kernel
theorem dX0_bestPairAt_94 : decode cX0_bestPairAt 94 = .ok (.imul, 1) := by decide +kernel
theorem dX0_bestPairAt_95 : decode cX0_bestPairAt 95 = .ok (.iload 5, 2) := by decide +kernel
theorem dX0_bestPairAt_97 : decode cX0_bestPairAt 97 = .ok (.iadd, 1) := by decide +kernel
theorem dX0_bestPairAt_98 : decode cX0_bestPairAt 98 = .ok (.istore_n 2, 1) := by decide +kernel
theorem dX0_bestPairAt_99 : decode cX0_bestPairAt 99 = .ok (.aload_n 0, 1) := by decide +kernel
theorem dX0_bestPairAt_100 : decode cX0_bestPairAt 100 = .ok (.iload 4, 2) := by decide +kernel
theorem dX0_bestPairAt_102 : decode cX0_bestPairAt 102 = .ok (.iload 5, 2) := by decide +kernel
theorem dX0_bestPairAt_104 : decode cX0_bestPairAt 104 = .ok (.invokevirtual 126, 3) := by decide +kernel
theorem dX0_bestPairAt_107 : decode cX0_bestPairAt 107 = .ok (.istore_n 3, 1) := by decide +kernel
theorem dX0_bestPairAt_108 : decode cX0_bestPairAt 108 = .ok (.iinc 5 1, 3) := by decide +kernel
theorem dX0_bestPairAt_111 : decode cX0_bestPairAt 111 = .ok (.goto (-81), 3) := by decide +kernel
theorem dX0_bestPairAt_114 : decode cX0_bestPairAt 114 = .ok (.iinc 4 1, 3) := by decide +kernel
theorem dX0_bestPairAt_117 : decode cX0_bestPairAt 117 = .ok (.goto (-109), 3) := by decide +kernel
theorem dX0_bestPairAt_120 : decode cX0_bestPairAt 120 = .ok (.iload_n 2, 1) := by decide +kernel
theorem dX0_bestPairAt_121 : decode cX0_bestPairAt 121 = .ok (.ireturn, 1) := by decide +kernel
theorem dX0_leastInAll_0 : decode cX0_leastInAll 0 = .ok (.aload_n 0, 1) := by decide +kernel
theorem dX0_leastInAll_1 : decode cX0_leastInAll 1 = .ok (.getfield 57, 3) := by decide +kernel
theorem dX0_leastInAll_4 : decode cX0_leastInAll 4 = .ok (.aload_n 0, 1) := by decide +kernel
theorem dX0_leastInAll_5 : decode cX0_leastInAll 5 = .ok (.getfield 39, 3) := by decide +kernel
theorem dX0_leastInAll_8 : decode cX0_leastInAll 8 = .ok (.iconst 0, 1) := by decide +kernel
theorem dX0_leastInAll_9 : decode cX0_leastInAll 9 = .ok (.iastore, 1) := by decide +kernel
theorem dX0_leastInAll_10 : decode cX0_leastInAll 10 = .ok (.aload_n 0, 1) := by decide +kernel
theorem dX0_leastInAll_11 : decode cX0_leastInAll 11 = .ok (.getfield 57, 3) := by decide +kernel
theorem dX0_leastInAll_14 : decode cX0_leastInAll 14 = .ok (.aload_n 0, 1) := by decide +kernel
theorem dX0_leastInAll_15 : decode cX0_leastInAll 15 = .ok (.getfield 39, 3) := by decide +kernel
theorem dX0_leastInAll_18 : decode cX0_leastInAll 18 = .ok (.iconst 1, 1) := by decide +kernel
theorem dX0_leastInAll_19 : decode cX0_leastInAll 19 = .ok (.iadd, 1) := by decide +kernel
theorem dX0_leastInAll_20 : decode cX0_leastInAll 20 = .ok (.iconst 0, 1) := by decide +kernel
theorem dX0_leastInAll_21 : decode cX0_leastInAll 21 = .ok (.iastore, 1) := by decide +kernel
theorem dX0_leastInAll_22 : decode cX0_leastInAll 22 = .ok (.aload_n 0, 1) := by decide +kernel
theorem dX0_leastInAll_23 : decode cX0_leastInAll 23 = .ok (.getfield 39, 3) := by decide +kernel
theorem dX0_leastInAll_26 : decode cX0_leastInAll 26 = .ok (.iconst 1, 1) := by decide +kernel
theorem dX0_leastInAll_27 : decode cX0_leastInAll 27 = .ok (.isub, 1) := by decide +kernel
theorem dX0_leastInAll_28 : decode cX0_leastInAll 28 = .ok (.istore_n 2, 1) := by decide +kernel
theorem dX0_leastInAll_29 : decode cX0_leastInAll 29 = .ok (.iload_n 2, 1) := by decide +kernel
theorem dX0_leastInAll_30 : decode cX0_leastInAll 30 = .ok (.ifCond .lt 47, 3) := by decide +kernel
theorem dX0_leastInAll_33 : decode cX0_leastInAll 33 = .ok (.aload_n 0, 1) := by decide +kernel
theorem dX0_leastInAll_34 : decode cX0_leastInAll 34 = .ok (.getfield 48, 3) := by decide +kernel
theorem dX0_leastInAll_37 : decode cX0_leastInAll 37 = .ok (.iload_n 2, 1) := by decide +kernel
theorem dX0_leastInAll_38 : decode cX0_leastInAll 38 = .ok (.iaload, 1) := by decide +kernel
theorem dX0_leastInAll_39 : decode cX0_leastInAll 39 = .ok (.aload_n 0, 1) := by decide +kernel
theorem dX0_leastInAll_40 : decode cX0_leastInAll 40 = .ok (.getfield 57, 3) := by decide +kernel
theorem dX0_leastInAll_43 : decode cX0_leastInAll 43 = .ok (.iload_n 2, 1) := by decide +kernel
theorem dX0_leastInAll_44 : decode cX0_leastInAll 44 = .ok (.iconst 1, 1) := by decide +kernel
theorem dX0_leastInAll_45 : decode cX0_leastInAll 45 = .ok (.iadd, 1) := by decide +kernel
theorem dX0_leastInAll_46 : decode cX0_leastInAll 46 = .ok (.iaload, 1) := by decide +kernel
theorem dX0_leastInAll_47 : decode cX0_leastInAll 47 = .ok (.iadd, 1) := by decide +kernel
theorem dX0_leastInAll_48 : decode cX0_leastInAll 48 = .ok (.istore_n 3, 1) := by decide +kernel
theorem dX0_leastInAll_49 : decode cX0_leastInAll 49 = .ok (.aload_n 0, 1) := by decide +kernel
theorem dX0_leastInAll_50 : decode cX0_leastInAll 50 = .ok (.getfield 57, 3) := by decide +kernel
theorem dX0_leastInAll_53 : decode cX0_leastInAll 53 = .ok (.iload_n 2, 1) := by decide +kernel
theorem dX0_leastInAll_54 : decode cX0_leastInAll 54 = .ok (.iload_n 3, 1) := by decide +kernel
theorem dX0_leastInAll_55 : decode cX0_leastInAll 55 = .ok (.aload_n 1, 1) := by decide +kernel
theorem dX0_leastInAll_56 : decode cX0_leastInAll 56 = .ok (.iload_n 2, 1) := by decide +kernel
theorem dX0_leastInAll_57 : decode cX0_leastInAll 57 = .ok (.iaload, 1) := by decide +kernel
theorem dX0_leastInAll_58 : decode cX0_leastInAll 58 = .ok (.aload_n 0, 1) := by decide +kernel
theorem dX0_leastInAll_59 : decode cX0_leastInAll 59 = .ok (.getfield 57, 3) := by decide +kernel
theorem dX0_leastInAll_62 : decode cX0_leastInAll 62 = .ok (.iload_n 2, 1) := by decide +kernel
theorem dX0_leastInAll_63 : decode cX0_leastInAll 63 = .ok (.iconst 2, 1) := by decide +kernel
theorem dX0_leastInAll_64 : decode cX0_leastInAll 64 = .ok (.iadd, 1) := by decide +kernel
theorem dX0_leastInAll_65 : decode cX0_leastInAll 65 = .ok (.iaload, 1) := by decide +kernel
theorem dX0_leastInAll_66 : decode cX0_leastInAll 66 = .ok (.iadd, 1) := by decide +kernel
theorem dX0_leastInAll_67 : decode cX0_leastInAll 67 = .ok (.invokestatic 152, 3) := by decide +kernel
theorem dX0_leastInAll_70 : decode cX0_leastInAll 70 = .ok (.iastore, 1) := by decide +kernel
theorem dX0_leastInAll_71 : decode cX0_leastInAll 71 = .ok (.iinc 2 (-1), 3) := by decide +kernel
theorem dX0_leastInAll_74 : decode cX0_leastInAll 74 = .ok (.goto (-45), 3) := by decide +kernel
theorem dX0_leastInAll_77 : decode cX0_leastInAll 77 = .ok (.aload_n 0, 1) := by decide +kernel
theorem dX0_leastInAll_78 : decode cX0_leastInAll 78 = .ok (.getfield 57, 3) := by decide +kernel
theorem dX0_leastInAll_81 : decode cX0_leastInAll 81 = .ok (.iconst 0, 1) := by decide +kernel
theorem dX0_leastInAll_82 : decode cX0_leastInAll 82 = .ok (.iaload, 1) := by decide +kernel
theorem dX0_leastInAll_83 : decode cX0_leastInAll 83 = .ok (.ireturn, 1) := by decide +kernel
set_option maxRecDepth 20000 in
theorem ggX0_noteCheapestWording_X0_noteLeastCounts : GoodIn wsX0_noteCheapestWording wsX0_noteLeastCounts := goodIn_r _ [9, 2, 3, 10, 1, 11, 12, 13, 14, 8, 15, 16, 17, 18, 19, 20, 21, 22, 23, 24, 25, 26, 27, 28, 29, 30, 31, 32, 33, 34, 35, 36, 37, 38, 39, 54, 55, 56, 57, 58, 59, 60, 61, 62, 63, 64, 65, 66, 67, 68, 69, 70, 71] (by decide +kernel) (by decide +kernel)
set_option maxRecDepth 20000 in
theorem gX0_noteCheapestWording_X0_noteLeastCounts : GoodIn wsX0_noteCheapestWording (wsV RX0 141 RX0 yX0_noteLeastCounts wsX0_noteLeastCounts) := goodIn_app (goodIn_of _ (by decide +kernel)) ggX0_noteCheapestWording_X0_noteLeastCounts
set_option maxRecDepth 20000 in
theorem ggX0_noteCheapestWording_X0_leastInAll : GoodIn wsX0_noteCheapestWording wsX0_leastInAll := goodIn_r _ [43, 4, 2, 3, 44, 45, 46, 47, 54, 55, 56, 57, 58, 59, 60, 61, 62, 63, 64, 65, 66, 67, 68, 69, 70, 71] (by decide +kernel) (by decide +kernel)
set_option maxRecDepth 20000 in
theorem gX0_noteCheapestWording_X0_leastInAll : GoodIn wsX0_noteCheapestWording (wsV RX0 144 RX0 yX0_leastInAll wsX0_leastInAll) := goodIn_app (goodIn_of _ (by decide +kernel)) ggX0_noteCheapestWording_X0_leastInAll
set_option maxRecDepth 20000 in
theorem ggX0_noteCheapestWording_X0_bestPairAt : GoodIn wsX0_noteCheapestWording wsX0_bestPairAt := goodIn_r _ [34, 11, 17, 35, 18, 19, 20, 8, 21, 2, 22, 16, 23, 24, 25, 36, 37, 38, 39, 10, 26, 27, 28, 29, 30, 54, 55, 56, 57, 58, 59, 60, 61, 62, 63, 64, 65, 66, 67, 68, 69, 70, 71] (by decide +kernel) (by decide +kernel)
set_option maxRecDepth 20000 in
theorem gX0_noteCheapestWording_X0_bestPairAt : GoodIn wsX0_noteCheapestWording (wsV RX0 181 RX0 yX0_bestPairAt wsX0_bestPairAt) := goodIn_app (goodIn_of _ (by decide +kernel)) ggX0_noteCheapestWording_X0_bestPairAt
set_option maxRecDepth 20000 in
theorem ggX0_noteCheapestWording_X0_bestWordAt : GoodIn wsX0_noteCheapestWording wsX0_bestWordAt := goodIn_r _ [15, 16, 11, 17, 10, 18, 19, 20, 8, 21, 2, 22, 23, 24, 25, 26, 27, 28, 29, 30, 54, 55, 56, 57, 58, 59, 60, 61, 62, 63, 64, 65, 66, 67, 68, 69, 70, 71] (by decide +kernel) (by decide +kernel)
set_option maxRecDepth 20000 in
theorem gX0_noteCheapestWording_X0_bestWordAt : GoodIn wsX0_noteCheapestWording (wsV RX0 178 RX0 yX0_bestWordAt wsX0_bestWordAt) := goodIn_app (goodIn_of _ (by decide +kernel)) ggX0_noteCheapestWording_X0_bestWordAt
set_option maxRecDepth 20000 in
theorem ggX0_noteCheapestWording_X0_noteCheapestAt : GoodIn wsX0_noteCheapestWording wsX0_noteCheapestAt := goodIn_r _ [51, 52, 53, 54, 55, 56, 57, 58, 59, 60, 61, 62, 63, 64, 65, 66, 67, 68, 69, 70, 71] (by decide +kernel) (by decide +kernel)
set_option maxRecDepth 20000 in
theorem gX0_noteCheapestWording_X0_noteCheapestAt : GoodIn wsX0_noteCheapestWording (wsV RX0 187 RX0 yX0_noteCheapestAt wsX0_noteCheapestAt) := goodIn_app (goodIn_of _ (by decide +kernel)) ggX0_noteCheapestWording_X0_noteCheapestAt
theorem dX0_noteCheapestWording_0 : decode cX0_noteCheapestWording 0 = .ok (.aload_n 0, 1) := by decide +kernel
theorem dX0_noteCheapestWording_1 : decode cX0_noteCheapestWording 1 = .ok (.invokevirtual 141, 3) := by decide +kernel
theorem dX0_noteCheapestWording_4 : decode cX0_noteCheapestWording 4 = .ok (.aload_n 0, 1) := by decide +kernel
theorem dX0_noteCheapestWording_5 : decode cX0_noteCheapestWording 5 = .ok (.aload_n 0, 1) := by decide +kernel
theorem dX0_noteCheapestWording_6 : decode cX0_noteCheapestWording 6 = .ok (.getfield 51, 3) := by decide +kernel
theorem dX0_noteCheapestWording_9 : decode cX0_noteCheapestWording 9 = .ok (.invokevirtual 144, 3) := by decide +kernel
theorem dX0_noteCheapestWording_12 : decode cX0_noteCheapestWording 12 = .ok (.pop, 1) := by decide +kernel
theorem dX0_noteCheapestWording_13 : decode cX0_noteCheapestWording 13 = .ok (.iconst 0, 1) := by decide +kernel
theorem dX0_noteCheapestWording_14 : decode cX0_noteCheapestWording 14 = .ok (.istore_n 1, 1) := by decide +kernel
theorem dX0_noteCheapestWording_15 : decode cX0_noteCheapestWording 15 = .ok (.iload_n 1, 1) := by decide +kernel
theorem dX0_noteCheapestWording_16 : decode cX0_noteCheapestWording 16 = .ok (.aload_n 0, 1) := by decide +kernel
theorem dX0_noteCheapestWording_17 : decode cX0_noteCheapestWording 17 = .ok (.getfield 39, 3) := by decide +kernel
theorem dX0_noteCheapestWording_20 : decode cX0_noteCheapestWording 20 = .ok (.if_icmp .ge 83, 3) := by decide +kernel
theorem dX0_noteCheapestWording_23 : decode cX0_noteCheapestWording 23 = .ok (.aload_n 0, 1) := by decide +kernel
theorem dX0_noteCheapestWording_24 : decode cX0_noteCheapestWording 24 = .ok (.iload_n 1, 1) := by decide +kernel
theorem dX0_noteCheapestWording_25 : decode cX0_noteCheapestWording 25 = .ok (.invokevirtual 181, 3) := by decide +kernel
theorem dX0_noteCheapestWording_28 : decode cX0_noteCheapestWording 28 = .ok (.istore_n 2, 1) := by decide +kernel
theorem dX0_noteCheapestWording_29 : decode cX0_noteCheapestWording 29 = .ok (.iload_n 2, 1) := by decide +kernel
theorem dX0_noteCheapestWording_30 : decode cX0_noteCheapestWording 30 = .ok (.iconst (-1), 1) := by decide +kernel
theorem dX0_noteCheapestWording_31 : decode cX0_noteCheapestWording 31 = .ok (.if_icmp .eq 27, 3) := by decide +kernel
theorem dX0_noteCheapestWording_34 : decode cX0_noteCheapestWording 34 = .ok (.aload_n 0, 1) := by decide +kernel
theorem dX0_noteCheapestWording_35 : decode cX0_noteCheapestWording 35 = .ok (.getfield 48, 3) := by decide +kernel
theorem dX0_noteCheapestWording_38 : decode cX0_noteCheapestWording 38 = .ok (.iload_n 1, 1) := by decide +kernel
theorem dX0_noteCheapestWording_39 : decode cX0_noteCheapestWording 39 = .ok (.iaload, 1) := by decide +kernel
theorem dX0_noteCheapestWording_40 : decode cX0_noteCheapestWording 40 = .ok (.aload_n 0, 1) := by decide +kernel
theorem dX0_noteCheapestWording_41 : decode cX0_noteCheapestWording 41 = .ok (.getfield 57, 3) := by decide +kernel
theorem dX0_noteCheapestWording_44 : decode cX0_noteCheapestWording 44 = .ok (.iload_n 1, 1) := by decide +kernel
theorem dX0_noteCheapestWording_45 : decode cX0_noteCheapestWording 45 = .ok (.iconst 1, 1) := by decide +kernel
theorem dX0_noteCheapestWording_46 : decode cX0_noteCheapestWording 46 = .ok (.iadd, 1) := by decide +kernel
theorem dX0_noteCheapestWording_47 : decode cX0_noteCheapestWording 47 = .ok (.iaload, 1) := by decide +kernel
theorem dX0_noteCheapestWording_48 : decode cX0_noteCheapestWording 48 = .ok (.iadd, 1) := by decide +kernel
theorem dX0_noteCheapestWording_49 : decode cX0_noteCheapestWording 49 = .ok (.aload_n 0, 1) := by decide +kernel
theorem dX0_noteCheapestWording_50 : decode cX0_noteCheapestWording 50 = .ok (.getfield 57, 3) := by decide +kernel
theorem dX0_noteCheapestWording_53 : decode cX0_noteCheapestWording 53 = .ok (.iload_n 1, 1) := by decide +kernel
theorem dX0_noteCheapestWording_54 : decode cX0_noteCheapestWording 54 = .ok (.iaload, 1) := by decide +kernel
theorem dX0_noteCheapestWording_55 : decode cX0_noteCheapestWording 55 = .ok (.if_icmp .ne 20, 3) := by decide +kernel
theorem dX0_noteCheapestWording_58 : decode cX0_noteCheapestWording 58 = .ok (.aload_n 0, 1) := by decide +kernel
theorem dX0_noteCheapestWording_59 : decode cX0_noteCheapestWording 59 = .ok (.iload_n 1, 1) := by decide +kernel
theorem dX0_noteCheapestWording_60 : decode cX0_noteCheapestWording 60 = .ok (.aload_n 0, 1) := by decide +kernel
theorem dX0_noteCheapestWording_61 : decode cX0_noteCheapestWording 61 = .ok (.iload_n 1, 1) := by decide +kernel
theorem dX0_noteCheapestWording_62 : decode cX0_noteCheapestWording 62 = .ok (.invokevirtual 178, 3) := by decide +kernel
theorem dX0_noteCheapestWording_65 : decode cX0_noteCheapestWording 65 = .ok (.iconst 0, 1) := by decide +kernel
theorem dX0_noteCheapestWording_66 : decode cX0_noteCheapestWording 66 = .ok (.invokevirtual 187, 3) := by decide +kernel
theorem dX0_noteCheapestWording_69 : decode cX0_noteCheapestWording 69 = .ok (.iinc 1 1, 3) := by decide +kernel
theorem dX0_noteCheapestWording_72 : decode cX0_noteCheapestWording 72 = .ok (.goto 28, 3) := by decide +kernel
theorem dX0_noteCheapestWording_75 : decode cX0_noteCheapestWording 75 = .ok (.aload_n 0, 1) := by decide +kernel
theorem dX0_noteCheapestWording_76 : decode cX0_noteCheapestWording 76 = .ok (.iload_n 1, 1) := by decide +kernel
theorem dX0_noteCheapestWording_77 : decode cX0_noteCheapestWording 77 = .ok (.iload_n 2, 1) := by decide +kernel
theorem dX0_noteCheapestWording_78 : decode cX0_noteCheapestWording 78 = .ok (.bipush 100, 2) := by decide +kernel
theorem dX0_noteCheapestWording_80 : decode cX0_noteCheapestWording 80 = .ok (.idiv, 1) := by decide +kernel
theorem dX0_noteCheapestWording_81 : decode cX0_noteCheapestWording 81 = .ok (.iconst 1, 1) := by decide +kernel
theorem dX0_noteCheapestWording_82 : decode cX0_noteCheapestWording 82 = .ok (.invokevirtual 187, 3) := by decide +kernel
theorem dX0_noteCheapestWording_85 : decode cX0_noteCheapestWording 85 = .ok (.aload_n 0, 1) := by decide +kernel
theorem dX0_noteCheapestWording_86 : decode cX0_noteCheapestWording 86 = .ok (.iload_n 1, 1) := by decide +kernel
theorem dX0_noteCheapestWording_87 : decode cX0_noteCheapestWording 87 = .ok (.iconst 1, 1) := by decide +kernel
theorem dX0_noteCheapestWording_88 : decode cX0_noteCheapestWording 88 = .ok (.iadd, 1) := by decide +kernel
theorem dX0_noteCheapestWording_89 : decode cX0_noteCheapestWording 89 = .ok (.iload_n 2, 1) := by decide +kernel
theorem dX0_noteCheapestWording_90 : decode cX0_noteCheapestWording 90 = .ok (.bipush 100, 2) := by decide +kernel
theorem dX0_noteCheapestWording_92 : decode cX0_noteCheapestWording 92 = .ok (.irem, 1) := by decide +kernel
theorem dX0_noteCheapestWording_93 : decode cX0_noteCheapestWording 93 = .ok (.iconst 0, 1) := by decide +kernel
theorem dX0_noteCheapestWording_94 : decode cX0_noteCheapestWording 94 = .ok (.invokevirtual 187, 3) := by decide +kernel
theorem dX0_noteCheapestWording_97 : decode cX0_noteCheapestWording 97 = .ok (.iinc 1 2, 3) := by decide +kernel
theorem dX0_noteCheapestWording_100 : decode cX0_noteCheapestWording 100 = .ok (.goto (-85), 3) := by decide +kernel
theorem dX0_noteCheapestWording_103 : decode cX0_noteCheapestWording 103 = .ok (.return_, 1) := by decide +kernel
theorem dX0_noteCheapestAt_0 : decode cX0_noteCheapestAt 0 = .ok (.aload_n 0, 1) := by decide +kernel
theorem dX0_noteCheapestAt_1 : decode cX0_noteCheapestAt 1 = .ok (.getfield 60, 3) := by decide +kernel
theorem dX0_noteCheapestAt_4 : decode cX0_noteCheapestAt 4 = .ok (.iload_n 1, 1) := by decide +kernel
theorem dX0_noteCheapestAt_5 : decode cX0_noteCheapestAt 5 = .ok (.iload_n 2, 1) := by decide +kernel
theorem dX0_noteCheapestAt_6 : decode cX0_noteCheapestAt 6 = .ok (.iastore, 1) := by decide +kernel
theorem dX0_noteCheapestAt_7 : decode cX0_noteCheapestAt 7 = .ok (.aload_n 0, 1) := by decide +kernel
theorem dX0_noteCheapestAt_8 : decode cX0_noteCheapestAt 8 = .ok (.getfield 63, 3) := by decide +kernel
theorem dX0_noteCheapestAt_11 : decode cX0_noteCheapestAt 11 = .ok (.iload_n 1, 1) := by decide +kernel
theorem dX0_noteCheapestAt_12 : decode cX0_noteCheapestAt 12 = .ok (.iload_n 3, 1) := by decide +kernel
theorem dX0_noteCheapestAt_13 : decode cX0_noteCheapestAt 13 = .ok (.bastore, 1) := by decide +kernel
theorem dX0_noteCheapestAt_14 : decode cX0_noteCheapestAt 14 = .ok (.return_, 1) := by decide +kernel
theorem dJ6_bitCount_0f7a4_0 : decode cJ6_bitCount_0f7a4 0 = .ok (.iload_n 0, 1) := by decide +kernel
theorem dJ6_bitCount_0f7a4_1 : decode cJ6_bitCount_0f7a4 1 = .ok (.iload_n 0, 1) := by decide +kernel
theorem dJ6_bitCount_0f7a4_2 : decode cJ6_bitCount_0f7a4 2 = .ok (.iconst 1, 1) := by decide +kernel
theorem dJ6_bitCount_0f7a4_3 : decode cJ6_bitCount_0f7a4 3 = .ok (.iushr, 1) := by decide +kernel
theorem dJ6_bitCount_0f7a4_4 : decode cJ6_bitCount_0f7a4 4 = .ok (.ldc_w 265, 3) := by decide +kernel
theorem dJ6_bitCount_0f7a4_7 : decode cJ6_bitCount_0f7a4 7 = .ok (.iand, 1) := by decide +kernel
theorem dJ6_bitCount_0f7a4_8 : decode cJ6_bitCount_0f7a4 8 = .ok (.isub, 1) := by decide +kernel
theorem dJ6_bitCount_0f7a4_9 : decode cJ6_bitCount_0f7a4 9 = .ok (.istore_n 0, 1) := by decide +kernel
theorem dJ6_bitCount_0f7a4_10 : decode cJ6_bitCount_0f7a4 10 = .ok (.iload_n 0, 1) := by decide +kernel
theorem dJ6_bitCount_0f7a4_11 : decode cJ6_bitCount_0f7a4 11 = .ok (.ldc_w 266, 3) := by decide +kernel
theorem dJ6_bitCount_0f7a4_14 : decode cJ6_bitCount_0f7a4 14 = .ok (.iand, 1) := by decide +kernel
theorem dJ6_bitCount_0f7a4_15 : decode cJ6_bitCount_0f7a4 15 = .ok (.iload_n 0, 1) := by decide +kernel
theorem dJ6_bitCount_0f7a4_16 : decode cJ6_bitCount_0f7a4 16 = .ok (.iconst 2, 1) := by decide +kernel
theorem dJ6_bitCount_0f7a4_17 : decode cJ6_bitCount_0f7a4 17 = .ok (.iushr, 1) := by decide +kernel
theorem dJ6_bitCount_0f7a4_18 : decode cJ6_bitCount_0f7a4 18 = .ok (.ldc_w 266, 3) := by decide +kernel
theorem dJ6_bitCount_0f7a4_21 : decode cJ6_bitCount_0f7a4 21 = .ok (.iand, 1) := by decide +kernel
theorem dJ6_bitCount_0f7a4_22 : decode cJ6_bitCount_0f7a4 22 = .ok (.iadd, 1) := by decide +kernel
theorem dJ6_bitCount_0f7a4_23 : decode cJ6_bitCount_0f7a4 23 = .ok (.istore_n 0, 1) := by decide +kernel
theorem dJ6_bitCount_0f7a4_24 : decode cJ6_bitCount_0f7a4 24 = .ok (.iload_n 0, 1) := by decide +kernel
theorem dJ6_bitCount_0f7a4_25 : decode cJ6_bitCount_0f7a4 25 = .ok (.iload_n 0, 1) := by decide +kernel
theorem dJ6_bitCount_0f7a4_26 : decode cJ6_bitCount_0f7a4 26 = .ok (.iconst 4, 1) := by decide +kernel
theorem dJ6_bitCount_0f7a4_27 : decode cJ6_bitCount_0f7a4 27 = .ok (.iushr, 1) := by decide +kernel
theorem dJ6_bitCount_0f7a4_28 : decode cJ6_bitCount_0f7a4 28 = .ok (.iadd, 1) := by decide +kernel
theorem dJ6_bitCount_0f7a4_29 : decode cJ6_bitCount_0f7a4 29 = .ok (.ldc_w 267, 3) := by decide +kernel
theorem dJ6_bitCount_0f7a4_32 : decode cJ6_bitCount_0f7a4 32 = .ok (.iand, 1) := by decide +kernel
theorem dJ6_bitCount_0f7a4_33 : decode cJ6_bitCount_0f7a4 33 = .ok (.istore_n 0, 1) := by decide +kernel
theorem dJ6_bitCount_0f7a4_34 : decode cJ6_bitCount_0f7a4 34 = .ok (.iload_n 0, 1) := by decide +kernel
theorem dJ6_bitCount_0f7a4_35 : decode cJ6_bitCount_0f7a4 35 = .ok (.iload_n 0, 1) := by decide +kernel
theorem dJ6_bitCount_0f7a4_36 : decode cJ6_bitCount_0f7a4 36 = .ok (.bipush 8, 2) := by decide +kernel
theorem dJ6_bitCount_0f7a4_38 : decode cJ6_bitCount_0f7a4 38 = .ok (.iushr, 1) := by decide +kernel
theorem dJ6_bitCount_0f7a4_39 : decode cJ6_bitCount_0f7a4 39 = .ok (.iadd, 1) := by decide +kernel
theorem dJ6_bitCount_0f7a4_40 : decode cJ6_bitCount_0f7a4 40 = .ok (.istore_n 0, 1) := by decide +kernel
theorem dJ6_bitCount_0f7a4_41 : decode cJ6_bitCount_0f7a4 41 = .ok (.iload_n 0, 1) := by decide +kernel
theorem dJ6_bitCount_0f7a4_42 : decode cJ6_bitCount_0f7a4 42 = .ok (.iload_n 0, 1) := by decide +kernel
theorem dJ6_bitCount_0f7a4_43 : decode cJ6_bitCount_0f7a4 43 = .ok (.bipush 16, 2) := by decide +kernel
theorem dJ6_bitCount_0f7a4_45 : decode cJ6_bitCount_0f7a4 45 = .ok (.iushr, 1) := by decide +kernel
theorem dJ6_bitCount_0f7a4_46 : decode cJ6_bitCount_0f7a4 46 = .ok (.iadd, 1) := by decide +kernel
theorem dJ6_bitCount_0f7a4_47 : decode cJ6_bitCount_0f7a4 47 = .ok (.istore_n 0, 1) := by decide +kernel
theorem dJ6_bitCount_0f7a4_48 : decode cJ6_bitCount_0f7a4 48 = .ok (.iload_n 0, 1) := by decide +kernel
theorem dJ6_bitCount_0f7a4_49 : decode cJ6_bitCount_0f7a4 49 = .ok (.bipush 63, 2) := by decide +kernel
theorem dJ6_bitCount_0f7a4_51 : decode cJ6_bitCount_0f7a4 51 = .ok (.iand, 1) := by decide +kernel
theorem dJ6_bitCount_0f7a4_52 : decode cJ6_bitCount_0f7a4 52 = .ok (.ireturn, 1) := by decide +kernel
theorem dJ9_max_7cf53_0 : decode cJ9_max_7cf53 0 = .ok (.iload_n 0, 1) := by decide +kernel
theorem dJ9_max_7cf53_1 : decode cJ9_max_7cf53 1 = .ok (.iload_n 1, 1) := by decide +kernel
theorem dJ9_max_7cf53_2 : decode cJ9_max_7cf53 2 = .ok (.if_icmp .lt 7, 3) := by decide +kernel
theorem dJ9_max_7cf53_5 : decode cJ9_max_7cf53 5 = .ok (.iload_n 0, 1) := by decide +kernel
theorem dJ9_max_7cf53_6 : decode cJ9_max_7cf53 6 = .ok (.goto 4, 3) := by decide +kernel
theorem dJ9_max_7cf53_9 : decode cJ9_max_7cf53 9 = .ok (.iload_n 1, 1) := by decide +kernel
theorem dJ9_max_7cf53_10 : decode cJ9_max_7cf53 10 = .ok (.ireturn, 1) := by decide +kernel
theorem dJ9_min_7cf53_0 : decode cJ9_min_7cf53 0 = .ok (.iload_n 0, 1) := by decide +kernel
theorem dJ9_min_7cf53_1 : decode cJ9_min_7cf53 1 = .ok (.iload_n 1, 1) := by decide +kernel
theorem dJ9_min_7cf53_2 : decode cJ9_min_7cf53 2 = .ok (.if_icmp .gt 7, 3) := by decide +kernel
theorem dJ9_min_7cf53_5 : decode cJ9_min_7cf53 5 = .ok (.iload_n 0, 1) := by decide +kernel
theorem dJ9_min_7cf53_6 : decode cJ9_min_7cf53 6 = .ok (.goto 4, 3) := by decide +kernel
theorem dJ9_min_7cf53_9 : decode cJ9_min_7cf53 9 = .ok (.iload_n 1, 1) := by decide +kernel
theorem dJ9_min_7cf53_10 : decode cJ9_min_7cf53 10 = .ok (.ireturn, 1) := by decide +kernel
theorem dJ9_min_f86c9_0 : decode cJ9_min_f86c9 0 = .ok (.lload_n 0, 1) := by decide +kernel
theorem dJ9_min_f86c9_1 : decode cJ9_min_f86c9 1 = .ok (.lload_n 2, 1) := by decide +kernel
theorem dJ9_min_f86c9_2 : decode cJ9_min_f86c9 2 = .ok (.lcmp, 1) := by decide +kernel
theorem dJ9_min_f86c9_3 : decode cJ9_min_f86c9 3 = .ok (.ifCond .gt 7, 3) := by decide +kernel
theorem dJ9_min_f86c9_6 : decode cJ9_min_f86c9 6 = .ok (.lload_n 0, 1) := by decide +kernel
theorem dJ9_min_f86c9_7 : decode cJ9_min_f86c9 7 = .ok (.goto 4, 3) := by decide +kernel
theorem dJ9_min_f86c9_10 : decode cJ9_min_f86c9 10 = .ok (.lload_n 2, 1) := by decide +kernel
theorem dJ9_min_f86c9_11 : decode cJ9_min_f86c9 11 = .ok (.lreturn, 1) := by decide +kernel
end
section
theorem dX1_init_0 : decode cX1_init 0 = .ok (.aload_n 0, 1) := by decide +kernel
theorem dX1_init_1 : decode cX1_init 1 = .ok (.invokespecial 1, 3) := by decide +kernel
theorem dX1_init_4 : decode cX1_init 4 = .ok (.aload_n 0, 1) := by decide +kernel
theorem dX1_init_5 : decode cX1_init 5 = .ok (.bipush 10, 2) := by decide +kernel
theorem dX1_init_7 : decode cX1_init 7 = .ok (.putfield 7, 3) := by decide +kernel
theorem dX1_init_10 : decode cX1_init 10 = .ok (.aload_n 0, 1) := by decide +kernel
theorem dX1_init_11 : decode cX1_init 11 = .ok (.iconst 5, 1) := by decide +kernel
theorem dX1_init_12 : decode cX1_init 12 = .ok (.putfield 13, 3) := by decide +kernel
theorem dX1_init_15 : decode cX1_init 15 = .ok (.aload_n 0, 1) := by decide +kernel
theorem dX1_init_16 : decode cX1_init 16 = .ok (.iconst 2, 1) := by decide +kernel
theorem dX1_init_17 : decode cX1_init 17 = .ok (.putfield 16, 3) := by decide +kernel
theorem dX1_init_20 : decode cX1_init 20 = .ok (.aload_n 0, 1) := by decide +kernel
theorem dX1_init_21 : decode cX1_init 21 = .ok (.bipush 12, 2) := by decide +kernel
theorem dX1_init_23 : decode cX1_init 23 = .ok (.newarray .int, 2) := by decide +kernel
theorem dX1_init_25 : decode cX1_init 25 = .ok (.putfield 19, 3) := by decide +kernel
theorem dX1_init_28 : decode cX1_init 28 = .ok (.aload_n 0, 1) := by decide +kernel
theorem dX1_init_29 : decode cX1_init 29 = .ok (.bipush 12, 2) := by decide +kernel
theorem dX1_init_31 : decode cX1_init 31 = .ok (.bipush 12, 2) := by decide +kernel
theorem dX1_init_33 : decode cX1_init 33 = .ok (.multianewarray 23 2, 4) := by decide +kernel
theorem dX1_init_37 : decode cX1_init 37 = .ok (.putfield 25, 3) := by decide +kernel
theorem dX1_init_40 : decode cX1_init 40 = .ok (.aload_n 0, 1) := by decide +kernel
theorem dX1_init_41 : decode cX1_init 41 = .ok (.bipush 12, 2) := by decide +kernel
theorem dX1_init_43 : decode cX1_init 43 = .ok (.bipush 12, 2) := by decide +kernel
theorem dX1_init_45 : decode cX1_init 45 = .ok (.multianewarray 23 2, 4) := by decide +kernel
theorem dX1_init_49 : decode cX1_init 49 = .ok (.putfield 28, 3) := by decide +kernel
theorem dX1_init_52 : decode cX1_init 52 = .ok (.aload_n 0, 1) := by decide +kernel
theorem dX1_init_53 : decode cX1_init 53 = .ok (.iconst 0, 1) := by decide +kernel
theorem dX1_init_54 : decode cX1_init 54 = .ok (.newarray .int, 2) := by decide +kernel
theorem dX1_init_56 : decode cX1_init 56 = .ok (.putfield 31, 3) := by decide +kernel
theorem dX1_init_59 : decode cX1_init 59 = .ok (.aload_n 0, 1) := by decide +kernel
theorem dX1_init_60 : decode cX1_init 60 = .ok (.iconst 0, 1) := by decide +kernel
theorem dX1_init_61 : decode cX1_init 61 = .ok (.newarray .boolean, 2) := by decide +kernel
theorem dX1_init_63 : decode cX1_init 63 = .ok (.putfield 34, 3) := by decide +kernel
theorem dX1_init_66 : decode cX1_init 66 = .ok (.return_, 1) := by decide +kernel
theorem dX1_counts_0 : decode cX1_counts 0 = .ok (.iload_n 1, 1) := by decide +kernel
theorem dX1_counts_1 : decode cX1_counts 1 = .ok (.aload_n 0, 1) := by decide +kernel
theorem dX1_counts_2 : decode cX1_counts 2 = .ok (.getfield 7, 3) := by decide +kernel
theorem dX1_counts_5 : decode cX1_counts 5 = .ok (.irem, 1) := by decide +kernel
theorem dX1_counts_6 : decode cX1_counts 6 = .ok (.ifCond .ne 12, 3) := by decide +kernel
theorem dX1_counts_9 : decode cX1_counts 9 = .ok (.iload_n 1, 1) := by decide +kernel
theorem dX1_counts_10 : decode cX1_counts 10 = .ok (.aload_n 0, 1) := by decide +kernel
theorem dX1_counts_11 : decode cX1_counts 11 = .ok (.getfield 7, 3) := by decide +kernel
theorem dX1_counts_14 : decode cX1_counts 14 = .ok (.idiv, 1) := by decide +kernel
theorem dX1_counts_15 : decode cX1_counts 15 = .ok (.goto 11, 3) := by decide +kernel
theorem dX1_counts_18 : decode cX1_counts 18 = .ok (.iload_n 1, 1) := by decide +kernel
theorem dX1_counts_19 : decode cX1_counts 19 = .ok (.aload_n 0, 1) := by decide +kernel
theorem dX1_counts_20 : decode cX1_counts 20 = .ok (.getfield 7, 3) := by decide +kernel
theorem dX1_counts_23 : decode cX1_counts 23 = .ok (.idiv, 1) := by decide +kernel
theorem dX1_counts_24 : decode cX1_counts 24 = .ok (.iconst 1, 1) := by decide +kernel
theorem dX1_counts_25 : decode cX1_counts 25 = .ok (.iadd, 1) := by decide +kernel
theorem dX1_counts_26 : decode cX1_counts 26 = .ok (.ireturn, 1) := by decide +kernel
theorem dX1_lifted_0 : decode cX1_lifted 0 = .ok (.aload_n 0, 1) := by decide +kernel
theorem dX1_lifted_1 : decode cX1_lifted 1 = .ok (.getfield 31, 3) := by decide +kernel
theorem dX1_lifted_4 : decode cX1_lifted 4 = .ok (.arraylength, 1) := by decide +kernel
theorem dX1_lifted_5 : decode cX1_lifted 5 = .ok (.ifCond .ne 7, 3) := by decide +kernel
theorem dX1_lifted_8 : decode cX1_lifted 8 = .ok (.iconst 0, 1) := by decide +kernel
theorem dX1_lifted_9 : decode cX1_lifted 9 = .ok (.goto 19, 3) := by decide +kernel
theorem dX1_lifted_12 : decode cX1_lifted 12 = .ok (.iload_n 1, 1) := by decide +kernel
theorem dX1_lifted_13 : decode cX1_lifted 13 = .ok (.aload_n 0, 1) := by decide +kernel
theorem dX1_lifted_14 : decode cX1_lifted 14 = .ok (.getfield 13, 3) := by decide +kernel
theorem dX1_lifted_17 : decode cX1_lifted 17 = .ok (.if_icmp .ge 10, 3) := by decide +kernel
theorem dX1_lifted_20 : decode cX1_lifted 20 = .ok (.aload_n 0, 1) := by decide +kernel
theorem dX1_lifted_21 : decode cX1_lifted 21 = .ok (.getfield 13, 3) := by decide +kernel
theorem dX1_lifted_24 : decode cX1_lifted 24 = .ok (.goto 4, 3) := by decide +kernel
theorem dX1_lifted_27 : decode cX1_lifted 27 = .ok (.iload_n 1, 1) := by decide +kernel
theorem dX1_lifted_28 : decode cX1_lifted 28 = .ok (.ireturn, 1) := by decide +kernel
set_option maxRecDepth 20000 in
theorem ggX1_sum_X1_counts : GoodIn wsX1_sum wsX1_counts := goodIn_r _ [6, 7, 8, 9, 10, 11, 12, 13, 14, 15, 16, 17, 18] (by decide +kernel) (by decide +kernel)
set_option maxRecDepth 20000 in
theorem gX1_sum_X1_counts : GoodIn wsX1_sum (wsV RX1 38 RX1 yX1_counts wsX1_counts) := goodIn_app (goodIn_of _ (by decide +kernel)) ggX1_sum_X1_counts
theorem dX1_sum_0 : decode cX1_sum 0 = .ok (.iconst 0, 1) := by decide +kernel
theorem dX1_sum_1 : decode cX1_sum 1 = .ok (.istore_n 3, 1) := by decide +kernel
theorem dX1_sum_2 : decode cX1_sum 2 = .ok (.iconst 0, 1) := by decide +kernel
theorem dX1_sum_3 : decode cX1_sum 3 = .ok (.istore 4, 2) := by decide +kernel
theorem dX1_sum_5 : decode cX1_sum 5 = .ok (.iconst 0, 1) := by decide +kernel
theorem dX1_sum_6 : decode cX1_sum 6 = .ok (.istore 5, 2) := by decide +kernel
theorem dX1_sum_8 : decode cX1_sum 8 = .ok (.iload 5, 2) := by decide +kernel
theorem dX1_sum_10 : decode cX1_sum 10 = .ok (.aload_n 1, 1) := by decide +kernel
theorem dX1_sum_11 : decode cX1_sum 11 = .ok (.arraylength, 1) := by decide +kernel
theorem dX1_sum_12 : decode cX1_sum 12 = .ok (.if_icmp .ge 45, 3) := by decide +kernel
theorem dX1_sum_15 : decode cX1_sum 15 = .ok (.iload 4, 2) := by decide +kernel
theorem dX1_sum_17 : decode cX1_sum 17 = .ok (.aload_n 0, 1) := by decide +kernel
theorem dX1_sum_18 : decode cX1_sum 18 = .ok (.getfield 19, 3) := by decide +kernel
theorem dX1_sum_21 : decode cX1_sum 21 = .ok (.aload_n 1, 1) := by decide +kernel
theorem dX1_sum_22 : decode cX1_sum 22 = .ok (.iload 5, 2) := by decide +kernel
theorem dX1_sum_24 : decode cX1_sum 24 = .ok (.iaload, 1) := by decide +kernel
theorem dX1_sum_25 : decode cX1_sum 25 = .ok (.iaload, 1) := by decide +kernel
theorem dX1_sum_26 : decode cX1_sum 26 = .ok (.iadd, 1) := by decide +kernel
theorem dX1_sum_27 : decode cX1_sum 27 = .ok (.istore 4, 2) := by decide +kernel
theorem dX1_sum_29 : decode cX1_sum 29 = .ok (.aload_n 2, 1) := by decide +kernel
theorem dX1_sum_30 : decode cX1_sum 30 = .ok (.iload 5, 2) := by decide +kernel
theorem dX1_sum_32 : decode cX1_sum 32 = .ok (.baload, 1) := by decide +kernel
theorem dX1_sum_33 : decode cX1_sum 33 = .ok (.ifCond .eq 6, 3) := by decide +kernel
theorem dX1_sum_36 : decode cX1_sum 36 = .ok (.goto 15, 3) := by decide +kernel
theorem dX1_sum_39 : decode cX1_sum 39 = .ok (.iload_n 3, 1) := by decide +kernel
theorem dX1_sum_40 : decode cX1_sum 40 = .ok (.aload_n 0, 1) := by decide +kernel
theorem dX1_sum_41 : decode cX1_sum 41 = .ok (.iload 4, 2) := by decide +kernel
theorem dX1_sum_43 : decode cX1_sum 43 = .ok (.invokevirtual 38, 3) := by decide +kernel
theorem dX1_sum_46 : decode cX1_sum 46 = .ok (.iadd, 1) := by decide +kernel
theorem dX1_sum_47 : decode cX1_sum 47 = .ok (.istore_n 3, 1) := by decide +kernel
theorem dX1_sum_48 : decode cX1_sum 48 = .ok (.iconst 0, 1) := by decide +kernel
theorem dX1_sum_49 : decode cX1_sum 49 = .ok (.istore 4, 2) := by decide +kernel
theorem dX1_sum_51 : decode cX1_sum 51 = .ok (.iinc 5 1, 3) := by decide +kernel
theorem dX1_sum_54 : decode cX1_sum 54 = .ok (.goto (-46), 3) := by decide +kernel
theorem dX1_sum_57 : decode cX1_sum 57 = .ok (.iload_n 3, 1) := by decide +kernel
theorem dX1_sum_58 : decode cX1_sum 58 = .ok (.ireturn, 1) := by decide +kernel
set_option maxRecDepth 20000 in
theorem ggX1_count_X1_sum : GoodIn wsX1_count wsX1_sum := goodIn_r _ [7, 8, 9, 10, 11, 6, 12, 13, 19, 20, 21, 22, 23, 24, 25, 26, 27, 28, 29] (by decide +kernel) (by decide +kernel)
set_option maxRecDepth 20000 in
theorem gX1_count_X1_sum : GoodIn wsX1_count (wsV RX1 42 RX1 yX1_sum wsX1_sum) := goodIn_app (goodIn_of _ (by decide +kernel)) ggX1_count_X1_sum
set_option maxRecDepth 20000 in
theorem ggX1_count_X1_lifted : GoodIn wsX1_count wsX1_lifted := goodIn_r _ [17, 1, 18, 19, 20, 21, 22, 23, 24, 25, 26, 27, 28, 29] (by decide +kernel) (by decide +kernel)
set_option maxRecDepth 20000 in
theorem gX1_count_X1_lifted : GoodIn wsX1_count (wsV RX1 46 RX1 yX1_lifted wsX1_lifted) := goodIn_app (goodIn_of _ (by decide +kernel)) ggX1_count_X1_lifted
theorem dX1_count_0 : decode cX1_count 0 = .ok (.aload_n 0, 1) := by decide +kernel
theorem dX1_count_1 : decode cX1_count 1 = .ok (.aload_n 0, 1) := by decide +kernel
theorem dX1_count_2 : decode cX1_count 2 = .ok (.aload_n 0, 1) := by decide +kernel
theorem dX1_count_3 : decode cX1_count 3 = .ok (.getfield 31, 3) := by decide +kernel
theorem dX1_count_6 : decode cX1_count 6 = .ok (.aload_n 0, 1) := by decide +kernel
theorem dX1_count_7 : decode cX1_count 7 = .ok (.getfield 34, 3) := by decide +kernel
theorem dX1_count_10 : decode cX1_count 10 = .ok (.invokevirtual 42, 3) := by decide +kernel
theorem dX1_count_13 : decode cX1_count 13 = .ok (.invokevirtual 46, 3) := by decide +kernel
theorem dX1_count_16 : decode cX1_count 16 = .ok (.ireturn, 1) := by decide +kernel
theorem dX1_may_0 : decode cX1_may 0 = .ok (.iload_n 1, 1) := by decide +kernel
theorem dX1_may_1 : decode cX1_may 1 = .ok (.iload_n 2, 1) := by decide +kernel
theorem dX1_may_2 : decode cX1_may 2 = .ok (.if_icmp .eq 14, 3) := by decide +kernel
theorem dX1_may_5 : decode cX1_may 5 = .ok (.aload_n 0, 1) := by decide +kernel
theorem dX1_may_6 : decode cX1_may 6 = .ok (.getfield 25, 3) := by decide +kernel
theorem dX1_may_9 : decode cX1_may 9 = .ok (.iload_n 1, 1) := by decide +kernel
theorem dX1_may_10 : decode cX1_may 10 = .ok (.aaload, 1) := by decide +kernel
theorem dX1_may_11 : decode cX1_may 11 = .ok (.iload_n 2, 1) := by decide +kernel
theorem dX1_may_12 : decode cX1_may 12 = .ok (.baload, 1) := by decide +kernel
theorem dX1_may_13 : decode cX1_may 13 = .ok (.ifCond .eq 7, 3) := by decide +kernel
theorem dX1_may_16 : decode cX1_may 16 = .ok (.iconst 1, 1) := by decide +kernel
theorem dX1_may_17 : decode cX1_may 17 = .ok (.goto 4, 3) := by decide +kernel
theorem dX1_may_20 : decode cX1_may 20 = .ok (.iconst 0, 1) := by decide +kernel
theorem dX1_may_21 : decode cX1_may 21 = .ok (.ireturn, 1) := by decide +kernel
set_option maxRecDepth 20000 in
theorem ggX1_upTo_X1_may : GoodIn wsX1_upTo wsX1_may := goodIn_r _ [14, 15, 21, 22, 23, 24, 25, 26, 27, 28, 29, 30, 31] (by decide +kernel) (by decide +kernel)
set_option maxRecDepth 20000 in
theorem gX1_upTo_X1_may : GoodIn wsX1_upTo (wsV RX1 52 RX1 yX1_may wsX1_may) := goodIn_app (goodIn_of _ (by decide +kernel)) ggX1_upTo_X1_may
set_option maxRecDepth 20000 in
theorem ggX1_upTo_X1_counts : GoodIn wsX1_upTo wsX1_counts := goodIn_r _ [19, 20, 21, 22, 23, 24, 25, 26, 27, 28, 29, 30, 31] (by decide +kernel) (by decide +kernel)
set_option maxRecDepth 20000 in
theorem gX1_upTo_X1_counts : GoodIn wsX1_upTo (wsV RX1 38 RX1 yX1_counts wsX1_counts) := goodIn_app (goodIn_of _ (by decide +kernel)) ggX1_upTo_X1_counts
theorem dX1_upTo_0 : decode cX1_upTo 0 = .ok (.aload_n 0, 1) := by decide +kernel
theorem dX1_upTo_1 : decode cX1_upTo 1 = .ok (.getfield 31, 3) := by decide +kernel
theorem dX1_upTo_4 : decode cX1_upTo 4 = .ok (.arraylength, 1) := by decide +kernel
theorem dX1_upTo_5 : decode cX1_upTo 5 = .ok (.iconst 1, 1) := by decide +kernel
theorem dX1_upTo_6 : decode cX1_upTo 6 = .ok (.iadd, 1) := by decide +kernel
theorem dX1_upTo_7 : decode cX1_upTo 7 = .ok (.newarray .int, 2) := by decide +kernel
theorem dX1_upTo_9 : decode cX1_upTo 9 = .ok (.astore_n 1, 1) := by decide +kernel
theorem dX1_upTo_10 : decode cX1_upTo 10 = .ok (.iconst 0, 1) := by decide +kernel
theorem dX1_upTo_11 : decode cX1_upTo 11 = .ok (.istore_n 2, 1) := by decide +kernel
theorem dX1_upTo_12 : decode cX1_upTo 12 = .ok (.iload_n 2, 1) := by decide +kernel
theorem dX1_upTo_13 : decode cX1_upTo 13 = .ok (.aload_n 0, 1) := by decide +kernel
theorem dX1_upTo_14 : decode cX1_upTo 14 = .ok (.getfield 31, 3) := by decide +kernel
theorem dX1_upTo_17 : decode cX1_upTo 17 = .ok (.arraylength, 1) := by decide +kernel
theorem dX1_upTo_18 : decode cX1_upTo 18 = .ok (.if_icmp .ge 165, 3) := by decide +kernel
theorem dX1_upTo_21 : decode cX1_upTo 21 = .ok (.aload_n 1, 1) := by decide +kernel
theorem dX1_upTo_22 : decode cX1_upTo 22 = .ok (.iload_n 2, 1) := by decide +kernel
theorem dX1_upTo_23 : decode cX1_upTo 23 = .ok (.iconst 1, 1) := by decide +kernel
theorem dX1_upTo_24 : decode cX1_upTo 24 = .ok (.iadd, 1) := by decide +kernel
theorem dX1_upTo_25 : decode cX1_upTo 25 = .ok (.sipush 9999, 3) := by decide +kernel
theorem dX1_upTo_28 : decode cX1_upTo 28 = .ok (.iastore, 1) := by decide +kernel
theorem dX1_upTo_29 : decode cX1_upTo 29 = .ok (.iconst 0, 1) := by decide +kernel
theorem dX1_upTo_30 : decode cX1_upTo 30 = .ok (.istore_n 3, 1) := by decide +kernel
theorem dX1_upTo_31 : decode cX1_upTo 31 = .ok (.iload_n 3, 1) := by decide +kernel
theorem dX1_upTo_32 : decode cX1_upTo 32 = .ok (.aload_n 0, 1) := by decide +kernel
theorem dX1_upTo_33 : decode cX1_upTo 33 = .ok (.getfield 49, 3) := by decide +kernel
theorem dX1_upTo_36 : decode cX1_upTo 36 = .ok (.if_icmp .ge 141, 3) := by decide +kernel
theorem dX1_upTo_39 : decode cX1_upTo 39 = .ok (.aload_n 0, 1) := by decide +kernel
theorem dX1_upTo_40 : decode cX1_upTo 40 = .ok (.aload_n 0, 1) := by decide +kernel
theorem dX1_upTo_41 : decode cX1_upTo 41 = .ok (.getfield 31, 3) := by decide +kernel
theorem dX1_upTo_44 : decode cX1_upTo 44 = .ok (.iload_n 2, 1) := by decide +kernel
theorem dX1_upTo_45 : decode cX1_upTo 45 = .ok (.iaload, 1) := by decide +kernel
theorem dX1_upTo_46 : decode cX1_upTo 46 = .ok (.iload_n 3, 1) := by decide +kernel
theorem dX1_upTo_47 : decode cX1_upTo 47 = .ok (.invokevirtual 52, 3) := by decide +kernel
theorem dX1_upTo_50 : decode cX1_upTo 50 = .ok (.ifCond .ne 6, 3) := by decide +kernel
theorem dX1_upTo_53 : decode cX1_upTo 53 = .ok (.goto 118, 3) := by decide +kernel
theorem dX1_upTo_56 : decode cX1_upTo 56 = .ok (.aload_n 1, 1) := by decide +kernel
theorem dX1_upTo_57 : decode cX1_upTo 57 = .ok (.iload_n 2, 1) := by decide +kernel
theorem dX1_upTo_58 : decode cX1_upTo 58 = .ok (.iconst 1, 1) := by decide +kernel
theorem dX1_upTo_59 : decode cX1_upTo 59 = .ok (.iadd, 1) := by decide +kernel
theorem dX1_upTo_60 : decode cX1_upTo 60 = .ok (.aload_n 1, 1) := by decide +kernel
theorem dX1_upTo_61 : decode cX1_upTo 61 = .ok (.iload_n 2, 1) := by decide +kernel
theorem dX1_upTo_62 : decode cX1_upTo 62 = .ok (.iconst 1, 1) := by decide +kernel
theorem dX1_upTo_63 : decode cX1_upTo 63 = .ok (.iadd, 1) := by decide +kernel
theorem dX1_upTo_64 : decode cX1_upTo 64 = .ok (.iaload, 1) := by decide +kernel
theorem dX1_upTo_65 : decode cX1_upTo 65 = .ok (.aload_n 1, 1) := by decide +kernel
theorem dX1_upTo_66 : decode cX1_upTo 66 = .ok (.iload_n 2, 1) := by decide +kernel
theorem dX1_upTo_67 : decode cX1_upTo 67 = .ok (.iaload, 1) := by decide +kernel
theorem dX1_upTo_68 : decode cX1_upTo 68 = .ok (.aload_n 0, 1) := by decide +kernel
theorem dX1_upTo_69 : decode cX1_upTo 69 = .ok (.aload_n 0, 1) := by decide +kernel
theorem dX1_upTo_70 : decode cX1_upTo 70 = .ok (.getfield 19, 3) := by decide +kernel
theorem dX1_upTo_73 : decode cX1_upTo 73 = .ok (.iload_n 3, 1) := by decide +kernel
theorem dX1_upTo_74 : decode cX1_upTo 74 = .ok (.iaload, 1) := by decide +kernel
theorem dX1_upTo_75 : decode cX1_upTo 75 = .ok (.invokevirtual 38, 3) := by decide +kernel
theorem dX1_upTo_78 : decode cX1_upTo 78 = .ok (.iadd, 1) := by decide +kernel
theorem dX1_upTo_79 : decode cX1_upTo 79 = .ok (.invokestatic 56, 3) := by decide +kernel
theorem dX1_upTo_82 : decode cX1_upTo 82 = .ok (.iastore, 1) := by decide +kernel
theorem dX1_upTo_83 : decode cX1_upTo 83 = .ok (.iconst 0, 1) := by decide +kernel
theorem dX1_upTo_84 : decode cX1_upTo 84 = .ok (.istore 4, 2) := by decide +kernel
theorem dX1_upTo_86 : decode cX1_upTo 86 = .ok (.iload_n 2, 1) := by decide +kernel
theorem dX1_upTo_87 : decode cX1_upTo 87 = .ok (.ifCond .le 84, 3) := by decide +kernel
theorem dX1_upTo_90 : decode cX1_upTo 90 = .ok (.iload 4, 2) := by decide +kernel
theorem dX1_upTo_92 : decode cX1_upTo 92 = .ok (.aload_n 0, 1) := by decide +kernel
theorem dX1_upTo_93 : decode cX1_upTo 93 = .ok (.getfield 49, 3) := by decide +kernel
theorem dX1_upTo_96 : decode cX1_upTo 96 = .ok (.if_icmp .ge 75, 3) := by decide +kernel
theorem dX1_upTo_99 : decode cX1_upTo 99 = .ok (.aload_n 0, 1) := by decide +kernel
theorem dX1_upTo_100 : decode cX1_upTo 100 = .ok (.aload_n 0, 1) := by decide +kernel
theorem dX1_upTo_101 : decode cX1_upTo 101 = .ok (.getfield 31, 3) := by decide +kernel
theorem dX1_upTo_104 : decode cX1_upTo 104 = .ok (.iload_n 2, 1) := by decide +kernel
theorem dX1_upTo_105 : decode cX1_upTo 105 = .ok (.iconst 1, 1) := by decide +kernel
theorem dX1_upTo_106 : decode cX1_upTo 106 = .ok (.isub, 1) := by decide +kernel
theorem dX1_upTo_107 : decode cX1_upTo 107 = .ok (.iaload, 1) := by decide +kernel
theorem dX1_upTo_108 : decode cX1_upTo 108 = .ok (.iload 4, 2) := by decide +kernel
theorem dX1_upTo_110 : decode cX1_upTo 110 = .ok (.invokevirtual 52, 3) := by decide +kernel
theorem dX1_upTo_113 : decode cX1_upTo 113 = .ok (.ifCond .eq 52, 3) := by decide +kernel
theorem dX1_upTo_116 : decode cX1_upTo 116 = .ok (.aload_n 0, 1) := by decide +kernel
theorem dX1_upTo_117 : decode cX1_upTo 117 = .ok (.getfield 28, 3) := by decide +kernel
theorem dX1_upTo_120 : decode cX1_upTo 120 = .ok (.iload 4, 2) := by decide +kernel
theorem dX1_upTo_122 : decode cX1_upTo 122 = .ok (.aaload, 1) := by decide +kernel
theorem dX1_upTo_123 : decode cX1_upTo 123 = .ok (.iload_n 3, 1) := by decide +kernel
theorem dX1_upTo_124 : decode cX1_upTo 124 = .ok (.baload, 1) := by decide +kernel
theorem dX1_upTo_125 : decode cX1_upTo 125 = .ok (.ifCond .eq 40, 3) := by decide +kernel
theorem dX1_upTo_128 : decode cX1_upTo 128 = .ok (.aload_n 1, 1) := by decide +kernel
theorem dX1_upTo_129 : decode cX1_upTo 129 = .ok (.iload_n 2, 1) := by decide +kernel
theorem dX1_upTo_130 : decode cX1_upTo 130 = .ok (.iconst 1, 1) := by decide +kernel
theorem dX1_upTo_131 : decode cX1_upTo 131 = .ok (.iadd, 1) := by decide +kernel
theorem dX1_upTo_132 : decode cX1_upTo 132 = .ok (.aload_n 1, 1) := by decide +kernel
theorem dX1_upTo_133 : decode cX1_upTo 133 = .ok (.iload_n 2, 1) := by decide +kernel
theorem dX1_upTo_134 : decode cX1_upTo 134 = .ok (.iconst 1, 1) := by decide +kernel
theorem dX1_upTo_135 : decode cX1_upTo 135 = .ok (.iadd, 1) := by decide +kernel
theorem dX1_upTo_136 : decode cX1_upTo 136 = .ok (.iaload, 1) := by decide +kernel
theorem dX1_upTo_137 : decode cX1_upTo 137 = .ok (.aload_n 1, 1) := by decide +kernel
theorem dX1_upTo_138 : decode cX1_upTo 138 = .ok (.iload_n 2, 1) := by decide +kernel
theorem dX1_upTo_139 : decode cX1_upTo 139 = .ok (.iconst 1, 1) := by decide +kernel
theorem dX1_upTo_140 : decode cX1_upTo 140 = .ok (.isub, 1) := by decide +kernel
theorem dX1_upTo_141 : decode cX1_upTo 141 = .ok (.iaload, 1) := by decide +kernel
theorem dX1_upTo_142 : decode cX1_upTo 142 = .ok (.aload_n 0, 1) := by decide +kernel
theorem dX1_upTo_143 : decode cX1_upTo 143 = .ok (.aload_n 0, 1) := by decide +kernel
theorem dX1_upTo_144 : decode cX1_upTo 144 = .ok (.getfield 19, 3) := by decide +kernel
theorem dX1_upTo_147 : decode cX1_upTo 147 = .ok (.iload_n 3, 1) := by decide +kernel
theorem dX1_upTo_148 : decode cX1_upTo 148 = .ok (.iaload, 1) := by decide +kernel
theorem dX1_upTo_149 : decode cX1_upTo 149 = .ok (.aload_n 0, 1) := by decide +kernel
theorem dX1_upTo_150 : decode cX1_upTo 150 = .ok (.getfield 19, 3) := by decide +kernel
theorem dX1_upTo_153 : decode cX1_upTo 153 = .ok (.iload 4, 2) := by decide +kernel
theorem dX1_upTo_155 : decode cX1_upTo 155 = .ok (.iaload, 1) := by decide +kernel
theorem dX1_upTo_156 : decode cX1_upTo 156 = .ok (.iadd, 1) := by decide +kernel
theorem dX1_upTo_157 : decode cX1_upTo 157 = .ok (.invokevirtual 38, 3) := by decide +kernel
theorem dX1_upTo_160 : decode cX1_upTo 160 = .ok (.iadd, 1) := by decide +kernel
theorem dX1_upTo_161 : decode cX1_upTo 161 = .ok (.invokestatic 56, 3) := by decide +kernel
theorem dX1_upTo_164 : decode cX1_upTo 164 = .ok (.iastore, 1) := by decide +kernel
theorem dX1_upTo_165 : decode cX1_upTo 165 = .ok (.iinc 4 1, 3) := by decide +kernel
theorem dX1_upTo_168 : decode cX1_upTo 168 = .ok (.goto (-82), 3) := by decide +kernel
theorem dX1_upTo_171 : decode cX1_upTo 171 = .ok (.iinc 3 1, 3) := by decide +kernel
theorem dX1_upTo_174 : decode cX1_upTo 174 = .ok (.goto (-143), 3) := by decide +kernel
theorem dX1_upTo_177 : decode cX1_upTo 177 = .ok (.iinc 2 1, 3) := by decide +kernel
theorem dX1_upTo_180 : decode cX1_upTo 180 = .ok (.goto (-168), 3) := by decide +kernel
theorem dX1_upTo_183 : decode cX1_upTo 183 = .ok (.aload_n 1, 1) := by decide +kernel
theorem dX1_upTo_184 : decode cX1_upTo 184 = .ok (.areturn, 1) := by decide +kernel
set_option maxRecDepth 20000 in
theorem ggX1_cheapest_X1_upTo : GoodIn wsX1_cheapest wsX1_upTo := goodIn_r _ [6, 1, 7, 8, 9, 10, 11, 12, 13, 14, 15, 16, 17, 5, 18, 19, 20, 21, 22, 23, 24, 30, 31, 32, 33, 34, 35, 36, 37, 38, 39, 40] (by decide +kernel) (by decide +kernel)
set_option maxRecDepth 20000 in
theorem gX1_cheapest_X1_upTo : GoodIn wsX1_cheapest (wsV RX1 62 RX1 yX1_upTo wsX1_upTo) := goodIn_app (goodIn_of _ (by decide +kernel)) ggX1_cheapest_X1_upTo
set_option maxRecDepth 20000 in
theorem ggX1_cheapest_X1_lifted : GoodIn wsX1_cheapest wsX1_lifted := goodIn_r _ [28, 1, 29, 30, 31, 32, 33, 34, 35, 36, 37, 38, 39, 40] (by decide +kernel) (by decide +kernel)
set_option maxRecDepth 20000 in
theorem gX1_cheapest_X1_lifted : GoodIn wsX1_cheapest (wsV RX1 46 RX1 yX1_lifted wsX1_lifted) := goodIn_app (goodIn_of _ (by decide +kernel)) ggX1_cheapest_X1_lifted
theorem dX1_cheapest_0 : decode cX1_cheapest 0 = .ok (.aload_n 0, 1) := by decide +kernel
theorem dX1_cheapest_1 : decode cX1_cheapest 1 = .ok (.aload_n 0, 1) := by decide +kernel
theorem dX1_cheapest_2 : decode cX1_cheapest 2 = .ok (.invokevirtual 62, 3) := by decide +kernel
theorem dX1_cheapest_5 : decode cX1_cheapest 5 = .ok (.aload_n 0, 1) := by decide +kernel
theorem dX1_cheapest_6 : decode cX1_cheapest 6 = .ok (.getfield 31, 3) := by decide +kernel
theorem dX1_cheapest_9 : decode cX1_cheapest 9 = .ok (.arraylength, 1) := by decide +kernel
theorem dX1_cheapest_10 : decode cX1_cheapest 10 = .ok (.iaload, 1) := by decide +kernel
theorem dX1_cheapest_11 : decode cX1_cheapest 11 = .ok (.invokevirtual 46, 3) := by decide +kernel
theorem dX1_cheapest_14 : decode cX1_cheapest 14 = .ok (.ireturn, 1) := by decide +kernel
set_option maxRecDepth 20000 in
theorem ggX1_rest_X1_init : GoodIn wsX1_rest wsX1_init := goodIn_r _ [14, 15, 16, 17, 5, 6, 18, 11, 7, 19, 20, 8, 9, 10, 21, 22, 23, 24, 25, 26, 27, 28, 29, 30, 31, 32] (by decide +kernel) (by decide +kernel)
set_option maxRecDepth 20000 in
theorem gX1_rest_X1_init : GoodIn wsX1_rest (wsX1_init) := ggX1_rest_X1_init
theorem dX1_rest_0 : decode cX1_rest 0 = .ok (.new 8, 3) := by decide +kernel
theorem dX1_rest_3 : decode cX1_rest 3 = .ok (.dup, 1) := by decide +kernel
theorem dX1_rest_4 : decode cX1_rest 4 = .ok (.invokespecial 66, 3) := by decide +kernel
theorem dX1_rest_7 : decode cX1_rest 7 = .ok (.astore_n 2, 1) := by decide +kernel
theorem dX1_rest_8 : decode cX1_rest 8 = .ok (.aload_n 2, 1) := by decide +kernel
theorem dX1_rest_9 : decode cX1_rest 9 = .ok (.aload_n 0, 1) := by decide +kernel
theorem dX1_rest_10 : decode cX1_rest 10 = .ok (.getfield 49, 3) := by decide +kernel
theorem dX1_rest_13 : decode cX1_rest 13 = .ok (.putfield 49, 3) := by decide +kernel
theorem dX1_rest_16 : decode cX1_rest 16 = .ok (.aload_n 2, 1) := by decide +kernel
theorem dX1_rest_17 : decode cX1_rest 17 = .ok (.aload_n 0, 1) := by decide +kernel
theorem dX1_rest_18 : decode cX1_rest 18 = .ok (.getfield 7, 3) := by decide +kernel
theorem dX1_rest_21 : decode cX1_rest 21 = .ok (.putfield 7, 3) := by decide +kernel
theorem dX1_rest_24 : decode cX1_rest 24 = .ok (.aload_n 2, 1) := by decide +kernel
theorem dX1_rest_25 : decode cX1_rest 25 = .ok (.iconst 0, 1) := by decide +kernel
theorem dX1_rest_26 : decode cX1_rest 26 = .ok (.putfield 13, 3) := by decide +kernel
theorem dX1_rest_29 : decode cX1_rest 29 = .ok (.iconst 0, 1) := by decide +kernel
theorem dX1_rest_30 : decode cX1_rest 30 = .ok (.istore_n 3, 1) := by decide +kernel
theorem dX1_rest_31 : decode cX1_rest 31 = .ok (.iload_n 3, 1) := by decide +kernel
theorem dX1_rest_32 : decode cX1_rest 32 = .ok (.aload_n 0, 1) := by decide +kernel
theorem dX1_rest_33 : decode cX1_rest 33 = .ok (.getfield 49, 3) := by decide +kernel
theorem dX1_rest_36 : decode cX1_rest 36 = .ok (.if_icmp .ge 75, 3) := by decide +kernel
theorem dX1_rest_39 : decode cX1_rest 39 = .ok (.aload_n 2, 1) := by decide +kernel
theorem dX1_rest_40 : decode cX1_rest 40 = .ok (.getfield 19, 3) := by decide +kernel
theorem dX1_rest_43 : decode cX1_rest 43 = .ok (.iload_n 3, 1) := by decide +kernel
theorem dX1_rest_44 : decode cX1_rest 44 = .ok (.aload_n 0, 1) := by decide +kernel
theorem dX1_rest_45 : decode cX1_rest 45 = .ok (.getfield 19, 3) := by decide +kernel
theorem dX1_rest_48 : decode cX1_rest 48 = .ok (.iload_n 3, 1) := by decide +kernel
theorem dX1_rest_49 : decode cX1_rest 49 = .ok (.iaload, 1) := by decide +kernel
theorem dX1_rest_50 : decode cX1_rest 50 = .ok (.iastore, 1) := by decide +kernel
theorem dX1_rest_51 : decode cX1_rest 51 = .ok (.iconst 0, 1) := by decide +kernel
theorem dX1_rest_52 : decode cX1_rest 52 = .ok (.istore 4, 2) := by decide +kernel
theorem dX1_rest_54 : decode cX1_rest 54 = .ok (.iload 4, 2) := by decide +kernel
theorem dX1_rest_56 : decode cX1_rest 56 = .ok (.aload_n 0, 1) := by decide +kernel
theorem dX1_rest_57 : decode cX1_rest 57 = .ok (.getfield 49, 3) := by decide +kernel
theorem dX1_rest_60 : decode cX1_rest 60 = .ok (.if_icmp .ge 45, 3) := by decide +kernel
theorem dX1_rest_63 : decode cX1_rest 63 = .ok (.aload_n 2, 1) := by decide +kernel
theorem dX1_rest_64 : decode cX1_rest 64 = .ok (.getfield 25, 3) := by decide +kernel
theorem dX1_rest_67 : decode cX1_rest 67 = .ok (.iload_n 3, 1) := by decide +kernel
theorem dX1_rest_68 : decode cX1_rest 68 = .ok (.aaload, 1) := by decide +kernel
theorem dX1_rest_69 : decode cX1_rest 69 = .ok (.iload 4, 2) := by decide +kernel
theorem dX1_rest_71 : decode cX1_rest 71 = .ok (.aload_n 0, 1) := by decide +kernel
theorem dX1_rest_72 : decode cX1_rest 72 = .ok (.getfield 25, 3) := by decide +kernel
theorem dX1_rest_75 : decode cX1_rest 75 = .ok (.iload_n 3, 1) := by decide +kernel
theorem dX1_rest_76 : decode cX1_rest 76 = .ok (.aaload, 1) := by decide +kernel
theorem dX1_rest_77 : decode cX1_rest 77 = .ok (.iload 4, 2) := by decide +kernel
theorem dX1_rest_79 : decode cX1_rest 79 = .ok (.baload, 1) := by decide +kernel
theorem dX1_rest_80 : decode cX1_rest 80 = .ok (.bastore, 1) := by decide +kernel
theorem dX1_rest_81 : decode cX1_rest 81 = .ok (.aload_n 2, 1) := by decide +kernel
theorem dX1_rest_82 : decode cX1_rest 82 = .ok (.getfield 28, 3) := by decide +kernel
theorem dX1_rest_85 : decode cX1_rest 85 = .ok (.iload_n 3, 1) := by decide +kernel
theorem dX1_rest_86 : decode cX1_rest 86 = .ok (.aaload, 1) := by decide +kernel
theorem dX1_rest_87 : decode cX1_rest 87 = .ok (.iload 4, 2) := by decide +kernel
theorem dX1_rest_89 : decode cX1_rest 89 = .ok (.aload_n 0, 1) := by decide +kernel
theorem dX1_rest_90 : decode cX1_rest 90 = .ok (.getfield 28, 3) := by decide +kernel
theorem dX1_rest_93 : decode cX1_rest 93 = .ok (.iload_n 3, 1) := by decide +kernel
theorem dX1_rest_94 : decode cX1_rest 94 = .ok (.aaload, 1) := by decide +kernel
theorem dX1_rest_95 : decode cX1_rest 95 = .ok (.iload 4, 2) := by decide +kernel
theorem dX1_rest_97 : decode cX1_rest 97 = .ok (.baload, 1) := by decide +kernel
theorem dX1_rest_98 : decode cX1_rest 98 = .ok (.bastore, 1) := by decide +kernel
theorem dX1_rest_99 : decode cX1_rest 99 = .ok (.iinc 4 1, 3) := by decide +kernel
theorem dX1_rest_102 : decode cX1_rest 102 = .ok (.goto (-48), 3) := by decide +kernel
theorem dX1_rest_105 : decode cX1_rest 105 = .ok (.iinc 3 1, 3) := by decide +kernel
theorem dX1_rest_108 : decode cX1_rest 108 = .ok (.goto (-77), 3) := by decide +kernel
theorem dX1_rest_111 : decode cX1_rest 111 = .ok (.aload_n 2, 1) := by decide +kernel
theorem dX1_rest_112 : decode cX1_rest 112 = .ok (.aload_n 0, 1) := by decide +kernel
theorem dX1_rest_113 : decode cX1_rest 113 = .ok (.getfield 31, 3) := by decide +kernel
theorem dX1_rest_116 : decode cX1_rest 116 = .ok (.arraylength, 1) := by decide +kernel
theorem dX1_rest_117 : decode cX1_rest 117 = .ok (.iload_n 1, 1) := by decide +kernel
theorem dX1_rest_118 : decode cX1_rest 118 = .ok (.isub, 1) := by decide +kernel
theorem dX1_rest_119 : decode cX1_rest 119 = .ok (.newarray .int, 2) := by decide +kernel
theorem dX1_rest_121 : decode cX1_rest 121 = .ok (.putfield 31, 3) := by decide +kernel
theorem dX1_rest_124 : decode cX1_rest 124 = .ok (.iconst 0, 1) := by decide +kernel
theorem dX1_rest_125 : decode cX1_rest 125 = .ok (.istore_n 3, 1) := by decide +kernel
theorem dX1_rest_126 : decode cX1_rest 126 = .ok (.iload_n 3, 1) := by decide +kernel
theorem dX1_rest_127 : decode cX1_rest 127 = .ok (.aload_n 2, 1) := by decide +kernel
theorem dX1_rest_128 : decode cX1_rest 128 = .ok (.getfield 31, 3) := by decide +kernel
theorem dX1_rest_131 : decode cX1_rest 131 = .ok (.arraylength, 1) := by decide +kernel
theorem dX1_rest_132 : decode cX1_rest 132 = .ok (.if_icmp .ge 23, 3) := by decide +kernel
theorem dX1_rest_135 : decode cX1_rest 135 = .ok (.aload_n 2, 1) := by decide +kernel
theorem dX1_rest_136 : decode cX1_rest 136 = .ok (.getfield 31, 3) := by decide +kernel
theorem dX1_rest_139 : decode cX1_rest 139 = .ok (.iload_n 3, 1) := by decide +kernel
theorem dX1_rest_140 : decode cX1_rest 140 = .ok (.aload_n 0, 1) := by decide +kernel
theorem dX1_rest_141 : decode cX1_rest 141 = .ok (.getfield 31, 3) := by decide +kernel
theorem dX1_rest_144 : decode cX1_rest 144 = .ok (.iload_n 1, 1) := by decide +kernel
theorem dX1_rest_145 : decode cX1_rest 145 = .ok (.iload_n 3, 1) := by decide +kernel
theorem dX1_rest_146 : decode cX1_rest 146 = .ok (.iadd, 1) := by decide +kernel
theorem dX1_rest_147 : decode cX1_rest 147 = .ok (.iaload, 1) := by decide +kernel
theorem dX1_rest_148 : decode cX1_rest 148 = .ok (.iastore, 1) := by decide +kernel
theorem dX1_rest_149 : decode cX1_rest 149 = .ok (.iinc 3 1, 3) := by decide +kernel
theorem dX1_rest_152 : decode cX1_rest 152 = .ok (.goto (-26), 3) := by decide +kernel
theorem dX1_rest_155 : decode cX1_rest 155 = .ok (.aload_n 2, 1) := by decide +kernel
theorem dX1_rest_156 : decode cX1_rest 156 = .ok (.areturn, 1) := by decide +kernel
set_option maxRecDepth 20000 in
theorem ggX1_wording_X1_rest : GoodIn wsX1_wording wsX1_rest := goodIn_r _ [10, 11, 12, 9, 3, 13, 14, 4, 15, 5, 1, 2, 16, 17, 18, 19, 20, 21, 22, 23, 24, 25, 50, 51, 52, 53, 54, 55, 56, 57, 58, 59, 60] (by decide +kernel) (by decide +kernel)
set_option maxRecDepth 20000 in
theorem gX1_wording_X1_rest : GoodIn wsX1_wording (wsV RX1 67 RX1 yX1_rest wsX1_rest) := goodIn_app (goodIn_of _ (by decide +kernel)) ggX1_wording_X1_rest
set_option maxRecDepth 20000 in
theorem ggX1_wording_X1_cheapest : GoodIn wsX1_wording wsX1_cheapest := goodIn_r _ [29, 1, 30, 31, 32, 9, 33, 2, 3, 4, 34, 35, 36, 37, 5, 38, 39, 40, 41, 15, 42, 43, 44, 45, 13, 46, 47, 48, 49, 14, 50, 51, 52, 53, 54, 55, 56, 57, 58, 59, 60] (by decide +kernel) (by decide +kernel)
set_option maxRecDepth 20000 in
theorem gX1_wording_X1_cheapest : GoodIn wsX1_wording (wsV RX1 71 RX1 yX1_cheapest wsX1_cheapest) := goodIn_app (goodIn_of _ (by decide +kernel)) ggX1_wording_X1_cheapest
set_option maxRecDepth 20000 in
theorem ggX1_wording_X1_may : GoodIn wsX1_wording wsX1_may := goodIn_r _ [41, 15, 50, 51, 52, 53, 54, 55, 56, 57, 58, 59, 60] (by decide +kernel) (by decide +kernel)
set_option maxRecDepth 20000 in
theorem gX1_wording_X1_may : GoodIn wsX1_wording (wsV RX1 52 RX1 yX1_may wsX1_may) := goodIn_app (goodIn_of _ (by decide +kernel)) ggX1_wording_X1_may
set_option maxRecDepth 20000 in
theorem ggX1_wording_X1_counts : GoodIn wsX1_wording wsX1_counts := goodIn_r _ [45, 13, 50, 51, 52, 53, 54, 55, 56, 57, 58, 59, 60] (by decide +kernel) (by decide +kernel)
set_option maxRecDepth 20000 in
theorem gX1_wording_X1_counts : GoodIn wsX1_wording (wsV RX1 38 RX1 yX1_counts wsX1_counts) := goodIn_app (goodIn_of _ (by decide +kernel)) ggX1_wording_X1_counts
theorem dX1_wording_0 : decode cX1_wording 0 = .ok (.aload_n 0, 1) := by decide +kernel
theorem dX1_wording_1 : decode cX1_wording 1 = .ok (.getfield 31, 3) := by decide +kernel
theorem dX1_wording_4 : decode cX1_wording 4 = .ok (.arraylength, 1) := by decide +kernel
theorem dX1_wording_5 : decode cX1_wording 5 = .ok (.istore_n 1, 1) := by decide +kernel
theorem dX1_wording_6 : decode cX1_wording 6 = .ok (.iload_n 1, 1) := by decide +kernel
theorem dX1_wording_7 : decode cX1_wording 7 = .ok (.newarray .int, 2) := by decide +kernel
theorem dX1_wording_9 : decode cX1_wording 9 = .ok (.astore_n 2, 1) := by decide +kernel
theorem dX1_wording_10 : decode cX1_wording 10 = .ok (.iload_n 1, 1) := by decide +kernel
theorem dX1_wording_11 : decode cX1_wording 11 = .ok (.iconst 2, 1) := by decide +kernel
theorem dX1_wording_12 : decode cX1_wording 12 = .ok (.iadd, 1) := by decide +kernel
theorem dX1_wording_13 : decode cX1_wording 13 = .ok (.newarray .int, 2) := by decide +kernel
theorem dX1_wording_15 : decode cX1_wording 15 = .ok (.astore_n 3, 1) := by decide +kernel
theorem dX1_wording_16 : decode cX1_wording 16 = .ok (.iconst 0, 1) := by decide +kernel
theorem dX1_wording_17 : decode cX1_wording 17 = .ok (.istore 4, 2) := by decide +kernel
theorem dX1_wording_19 : decode cX1_wording 19 = .ok (.iload 4, 2) := by decide +kernel
theorem dX1_wording_21 : decode cX1_wording 21 = .ok (.iload_n 1, 1) := by decide +kernel
theorem dX1_wording_22 : decode cX1_wording 22 = .ok (.if_icmp .gt 32, 3) := by decide +kernel
theorem dX1_wording_25 : decode cX1_wording 25 = .ok (.aload_n 3, 1) := by decide +kernel
theorem dX1_wording_26 : decode cX1_wording 26 = .ok (.iload 4, 2) := by decide +kernel
theorem dX1_wording_28 : decode cX1_wording 28 = .ok (.iload 4, 2) := by decide +kernel
theorem dX1_wording_30 : decode cX1_wording 30 = .ok (.iload_n 1, 1) := by decide +kernel
theorem dX1_wording_31 : decode cX1_wording 31 = .ok (.if_icmp .ne 7, 3) := by decide +kernel
theorem dX1_wording_34 : decode cX1_wording 34 = .ok (.iconst 0, 1) := by decide +kernel
theorem dX1_wording_35 : decode cX1_wording 35 = .ok (.goto 12, 3) := by decide +kernel
theorem dX1_wording_38 : decode cX1_wording 38 = .ok (.aload_n 0, 1) := by decide +kernel
theorem dX1_wording_39 : decode cX1_wording 39 = .ok (.iload 4, 2) := by decide +kernel
theorem dX1_wording_41 : decode cX1_wording 41 = .ok (.invokevirtual 67, 3) := by decide +kernel
theorem dX1_wording_44 : decode cX1_wording 44 = .ok (.invokevirtual 71, 3) := by decide +kernel
theorem dX1_wording_47 : decode cX1_wording 47 = .ok (.iastore, 1) := by decide +kernel
theorem dX1_wording_48 : decode cX1_wording 48 = .ok (.iinc 4 1, 3) := by decide +kernel
theorem dX1_wording_51 : decode cX1_wording 51 = .ok (.goto (-32), 3) := by decide +kernel
theorem dX1_wording_54 : decode cX1_wording 54 = .ok (.iconst 0, 1) := by decide +kernel
theorem dX1_wording_55 : decode cX1_wording 55 = .ok (.istore 4, 2) := by decide +kernel
theorem dX1_wording_57 : decode cX1_wording 57 = .ok (.iload 4, 2) := by decide +kernel
theorem dX1_wording_59 : decode cX1_wording 59 = .ok (.iload_n 1, 1) := by decide +kernel
theorem dX1_wording_60 : decode cX1_wording 60 = .ok (.if_icmp .ge 231, 3) := by decide +kernel
theorem dX1_wording_63 : decode cX1_wording 63 = .ok (.iconst (-1), 1) := by decide +kernel
theorem dX1_wording_64 : decode cX1_wording 64 = .ok (.istore 5, 2) := by decide +kernel
theorem dX1_wording_66 : decode cX1_wording 66 = .ok (.aload_n 0, 1) := by decide +kernel
theorem dX1_wording_67 : decode cX1_wording 67 = .ok (.getfield 49, 3) := by decide +kernel
theorem dX1_wording_70 : decode cX1_wording 70 = .ok (.iconst 1, 1) := by decide +kernel
theorem dX1_wording_71 : decode cX1_wording 71 = .ok (.isub, 1) := by decide +kernel
theorem dX1_wording_72 : decode cX1_wording 72 = .ok (.istore 6, 2) := by decide +kernel
theorem dX1_wording_74 : decode cX1_wording 74 = .ok (.iload 6, 2) := by decide +kernel
theorem dX1_wording_76 : decode cX1_wording 76 = .ok (.ifCond .lt 54, 3) := by decide +kernel
theorem dX1_wording_79 : decode cX1_wording 79 = .ok (.aload_n 0, 1) := by decide +kernel
theorem dX1_wording_80 : decode cX1_wording 80 = .ok (.aload_n 0, 1) := by decide +kernel
theorem dX1_wording_81 : decode cX1_wording 81 = .ok (.getfield 31, 3) := by decide +kernel
theorem dX1_wording_84 : decode cX1_wording 84 = .ok (.iload 4, 2) := by decide +kernel
theorem dX1_wording_86 : decode cX1_wording 86 = .ok (.iaload, 1) := by decide +kernel
theorem dX1_wording_87 : decode cX1_wording 87 = .ok (.iload 6, 2) := by decide +kernel
theorem dX1_wording_89 : decode cX1_wording 89 = .ok (.invokevirtual 52, 3) := by decide +kernel
theorem dX1_wording_92 : decode cX1_wording 92 = .ok (.ifCond .eq 32, 3) := by decide +kernel
theorem dX1_wording_95 : decode cX1_wording 95 = .ok (.aload_n 0, 1) := by decide +kernel
theorem dX1_wording_96 : decode cX1_wording 96 = .ok (.aload_n 0, 1) := by decide +kernel
theorem dX1_wording_97 : decode cX1_wording 97 = .ok (.getfield 19, 3) := by decide +kernel
theorem dX1_wording_100 : decode cX1_wording 100 = .ok (.iload 6, 2) := by decide +kernel
theorem dX1_wording_102 : decode cX1_wording 102 = .ok (.iaload, 1) := by decide +kernel
theorem dX1_wording_103 : decode cX1_wording 103 = .ok (.invokevirtual 38, 3) := by decide +kernel
theorem dX1_wording_106 : decode cX1_wording 106 = .ok (.aload_n 3, 1) := by decide +kernel
theorem dX1_wording_107 : decode cX1_wording 107 = .ok (.iload 4, 2) := by decide +kernel
theorem dX1_wording_109 : decode cX1_wording 109 = .ok (.iconst 1, 1) := by decide +kernel
theorem dX1_wording_110 : decode cX1_wording 110 = .ok (.iadd, 1) := by decide +kernel
theorem dX1_wording_111 : decode cX1_wording 111 = .ok (.iaload, 1) := by decide +kernel
theorem dX1_wording_112 : decode cX1_wording 112 = .ok (.iadd, 1) := by decide +kernel
theorem dX1_wording_113 : decode cX1_wording 113 = .ok (.aload_n 3, 1) := by decide +kernel
theorem dX1_wording_114 : decode cX1_wording 114 = .ok (.iload 4, 2) := by decide +kernel
theorem dX1_wording_116 : decode cX1_wording 116 = .ok (.iaload, 1) := by decide +kernel
theorem dX1_wording_117 : decode cX1_wording 117 = .ok (.if_icmp .ne 7, 3) := by decide +kernel
theorem dX1_wording_120 : decode cX1_wording 120 = .ok (.iload 6, 2) := by decide +kernel
theorem dX1_wording_122 : decode cX1_wording 122 = .ok (.istore 5, 2) := by decide +kernel
theorem dX1_wording_124 : decode cX1_wording 124 = .ok (.iinc 6 (-1), 3) := by decide +kernel
theorem dX1_wording_127 : decode cX1_wording 127 = .ok (.goto (-53), 3) := by decide +kernel
theorem dX1_wording_130 : decode cX1_wording 130 = .ok (.iload 5, 2) := by decide +kernel
theorem dX1_wording_132 : decode cX1_wording 132 = .ok (.ifCond .lt 15, 3) := by decide +kernel
theorem dX1_wording_135 : decode cX1_wording 135 = .ok (.aload_n 2, 1) := by decide +kernel
theorem dX1_wording_136 : decode cX1_wording 136 = .ok (.iload 4, 2) := by decide +kernel
theorem dX1_wording_138 : decode cX1_wording 138 = .ok (.iload 5, 2) := by decide +kernel
theorem dX1_wording_140 : decode cX1_wording 140 = .ok (.iastore, 1) := by decide +kernel
theorem dX1_wording_141 : decode cX1_wording 141 = .ok (.iinc 4 1, 3) := by decide +kernel
theorem dX1_wording_144 : decode cX1_wording 144 = .ok (.goto (-87), 3) := by decide +kernel
theorem dX1_wording_147 : decode cX1_wording 147 = .ok (.aload_n 0, 1) := by decide +kernel
theorem dX1_wording_148 : decode cX1_wording 148 = .ok (.getfield 49, 3) := by decide +kernel
theorem dX1_wording_151 : decode cX1_wording 151 = .ok (.iconst 1, 1) := by decide +kernel
theorem dX1_wording_152 : decode cX1_wording 152 = .ok (.isub, 1) := by decide +kernel
theorem dX1_wording_153 : decode cX1_wording 153 = .ok (.istore 6, 2) := by decide +kernel
theorem dX1_wording_155 : decode cX1_wording 155 = .ok (.iload 6, 2) := by decide +kernel
theorem dX1_wording_157 : decode cX1_wording 157 = .ok (.ifCond .lt 128, 3) := by decide +kernel
theorem dX1_wording_160 : decode cX1_wording 160 = .ok (.aload_n 0, 1) := by decide +kernel
theorem dX1_wording_161 : decode cX1_wording 161 = .ok (.getfield 49, 3) := by decide +kernel
theorem dX1_wording_164 : decode cX1_wording 164 = .ok (.iconst 1, 1) := by decide +kernel
theorem dX1_wording_165 : decode cX1_wording 165 = .ok (.isub, 1) := by decide +kernel
theorem dX1_wording_166 : decode cX1_wording 166 = .ok (.istore 7, 2) := by decide +kernel
theorem dX1_wording_168 : decode cX1_wording 168 = .ok (.iload 7, 2) := by decide +kernel
theorem dX1_wording_170 : decode cX1_wording 170 = .ok (.ifCond .lt 109, 3) := by decide +kernel
theorem dX1_wording_173 : decode cX1_wording 173 = .ok (.aload_n 0, 1) := by decide +kernel
theorem dX1_wording_174 : decode cX1_wording 174 = .ok (.aload_n 0, 1) := by decide +kernel
theorem dX1_wording_175 : decode cX1_wording 175 = .ok (.getfield 31, 3) := by decide +kernel
theorem dX1_wording_178 : decode cX1_wording 178 = .ok (.iload 4, 2) := by decide +kernel
theorem dX1_wording_180 : decode cX1_wording 180 = .ok (.iaload, 1) := by decide +kernel
theorem dX1_wording_181 : decode cX1_wording 181 = .ok (.iload 6, 2) := by decide +kernel
theorem dX1_wording_183 : decode cX1_wording 183 = .ok (.invokevirtual 52, 3) := by decide +kernel
theorem dX1_wording_186 : decode cX1_wording 186 = .ok (.ifCond .eq 87, 3) := by decide +kernel
theorem dX1_wording_189 : decode cX1_wording 189 = .ok (.aload_n 0, 1) := by decide +kernel
theorem dX1_wording_190 : decode cX1_wording 190 = .ok (.aload_n 0, 1) := by decide +kernel
theorem dX1_wording_191 : decode cX1_wording 191 = .ok (.getfield 31, 3) := by decide +kernel
theorem dX1_wording_194 : decode cX1_wording 194 = .ok (.iload 4, 2) := by decide +kernel
theorem dX1_wording_196 : decode cX1_wording 196 = .ok (.iconst 1, 1) := by decide +kernel
theorem dX1_wording_197 : decode cX1_wording 197 = .ok (.iadd, 1) := by decide +kernel
theorem dX1_wording_198 : decode cX1_wording 198 = .ok (.iaload, 1) := by decide +kernel
theorem dX1_wording_199 : decode cX1_wording 199 = .ok (.iload 7, 2) := by decide +kernel
theorem dX1_wording_201 : decode cX1_wording 201 = .ok (.invokevirtual 52, 3) := by decide +kernel
theorem dX1_wording_204 : decode cX1_wording 204 = .ok (.ifCond .eq 69, 3) := by decide +kernel
theorem dX1_wording_207 : decode cX1_wording 207 = .ok (.aload_n 0, 1) := by decide +kernel
theorem dX1_wording_208 : decode cX1_wording 208 = .ok (.getfield 28, 3) := by decide +kernel
theorem dX1_wording_211 : decode cX1_wording 211 = .ok (.iload 6, 2) := by decide +kernel
theorem dX1_wording_213 : decode cX1_wording 213 = .ok (.aaload, 1) := by decide +kernel
theorem dX1_wording_214 : decode cX1_wording 214 = .ok (.iload 7, 2) := by decide +kernel
theorem dX1_wording_216 : decode cX1_wording 216 = .ok (.baload, 1) := by decide +kernel
theorem dX1_wording_217 : decode cX1_wording 217 = .ok (.ifCond .eq 56, 3) := by decide +kernel
theorem dX1_wording_220 : decode cX1_wording 220 = .ok (.aload_n 0, 1) := by decide +kernel
theorem dX1_wording_221 : decode cX1_wording 221 = .ok (.aload_n 0, 1) := by decide +kernel
theorem dX1_wording_222 : decode cX1_wording 222 = .ok (.getfield 19, 3) := by decide +kernel
theorem dX1_wording_225 : decode cX1_wording 225 = .ok (.iload 6, 2) := by decide +kernel
theorem dX1_wording_227 : decode cX1_wording 227 = .ok (.iaload, 1) := by decide +kernel
theorem dX1_wording_228 : decode cX1_wording 228 = .ok (.aload_n 0, 1) := by decide +kernel
theorem dX1_wording_229 : decode cX1_wording 229 = .ok (.getfield 19, 3) := by decide +kernel
theorem dX1_wording_232 : decode cX1_wording 232 = .ok (.iload 7, 2) := by decide +kernel
theorem dX1_wording_234 : decode cX1_wording 234 = .ok (.iaload, 1) := by decide +kernel
theorem dX1_wording_235 : decode cX1_wording 235 = .ok (.iadd, 1) := by decide +kernel
theorem dX1_wording_236 : decode cX1_wording 236 = .ok (.invokevirtual 38, 3) := by decide +kernel
theorem dX1_wording_239 : decode cX1_wording 239 = .ok (.aload_n 3, 1) := by decide +kernel
theorem dX1_wording_240 : decode cX1_wording 240 = .ok (.iload 4, 2) := by decide +kernel
theorem dX1_wording_242 : decode cX1_wording 242 = .ok (.iconst 2, 1) := by decide +kernel
theorem dX1_wording_243 : decode cX1_wording 243 = .ok (.iadd, 1) := by decide +kernel
theorem dX1_wording_244 : decode cX1_wording 244 = .ok (.iaload, 1) := by decide +kernel
theorem dX1_wording_245 : decode cX1_wording 245 = .ok (.iadd, 1) := by decide +kernel
theorem dX1_wording_246 : decode cX1_wording 246 = .ok (.aload_n 3, 1) := by decide +kernel
theorem dX1_wording_247 : decode cX1_wording 247 = .ok (.iload 4, 2) := by decide +kernel
theorem dX1_wording_249 : decode cX1_wording 249 = .ok (.iaload, 1) := by decide +kernel
theorem dX1_wording_250 : decode cX1_wording 250 = .ok (.if_icmp .eq 6, 3) := by decide +kernel
theorem dX1_wording_253 : decode cX1_wording 253 = .ok (.goto 20, 3) := by decide +kernel
theorem dX1_wording_256 : decode cX1_wording 256 = .ok (.aload_n 2, 1) := by decide +kernel
theorem dX1_wording_257 : decode cX1_wording 257 = .ok (.iload 4, 2) := by decide +kernel
theorem dX1_wording_259 : decode cX1_wording 259 = .ok (.bipush 100, 2) := by decide +kernel
theorem dX1_wording_261 : decode cX1_wording 261 = .ok (.iload 6, 2) := by decide +kernel
theorem dX1_wording_263 : decode cX1_wording 263 = .ok (.iadd, 1) := by decide +kernel
theorem dX1_wording_264 : decode cX1_wording 264 = .ok (.iastore, 1) := by decide +kernel
theorem dX1_wording_265 : decode cX1_wording 265 = .ok (.aload_n 2, 1) := by decide +kernel
theorem dX1_wording_266 : decode cX1_wording 266 = .ok (.iload 4, 2) := by decide +kernel
theorem dX1_wording_268 : decode cX1_wording 268 = .ok (.iconst 1, 1) := by decide +kernel
theorem dX1_wording_269 : decode cX1_wording 269 = .ok (.iadd, 1) := by decide +kernel
theorem dX1_wording_270 : decode cX1_wording 270 = .ok (.iload 7, 2) := by decide +kernel
theorem dX1_wording_272 : decode cX1_wording 272 = .ok (.iastore, 1) := by decide +kernel
theorem dX1_wording_273 : decode cX1_wording 273 = .ok (.iinc 7 (-1), 3) := by decide +kernel
theorem dX1_wording_276 : decode cX1_wording 276 = .ok (.goto (-108), 3) := by decide +kernel
theorem dX1_wording_279 : decode cX1_wording 279 = .ok (.iinc 6 (-1), 3) := by decide +kernel
theorem dX1_wording_282 : decode cX1_wording 282 = .ok (.goto (-127), 3) := by decide +kernel
theorem dX1_wording_285 : decode cX1_wording 285 = .ok (.iinc 4 2, 3) := by decide +kernel
theorem dX1_wording_288 : decode cX1_wording 288 = .ok (.goto (-231), 3) := by decide +kernel
theorem dX1_wording_291 : decode cX1_wording 291 = .ok (.aload_n 2, 1) := by decide +kernel
theorem dX1_wording_292 : decode cX1_wording 292 = .ok (.areturn, 1) := by decide +kernel
set_option maxRecDepth 20000 in
theorem ggX1_isSame_X0_words : GoodIn wsX1_isSame wsX0_words := goodIn_r _ [16, 17, 218, 219, 220, 221, 222, 223, 224, 225, 226, 227, 228, 229, 230, 231, 232, 233, 234, 235] (by decide +kernel) (by decide +kernel)
set_option maxRecDepth 20000 in
theorem gX1_isSame_X0_words : GoodIn wsX1_isSame (wsV RX1 75 RX0 yX0_words wsX0_words) := goodIn_app (goodIn_of _ (by decide +kernel)) ggX1_isSame_X0_words
set_option maxRecDepth 20000 in
theorem ggX1_isSame_X0_limit : GoodIn wsX1_isSame wsX0_limit := goodIn_r _ [21, 22, 218, 219, 220, 221, 222, 223, 224, 225, 226, 227, 228, 229, 230, 231, 232, 233, 234, 235] (by decide +kernel) (by decide +kernel)
set_option maxRecDepth 20000 in
theorem gX1_isSame_X0_limit : GoodIn wsX1_isSame (wsV RX1 79 RX0 yX0_limit wsX0_limit) := goodIn_app (goodIn_of _ (by decide +kernel)) ggX1_isSame_X0_limit
set_option maxRecDepth 20000 in
theorem ggX1_isSame_X0_leastCount : GoodIn wsX1_isSame wsX0_leastCount := goodIn_r _ [26, 27, 218, 219, 220, 221, 222, 223, 224, 225, 226, 227, 228, 229, 230, 231, 232, 233, 234, 235] (by decide +kernel) (by decide +kernel)
set_option maxRecDepth 20000 in
theorem gX1_isSame_X0_leastCount : GoodIn wsX1_isSame (wsV RX1 81 RX0 yX0_leastCount wsX0_leastCount) := goodIn_app (goodIn_of _ (by decide +kernel)) ggX1_isSame_X0_leastCount
set_option maxRecDepth 20000 in
theorem ggX1_isSame_X0_coins : GoodIn wsX1_isSame wsX0_coins := goodIn_r _ [31, 32, 218, 219, 220, 221, 222, 223, 224, 225, 226, 227, 228, 229, 230, 231, 232, 233, 234, 235] (by decide +kernel) (by decide +kernel)
set_option maxRecDepth 20000 in
theorem gX1_isSame_X0_coins : GoodIn wsX1_isSame (wsV RX1 84 RX0 yX0_coins wsX0_coins) := goodIn_app (goodIn_of _ (by decide +kernel)) ggX1_isSame_X0_coins
set_option maxRecDepth 20000 in
theorem ggX1_isSame_X0_length : GoodIn wsX1_isSame wsX0_length := goodIn_r _ [36, 37, 218, 219, 220, 221, 222, 223, 224, 225, 226, 227, 228, 229, 230, 231, 232, 233, 234, 235] (by decide +kernel) (by decide +kernel)
set_option maxRecDepth 20000 in
theorem gX1_isSame_X0_length : GoodIn wsX1_isSame (wsV RX1 86 RX0 yX0_length wsX0_length) := goodIn_app (goodIn_of _ (by decide +kernel)) ggX1_isSame_X0_length
set_option maxRecDepth 20000 in
theorem ggX1_isSame_X0_count : GoodIn wsX1_isSame wsX0_count := goodIn_r _ [41, 37, 42, 43, 44, 45, 46, 47, 15, 48, 49, 50, 51, 52, 22, 53, 54, 55, 56, 27, 57, 58, 59, 60, 218, 219, 220, 221, 222, 223, 224, 225, 226, 227, 228, 229, 230, 231, 232, 233, 234, 235] (by decide +kernel) (by decide +kernel)
set_option maxRecDepth 20000 in
theorem gX1_isSame_X0_count : GoodIn wsX1_isSame (wsV RX1 89 RX0 yX0_count wsX0_count) := goodIn_app (goodIn_of _ (by decide +kernel)) ggX1_isSame_X0_count
set_option maxRecDepth 20000 in
theorem ggX1_isSame_X1_count : GoodIn wsX1_isSame wsX1_count := goodIn_r _ [65, 1, 10, 66, 67, 68, 64, 69, 9, 70, 71, 72, 73, 3, 74, 75, 76, 77, 4, 207, 208, 209, 210, 211, 212, 213, 214, 215, 216, 217] (by decide +kernel) (by decide +kernel)
set_option maxRecDepth 20000 in
theorem gX1_isSame_X1_count : GoodIn wsX1_isSame (wsV RX1 92 RX1 yX1_count wsX1_count) := goodIn_app (goodIn_of _ (by decide +kernel)) ggX1_isSame_X1_count
set_option maxRecDepth 20000 in
theorem ggX1_isSame_X0_price : GoodIn wsX1_isSame wsX0_price := goodIn_r _ [81, 32, 82, 39, 40, 15, 41, 37, 42, 43, 44, 45, 46, 47, 48, 49, 50, 51, 52, 22, 53, 54, 55, 56, 27, 57, 58, 59, 60, 218, 219, 220, 221, 222, 223, 224, 225, 226, 227, 228, 229, 230, 231, 232, 233, 234, 235] (by decide +kernel) (by decide +kernel)
set_option maxRecDepth 20000 in
theorem gX1_isSame_X0_price : GoodIn wsX1_isSame (wsV RX1 93 RX0 yX0_price wsX0_price) := goodIn_app (goodIn_of _ (by decide +kernel)) ggX1_isSame_X0_price
set_option maxRecDepth 20000 in
theorem ggX1_isSame_X0_cheapestCount : GoodIn wsX1_isSame wsX0_cheapestCount := goodIn_r _ [86, 87, 88, 89, 90, 15, 91, 37, 92, 44, 93, 94, 95, 96, 97, 43, 17, 98, 99, 100, 101, 102, 103, 104, 105, 49, 50, 51, 52, 22, 106, 107, 108, 109, 110, 45, 46, 47, 48, 111, 112, 113, 114, 115, 116, 117, 59, 118, 53, 54, 55, 56, 27, 57, 58, 60, 218, 219, 220, 221, 222, 223, 224, 225, 226, 227, 228, 229, 230, 231, 232, 233, 234, 235] (by decide +kernel) (by decide +kernel)
set_option maxRecDepth 20000 in
theorem gX1_isSame_X0_cheapestCount : GoodIn wsX1_isSame (wsV RX1 96 RX0 yX0_cheapestCount wsX0_cheapestCount) := goodIn_app (goodIn_of _ (by decide +kernel)) ggX1_isSame_X0_cheapestCount
set_option maxRecDepth 20000 in
theorem ggX1_isSame_X1_cheapest : GoodIn wsX1_isSame wsX1_cheapest := goodIn_r _ [122, 1, 123, 124, 125, 64, 126, 127, 2, 9, 128, 117, 59, 118, 8, 129, 130, 131, 132, 133, 70, 71, 72, 73, 3, 74, 75, 76, 77, 4, 207, 208, 209, 210, 211, 212, 213, 214, 215, 216, 217] (by decide +kernel) (by decide +kernel)
set_option maxRecDepth 20000 in
theorem gX1_isSame_X1_cheapest : GoodIn wsX1_isSame (wsV RX1 71 RX1 yX1_cheapest wsX1_cheapest) := goodIn_app (goodIn_of _ (by decide +kernel)) ggX1_isSame_X1_cheapest
set_option maxRecDepth 20000 in
theorem ggX1_isSame_X0_sent : GoodIn wsX1_isSame wsX0_sent := goodIn_r _ [137, 138, 218, 219, 220, 221, 222, 223, 224, 225, 226, 227, 228, 229, 230, 231, 232, 233, 234, 235] (by decide +kernel) (by decide +kernel)
set_option maxRecDepth 20000 in
theorem gX1_isSame_X0_sent : GoodIn wsX1_isSame (wsV RX1 99 RX0 yX0_sent wsX0_sent) := goodIn_app (goodIn_of _ (by decide +kernel)) ggX1_isSame_X0_sent
set_option maxRecDepth 20000 in
theorem ggX1_isSame_X0_earned : GoodIn wsX1_isSame wsX0_earned := goodIn_r _ [142, 143, 218, 219, 220, 221, 222, 223, 224, 225, 226, 227, 228, 229, 230, 231, 232, 233, 234, 235] (by decide +kernel) (by decide +kernel)
set_option maxRecDepth 20000 in
theorem gX1_isSame_X0_earned : GoodIn wsX1_isSame (wsV RX1 104 RX0 yX0_earned wsX0_earned) := goodIn_app (goodIn_of _ (by decide +kernel)) ggX1_isSame_X0_earned
set_option maxRecDepth 20000 in
theorem ggX1_isSame_X0_saves : GoodIn wsX1_isSame wsX0_saves := goodIn_r _ [147, 32, 148, 79, 80, 15, 81, 82, 39, 40, 41, 37, 42, 43, 44, 45, 46, 47, 48, 49, 50, 51, 52, 22, 53, 54, 55, 56, 27, 57, 58, 59, 60, 149, 84, 85, 86, 87, 88, 89, 90, 91, 92, 93, 94, 95, 96, 97, 17, 98, 99, 100, 101, 102, 103, 104, 105, 106, 107, 108, 109, 110, 111, 112, 113, 114, 115, 116, 117, 118, 218, 219, 220, 221, 222, 223, 224, 225, 226, 227, 228, 229, 230, 231, 232, 233, 234, 235] (by decide +kernel) (by decide +kernel)
set_option maxRecDepth 20000 in
theorem gX1_isSame_X0_saves : GoodIn wsX1_isSame (wsV RX1 109 RX0 yX0_saves wsX0_saves) := goodIn_app (goodIn_of _ (by decide +kernel)) ggX1_isSame_X0_saves
set_option maxRecDepth 20000 in
theorem ggX1_isSame_X0_priceTo : GoodIn wsX1_isSame wsX0_priceTo := goodIn_ca (goodIn_r _ [153, 154, 155, 148, 79, 80, 15, 81, 32, 82, 39, 40, 41, 37, 42, 43, 44, 45, 46, 47, 48, 49, 50, 51, 52, 22, 53, 54, 55, 56, 27, 57, 58, 59, 60, 218, 219, 220, 221, 222, 223, 224, 225, 226, 227, 228, 229, 230, 231, 232, 233, 234, 235] (by decide +kernel) (by decide +kernel)) (goodIn_sub (fun _ h => List.mem_cons_of_mem _ (List.mem_append_right _ h)) (by decide +kernel))
set_option maxRecDepth 20000 in
theorem gX1_isSame_X0_priceTo : GoodIn wsX1_isSame (wsV RX1 112 RX0 yX0_priceTo wsX0_priceTo) := goodIn_app (goodIn_of _ (by decide +kernel)) ggX1_isSame_X0_priceTo
set_option maxRecDepth 20000 in
theorem ggX1_isSame_X1_may : GoodIn wsX1_isSame wsX1_may := goodIn_r _ [132, 133, 207, 208, 209, 210, 211, 212, 213, 214, 215, 216, 217] (by decide +kernel) (by decide +kernel)
set_option maxRecDepth 20000 in
theorem gX1_isSame_X1_may : GoodIn wsX1_isSame (wsV RX1 52 RX1 yX1_may wsX1_may) := goodIn_app (goodIn_of _ (by decide +kernel)) ggX1_isSame_X1_may
set_option maxRecDepth 20000 in
theorem ggX1_isSame_X0_mayStandFor : GoodIn wsX1_isSame wsX0_mayStandFor := goodIn_ca (goodIn_r _ [159, 102, 160, 161, 162, 15, 163, 154, 155, 17, 103, 104, 105, 218, 219, 220, 221, 222, 223, 224, 225, 226, 227, 228, 229, 230, 231, 232, 233, 234, 235] (by decide +kernel) (by decide +kernel)) (goodIn_sub (fun _ h => List.mem_cons_of_mem _ (List.mem_append_right _ h)) (by decide +kernel))
set_option maxRecDepth 20000 in
theorem gX1_isSame_X0_mayStandFor : GoodIn wsX1_isSame (wsV RX1 115 RX0 yX0_mayStandFor wsX0_mayStandFor) := goodIn_app (goodIn_of _ (by decide +kernel)) ggX1_isSame_X0_mayStandFor
set_option maxRecDepth 20000 in
theorem ggX1_isSame_X0_mayJoin : GoodIn wsX1_isSame wsX0_mayJoin := goodIn_ca (goodIn_r _ [167, 110, 160, 161, 162, 15, 163, 154, 155, 17, 103, 104, 105, 218, 219, 220, 221, 222, 223, 224, 225, 226, 227, 228, 229, 230, 231, 232, 233, 234, 235] (by decide +kernel) (by decide +kernel)) (goodIn_sub (fun _ h => List.mem_cons_of_mem _ (List.mem_append_right _ h)) (by decide +kernel))
set_option maxRecDepth 20000 in
theorem gX1_isSame_X0_mayJoin : GoodIn wsX1_isSame (wsV RX1 118 RX0 yX0_mayJoin wsX0_mayJoin) := goodIn_app (goodIn_of _ (by decide +kernel)) ggX1_isSame_X0_mayJoin
set_option maxRecDepth 20000 in
theorem ggX1_isSame_X0_lettersOf : GoodIn wsX1_isSame wsX0_lettersOf := goodIn_ca (goodIn_r _ [171, 44, 160, 161, 162, 15, 163, 154, 155, 17, 218, 219, 220, 221, 222, 223, 224, 225, 226, 227, 228, 229, 230, 231, 232, 233, 234, 235] (by decide +kernel) (by decide +kernel)) (goodIn_sub (fun _ h => List.mem_cons_of_mem _ (List.mem_append_right _ h)) (by decide +kernel))
set_option maxRecDepth 20000 in
theorem gX1_isSame_X0_lettersOf : GoodIn wsX1_isSame (wsV RX1 121 RX0 yX0_lettersOf wsX0_lettersOf) := goodIn_app (goodIn_of _ (by decide +kernel)) ggX1_isSame_X0_lettersOf
set_option maxRecDepth 20000 in
theorem ggX1_isSame_X0_countOf : GoodIn wsX1_isSame wsX0_countOf := goodIn_ca (goodIn_r _ [175, 44, 160, 161, 162, 15, 163, 154, 155, 17, 49, 50, 51, 52, 22, 218, 219, 220, 221, 222, 223, 224, 225, 226, 227, 228, 229, 230, 231, 232, 233, 234, 235] (by decide +kernel) (by decide +kernel)) (goodIn_sub (fun _ h => List.mem_cons_of_mem _ (List.mem_append_right _ h)) (by decide +kernel))
set_option maxRecDepth 20000 in
theorem gX1_isSame_X0_countOf : GoodIn wsX1_isSame (wsV RX1 124 RX0 yX0_countOf wsX0_countOf) := goodIn_app (goodIn_of _ (by decide +kernel)) ggX1_isSame_X0_countOf
set_option maxRecDepth 20000 in
theorem ggX1_isSame_X1_counts : GoodIn wsX1_isSame wsX1_counts := goodIn_r _ [73, 3, 207, 208, 209, 210, 211, 212, 213, 214, 215, 216, 217] (by decide +kernel) (by decide +kernel)
set_option maxRecDepth 20000 in
theorem gX1_isSame_X1_counts : GoodIn wsX1_isSame (wsV RX1 38 RX1 yX1_counts wsX1_counts) := goodIn_app (goodIn_of _ (by decide +kernel)) ggX1_isSame_X1_counts
set_option maxRecDepth 20000 in
theorem ggX1_isSame_X0_standInsOf : GoodIn wsX1_isSame wsX0_standInsOf := goodIn_ca (goodIn_r _ [179, 102, 160, 161, 162, 15, 163, 154, 155, 17, 180, 181, 182, 183, 184, 185, 186, 218, 219, 220, 221, 222, 223, 224, 225, 226, 227, 228, 229, 230, 231, 232, 233, 234, 235] (by decide +kernel) (by decide +kernel)) (goodIn_sub (fun _ h => List.mem_cons_of_mem _ (List.mem_append_right _ h)) (by decide +kernel))
set_option maxRecDepth 20000 in
theorem gX1_isSame_X0_standInsOf : GoodIn wsX1_isSame (wsV RX1 127 RX0 yX0_standInsOf wsX0_standInsOf) := goodIn_app (goodIn_of _ (by decide +kernel)) ggX1_isSame_X0_standInsOf
set_option maxRecDepth 20000 in
theorem ggX1_isSame_X0_wordAt : GoodIn wsX1_isSame wsX0_wordAt := goodIn_ca (goodIn_r _ [190, 43, 191, 192, 193, 15, 194, 154, 155, 37, 218, 219, 220, 221, 222, 223, 224, 225, 226, 227, 228, 229, 230, 231, 232, 233, 234, 235] (by decide +kernel) (by decide +kernel)) (goodIn_sub (fun _ h => List.mem_cons_of_mem _ (List.mem_append_right _ h)) (by decide +kernel))
set_option maxRecDepth 20000 in
theorem gX1_isSame_X0_wordAt : GoodIn wsX1_isSame (wsV RX1 130 RX0 yX0_wordAt wsX0_wordAt) := goodIn_app (goodIn_of _ (by decide +kernel)) ggX1_isSame_X0_wordAt
set_option maxRecDepth 20000 in
theorem ggX1_isSame_X0_isJoined : GoodIn wsX1_isSame wsX0_isJoined := goodIn_ca (goodIn_r _ [198, 42, 191, 192, 193, 15, 194, 154, 155, 37, 218, 219, 220, 221, 222, 223, 224, 225, 226, 227, 228, 229, 230, 231, 232, 233, 234, 235] (by decide +kernel) (by decide +kernel)) (goodIn_sub (fun _ h => List.mem_cons_of_mem _ (List.mem_append_right _ h)) (by decide +kernel))
set_option maxRecDepth 20000 in
theorem gX1_isSame_X0_isJoined : GoodIn wsX1_isSame (wsV RX1 133 RX0 yX0_isJoined wsX0_isJoined) := goodIn_app (goodIn_of _ (by decide +kernel)) ggX1_isSame_X0_isJoined
set_option maxRecDepth 20000 in
theorem ggX1_isSame_X0_wordings : GoodIn wsX1_isSame wsX0_wordings := goodIn_r _ [202, 37, 102, 43, 93, 116, 117, 59, 118, 180, 181, 182, 183, 184, 185, 186, 218, 219, 220, 221, 222, 223, 224, 225, 226, 227, 228, 229, 230, 231, 232, 233, 234, 235] (by decide +kernel) (by decide +kernel)
set_option maxRecDepth 20000 in
theorem gX1_isSame_X0_wordings : GoodIn wsX1_isSame (wsV RX1 139 RX0 yX0_wordings wsX0_wordings) := goodIn_app (goodIn_of _ (by decide +kernel)) ggX1_isSame_X0_wordings
set_option maxRecDepth 20000 in
theorem ggX1_isSame_X0_meanCost : GoodIn wsX1_isSame wsX0_meanCost := goodIn_r _ [206, 138, 143, 218, 219, 220, 221, 222, 223, 224, 225, 226, 227, 228, 229, 230, 231, 232, 233, 234, 235] (by decide +kernel) (by decide +kernel)
set_option maxRecDepth 20000 in
theorem gX1_isSame_X0_meanCost : GoodIn wsX1_isSame (wsV RX1 142 RX0 yX0_meanCost wsX0_meanCost) := goodIn_app (goodIn_of _ (by decide +kernel)) ggX1_isSame_X0_meanCost
theorem dX1_isSame_0 : decode cX1_isSame 0 = .ok (.aload_n 0, 1) := by decide +kernel
theorem dX1_isSame_1 : decode cX1_isSame 1 = .ok (.getfield 31, 3) := by decide +kernel
theorem dX1_isSame_4 : decode cX1_isSame 4 = .ok (.arraylength, 1) := by decide +kernel
theorem dX1_isSame_5 : decode cX1_isSame 5 = .ok (.istore_n 2, 1) := by decide +kernel
theorem dX1_isSame_6 : decode cX1_isSame 6 = .ok (.aload_n 1, 1) := by decide +kernel
theorem dX1_isSame_7 : decode cX1_isSame 7 = .ok (.invokevirtual 75, 3) := by decide +kernel
theorem dX1_isSame_10 : decode cX1_isSame 10 = .ok (.aload_n 0, 1) := by decide +kernel
theorem dX1_isSame_11 : decode cX1_isSame 11 = .ok (.getfield 49, 3) := by decide +kernel
theorem dX1_isSame_14 : decode cX1_isSame 14 = .ok (.if_icmp .ne 125, 3) := by decide +kernel
theorem dX1_isSame_17 : decode cX1_isSame 17 = .ok (.aload_n 1, 1) := by decide +kernel
theorem dX1_isSame_18 : decode cX1_isSame 18 = .ok (.invokevirtual 79, 3) := by decide +kernel
theorem dX1_isSame_21 : decode cX1_isSame 21 = .ok (.aload_n 0, 1) := by decide +kernel
theorem dX1_isSame_22 : decode cX1_isSame 22 = .ok (.getfield 7, 3) := by decide +kernel
theorem dX1_isSame_25 : decode cX1_isSame 25 = .ok (.if_icmp .ne 114, 3) := by decide +kernel
theorem dX1_isSame_28 : decode cX1_isSame 28 = .ok (.aload_n 1, 1) := by decide +kernel
theorem dX1_isSame_29 : decode cX1_isSame 29 = .ok (.invokevirtual 81, 3) := by decide +kernel
theorem dX1_isSame_32 : decode cX1_isSame 32 = .ok (.aload_n 0, 1) := by decide +kernel
theorem dX1_isSame_33 : decode cX1_isSame 33 = .ok (.getfield 13, 3) := by decide +kernel
theorem dX1_isSame_36 : decode cX1_isSame 36 = .ok (.if_icmp .ne 103, 3) := by decide +kernel
theorem dX1_isSame_39 : decode cX1_isSame 39 = .ok (.aload_n 1, 1) := by decide +kernel
theorem dX1_isSame_40 : decode cX1_isSame 40 = .ok (.invokevirtual 84, 3) := by decide +kernel
theorem dX1_isSame_43 : decode cX1_isSame 43 = .ok (.aload_n 0, 1) := by decide +kernel
theorem dX1_isSame_44 : decode cX1_isSame 44 = .ok (.getfield 16, 3) := by decide +kernel
theorem dX1_isSame_47 : decode cX1_isSame 47 = .ok (.if_icmp .ne 92, 3) := by decide +kernel
theorem dX1_isSame_50 : decode cX1_isSame 50 = .ok (.aload_n 1, 1) := by decide +kernel
theorem dX1_isSame_51 : decode cX1_isSame 51 = .ok (.invokevirtual 86, 3) := by decide +kernel
theorem dX1_isSame_54 : decode cX1_isSame 54 = .ok (.iload_n 2, 1) := by decide +kernel
theorem dX1_isSame_55 : decode cX1_isSame 55 = .ok (.if_icmp .ne 84, 3) := by decide +kernel
theorem dX1_isSame_58 : decode cX1_isSame 58 = .ok (.aload_n 1, 1) := by decide +kernel
theorem dX1_isSame_59 : decode cX1_isSame 59 = .ok (.invokevirtual 89, 3) := by decide +kernel
theorem dX1_isSame_62 : decode cX1_isSame 62 = .ok (.aload_n 0, 1) := by decide +kernel
theorem dX1_isSame_63 : decode cX1_isSame 63 = .ok (.invokevirtual 92, 3) := by decide +kernel
theorem dX1_isSame_66 : decode cX1_isSame 66 = .ok (.if_icmp .ne 73, 3) := by decide +kernel
theorem dX1_isSame_69 : decode cX1_isSame 69 = .ok (.aload_n 1, 1) := by decide +kernel
theorem dX1_isSame_70 : decode cX1_isSame 70 = .ok (.invokevirtual 93, 3) := by decide +kernel
theorem dX1_isSame_73 : decode cX1_isSame 73 = .ok (.aload_n 0, 1) := by decide +kernel
theorem dX1_isSame_74 : decode cX1_isSame 74 = .ok (.invokevirtual 92, 3) := by decide +kernel
theorem dX1_isSame_77 : decode cX1_isSame 77 = .ok (.aload_n 0, 1) := by decide +kernel
theorem dX1_isSame_78 : decode cX1_isSame 78 = .ok (.getfield 16, 3) := by decide +kernel
theorem dX1_isSame_81 : decode cX1_isSame 81 = .ok (.imul, 1) := by decide +kernel
theorem dX1_isSame_82 : decode cX1_isSame 82 = .ok (.if_icmp .ne 57, 3) := by decide +kernel
theorem dX1_isSame_85 : decode cX1_isSame 85 = .ok (.aload_n 1, 1) := by decide +kernel
theorem dX1_isSame_86 : decode cX1_isSame 86 = .ok (.invokevirtual 96, 3) := by decide +kernel
theorem dX1_isSame_89 : decode cX1_isSame 89 = .ok (.aload_n 0, 1) := by decide +kernel
theorem dX1_isSame_90 : decode cX1_isSame 90 = .ok (.invokevirtual 71, 3) := by decide +kernel
theorem dX1_isSame_93 : decode cX1_isSame 93 = .ok (.if_icmp .ne 46, 3) := by decide +kernel
theorem dX1_isSame_96 : decode cX1_isSame 96 = .ok (.aload_n 1, 1) := by decide +kernel
theorem dX1_isSame_97 : decode cX1_isSame 97 = .ok (.invokevirtual 99, 3) := by decide +kernel
theorem dX1_isSame_100 : decode cX1_isSame 100 = .ok (.aload_n 0, 1) := by decide +kernel
theorem dX1_isSame_101 : decode cX1_isSame 101 = .ok (.getfield 102, 3) := by decide +kernel
theorem dX1_isSame_104 : decode cX1_isSame 104 = .ok (.if_icmp .ne 35, 3) := by decide +kernel
theorem dX1_isSame_107 : decode cX1_isSame 107 = .ok (.aload_n 1, 1) := by decide +kernel
theorem dX1_isSame_108 : decode cX1_isSame 108 = .ok (.invokevirtual 104, 3) := by decide +kernel
theorem dX1_isSame_111 : decode cX1_isSame 111 = .ok (.aload_n 0, 1) := by decide +kernel
theorem dX1_isSame_112 : decode cX1_isSame 112 = .ok (.getfield 107, 3) := by decide +kernel
theorem dX1_isSame_115 : decode cX1_isSame 115 = .ok (.if_icmp .ne 24, 3) := by decide +kernel
theorem dX1_isSame_118 : decode cX1_isSame 118 = .ok (.aload_n 1, 1) := by decide +kernel
theorem dX1_isSame_119 : decode cX1_isSame 119 = .ok (.invokevirtual 109, 3) := by decide +kernel
theorem dX1_isSame_122 : decode cX1_isSame 122 = .ok (.aload_n 0, 1) := by decide +kernel
theorem dX1_isSame_123 : decode cX1_isSame 123 = .ok (.getfield 16, 3) := by decide +kernel
theorem dX1_isSame_126 : decode cX1_isSame 126 = .ok (.aload_n 0, 1) := by decide +kernel
theorem dX1_isSame_127 : decode cX1_isSame 127 = .ok (.invokevirtual 92, 3) := by decide +kernel
theorem dX1_isSame_130 : decode cX1_isSame 130 = .ok (.aload_n 0, 1) := by decide +kernel
theorem dX1_isSame_131 : decode cX1_isSame 131 = .ok (.invokevirtual 71, 3) := by decide +kernel
theorem dX1_isSame_134 : decode cX1_isSame 134 = .ok (.isub, 1) := by decide +kernel
theorem dX1_isSame_135 : decode cX1_isSame 135 = .ok (.imul, 1) := by decide +kernel
theorem dX1_isSame_136 : decode cX1_isSame 136 = .ok (.if_icmp .eq 5, 3) := by decide +kernel
theorem dX1_isSame_139 : decode cX1_isSame 139 = .ok (.iconst 0, 1) := by decide +kernel
theorem dX1_isSame_140 : decode cX1_isSame 140 = .ok (.ireturn, 1) := by decide +kernel
theorem dX1_isSame_141 : decode cX1_isSame 141 = .ok (.iconst 0, 1) := by decide +kernel
theorem dX1_isSame_142 : decode cX1_isSame 142 = .ok (.istore_n 3, 1) := by decide +kernel
theorem dX1_isSame_143 : decode cX1_isSame 143 = .ok (.iload_n 3, 1) := by decide +kernel
theorem dX1_isSame_144 : decode cX1_isSame 144 = .ok (.iconst 4, 1) := by decide +kernel
theorem dX1_isSame_145 : decode cX1_isSame 145 = .ok (.if_icmp .ge 34, 3) := by decide +kernel
theorem dX1_isSame_148 : decode cX1_isSame 148 = .ok (.aload_n 1, 1) := by decide +kernel
theorem dX1_isSame_149 : decode cX1_isSame 149 = .ok (.iload_n 3, 1) := by decide +kernel
theorem dX1_isSame_150 : decode cX1_isSame 150 = .ok (.invokevirtual 112, 3) := by decide +kernel
theorem dX1_isSame_153 : decode cX1_isSame 153 = .ok (.aload_n 0, 1) := by decide +kernel
theorem dX1_isSame_154 : decode cX1_isSame 154 = .ok (.invokevirtual 92, 3) := by decide +kernel
theorem dX1_isSame_157 : decode cX1_isSame 157 = .ok (.aload_n 0, 1) := by decide +kernel
theorem dX1_isSame_158 : decode cX1_isSame 158 = .ok (.getfield 16, 3) := by decide +kernel
theorem dX1_isSame_161 : decode cX1_isSame 161 = .ok (.imul, 1) := by decide +kernel
theorem dX1_isSame_162 : decode cX1_isSame 162 = .ok (.iload_n 3, 1) := by decide +kernel
theorem dX1_isSame_163 : decode cX1_isSame 163 = .ok (.iconst 2, 1) := by decide +kernel
theorem dX1_isSame_164 : decode cX1_isSame 164 = .ok (.iadd, 1) := by decide +kernel
theorem dX1_isSame_165 : decode cX1_isSame 165 = .ok (.imul, 1) := by decide +kernel
theorem dX1_isSame_166 : decode cX1_isSame 166 = .ok (.iconst 2, 1) := by decide +kernel
theorem dX1_isSame_167 : decode cX1_isSame 167 = .ok (.idiv, 1) := by decide +kernel
theorem dX1_isSame_168 : decode cX1_isSame 168 = .ok (.if_icmp .eq 5, 3) := by decide +kernel
theorem dX1_isSame_171 : decode cX1_isSame 171 = .ok (.iconst 0, 1) := by decide +kernel
theorem dX1_isSame_172 : decode cX1_isSame 172 = .ok (.ireturn, 1) := by decide +kernel
theorem dX1_isSame_173 : decode cX1_isSame 173 = .ok (.iinc 3 1, 3) := by decide +kernel
theorem dX1_isSame_176 : decode cX1_isSame 176 = .ok (.goto (-33), 3) := by decide +kernel
theorem dX1_isSame_179 : decode cX1_isSame 179 = .ok (.iconst 0, 1) := by decide +kernel
theorem dX1_isSame_180 : decode cX1_isSame 180 = .ok (.istore_n 3, 1) := by decide +kernel
theorem dX1_isSame_181 : decode cX1_isSame 181 = .ok (.iload_n 3, 1) := by decide +kernel
theorem dX1_isSame_182 : decode cX1_isSame 182 = .ok (.aload_n 0, 1) := by decide +kernel
theorem dX1_isSame_183 : decode cX1_isSame 183 = .ok (.getfield 49, 3) := by decide +kernel
theorem dX1_isSame_186 : decode cX1_isSame 186 = .ok (.if_icmp .ge 132, 3) := by decide +kernel
theorem dX1_isSame_189 : decode cX1_isSame 189 = .ok (.iconst 0, 1) := by decide +kernel
theorem dX1_isSame_190 : decode cX1_isSame 190 = .ok (.istore 4, 2) := by decide +kernel
theorem dX1_isSame_192 : decode cX1_isSame 192 = .ok (.iconst 0, 1) := by decide +kernel
theorem dX1_isSame_193 : decode cX1_isSame 193 = .ok (.istore 5, 2) := by decide +kernel
theorem dX1_isSame_195 : decode cX1_isSame 195 = .ok (.iload 5, 2) := by decide +kernel
theorem dX1_isSame_197 : decode cX1_isSame 197 = .ok (.aload_n 0, 1) := by decide +kernel
theorem dX1_isSame_198 : decode cX1_isSame 198 = .ok (.getfield 49, 3) := by decide +kernel
theorem dX1_isSame_201 : decode cX1_isSame 201 = .ok (.if_icmp .ge 67, 3) := by decide +kernel
theorem dX1_isSame_204 : decode cX1_isSame 204 = .ok (.iload 4, 2) := by decide +kernel
theorem dX1_isSame_206 : decode cX1_isSame 206 = .ok (.aload_n 0, 1) := by decide +kernel
theorem dX1_isSame_207 : decode cX1_isSame 207 = .ok (.iload_n 3, 1) := by decide +kernel
theorem dX1_isSame_208 : decode cX1_isSame 208 = .ok (.iload 5, 2) := by decide +kernel
theorem dX1_isSame_210 : decode cX1_isSame 210 = .ok (.invokevirtual 52, 3) := by decide +kernel
theorem dX1_isSame_213 : decode cX1_isSame 213 = .ok (.ifCond .eq 7, 3) := by decide +kernel
theorem dX1_isSame_216 : decode cX1_isSame 216 = .ok (.iconst 1, 1) := by decide +kernel
theorem dX1_isSame_217 : decode cX1_isSame 217 = .ok (.goto 4, 3) := by decide +kernel
theorem dX1_isSame_220 : decode cX1_isSame 220 = .ok (.iconst 0, 1) := by decide +kernel
theorem dX1_isSame_221 : decode cX1_isSame 221 = .ok (.iadd, 1) := by decide +kernel
theorem dX1_isSame_222 : decode cX1_isSame 222 = .ok (.istore 4, 2) := by decide +kernel
theorem dX1_isSame_224 : decode cX1_isSame 224 = .ok (.aload_n 1, 1) := by decide +kernel
theorem dX1_isSame_225 : decode cX1_isSame 225 = .ok (.iload_n 3, 1) := by decide +kernel
theorem dX1_isSame_226 : decode cX1_isSame 226 = .ok (.iload 5, 2) := by decide +kernel
theorem dX1_isSame_228 : decode cX1_isSame 228 = .ok (.invokevirtual 115, 3) := by decide +kernel
theorem dX1_isSame_231 : decode cX1_isSame 231 = .ok (.aload_n 0, 1) := by decide +kernel
theorem dX1_isSame_232 : decode cX1_isSame 232 = .ok (.iload_n 3, 1) := by decide +kernel
theorem dX1_isSame_233 : decode cX1_isSame 233 = .ok (.iload 5, 2) := by decide +kernel
theorem dX1_isSame_235 : decode cX1_isSame 235 = .ok (.invokevirtual 52, 3) := by decide +kernel
theorem dX1_isSame_238 : decode cX1_isSame 238 = .ok (.if_icmp .ne 22, 3) := by decide +kernel
theorem dX1_isSame_241 : decode cX1_isSame 241 = .ok (.aload_n 1, 1) := by decide +kernel
theorem dX1_isSame_242 : decode cX1_isSame 242 = .ok (.iload_n 3, 1) := by decide +kernel
theorem dX1_isSame_243 : decode cX1_isSame 243 = .ok (.iload 5, 2) := by decide +kernel
theorem dX1_isSame_245 : decode cX1_isSame 245 = .ok (.invokevirtual 118, 3) := by decide +kernel
theorem dX1_isSame_248 : decode cX1_isSame 248 = .ok (.aload_n 0, 1) := by decide +kernel
theorem dX1_isSame_249 : decode cX1_isSame 249 = .ok (.getfield 28, 3) := by decide +kernel
theorem dX1_isSame_252 : decode cX1_isSame 252 = .ok (.iload_n 3, 1) := by decide +kernel
theorem dX1_isSame_253 : decode cX1_isSame 253 = .ok (.aaload, 1) := by decide +kernel
theorem dX1_isSame_254 : decode cX1_isSame 254 = .ok (.iload 5, 2) := by decide +kernel
theorem dX1_isSame_256 : decode cX1_isSame 256 = .ok (.baload, 1) := by decide +kernel
theorem dX1_isSame_257 : decode cX1_isSame 257 = .ok (.if_icmp .eq 5, 3) := by decide +kernel
theorem dX1_isSame_260 : decode cX1_isSame 260 = .ok (.iconst 0, 1) := by decide +kernel
theorem dX1_isSame_261 : decode cX1_isSame 261 = .ok (.ireturn, 1) := by decide +kernel
theorem dX1_isSame_262 : decode cX1_isSame 262 = .ok (.iinc 5 1, 3) := by decide +kernel
theorem dX1_isSame_265 : decode cX1_isSame 265 = .ok (.goto (-70), 3) := by decide +kernel
theorem dX1_isSame_268 : decode cX1_isSame 268 = .ok (.aload_n 1, 1) := by decide +kernel
theorem dX1_isSame_269 : decode cX1_isSame 269 = .ok (.iload_n 3, 1) := by decide +kernel
theorem dX1_isSame_270 : decode cX1_isSame 270 = .ok (.invokevirtual 121, 3) := by decide +kernel
theorem dX1_isSame_273 : decode cX1_isSame 273 = .ok (.aload_n 0, 1) := by decide +kernel
theorem dX1_isSame_274 : decode cX1_isSame 274 = .ok (.getfield 19, 3) := by decide +kernel
theorem dX1_isSame_277 : decode cX1_isSame 277 = .ok (.iload_n 3, 1) := by decide +kernel
theorem dX1_isSame_278 : decode cX1_isSame 278 = .ok (.iaload, 1) := by decide +kernel
theorem dX1_isSame_279 : decode cX1_isSame 279 = .ok (.if_icmp .ne 31, 3) := by decide +kernel
theorem dX1_isSame_282 : decode cX1_isSame 282 = .ok (.aload_n 1, 1) := by decide +kernel
theorem dX1_isSame_283 : decode cX1_isSame 283 = .ok (.iload_n 3, 1) := by decide +kernel
theorem dX1_isSame_284 : decode cX1_isSame 284 = .ok (.invokevirtual 124, 3) := by decide +kernel
theorem dX1_isSame_287 : decode cX1_isSame 287 = .ok (.aload_n 0, 1) := by decide +kernel
theorem dX1_isSame_288 : decode cX1_isSame 288 = .ok (.aload_n 0, 1) := by decide +kernel
theorem dX1_isSame_289 : decode cX1_isSame 289 = .ok (.getfield 19, 3) := by decide +kernel
theorem dX1_isSame_292 : decode cX1_isSame 292 = .ok (.iload_n 3, 1) := by decide +kernel
theorem dX1_isSame_293 : decode cX1_isSame 293 = .ok (.iaload, 1) := by decide +kernel
theorem dX1_isSame_294 : decode cX1_isSame 294 = .ok (.invokevirtual 38, 3) := by decide +kernel
theorem dX1_isSame_297 : decode cX1_isSame 297 = .ok (.if_icmp .ne 13, 3) := by decide +kernel
theorem dX1_isSame_300 : decode cX1_isSame 300 = .ok (.aload_n 1, 1) := by decide +kernel
theorem dX1_isSame_301 : decode cX1_isSame 301 = .ok (.iload_n 3, 1) := by decide +kernel
theorem dX1_isSame_302 : decode cX1_isSame 302 = .ok (.invokevirtual 127, 3) := by decide +kernel
theorem dX1_isSame_305 : decode cX1_isSame 305 = .ok (.iload 4, 2) := by decide +kernel
theorem dX1_isSame_307 : decode cX1_isSame 307 = .ok (.if_icmp .eq 5, 3) := by decide +kernel
theorem dX1_isSame_310 : decode cX1_isSame 310 = .ok (.iconst 0, 1) := by decide +kernel
theorem dX1_isSame_311 : decode cX1_isSame 311 = .ok (.ireturn, 1) := by decide +kernel
theorem dX1_isSame_312 : decode cX1_isSame 312 = .ok (.iinc 3 1, 3) := by decide +kernel
theorem dX1_isSame_315 : decode cX1_isSame 315 = .ok (.goto (-134), 3) := by decide +kernel
theorem dX1_isSame_318 : decode cX1_isSame 318 = .ok (.lconst 1, 1) := by decide +kernel
theorem dX1_isSame_319 : decode cX1_isSame 319 = .ok (.lstore_n 3, 1) := by decide +kernel
theorem dX1_isSame_320 : decode cX1_isSame 320 = .ok (.iconst 0, 1) := by decide +kernel
theorem dX1_isSame_321 : decode cX1_isSame 321 = .ok (.istore 5, 2) := by decide +kernel
theorem dX1_isSame_323 : decode cX1_isSame 323 = .ok (.iload 5, 2) := by decide +kernel
theorem dX1_isSame_325 : decode cX1_isSame 325 = .ok (.iload_n 2, 1) := by decide +kernel
theorem dX1_isSame_326 : decode cX1_isSame 326 = .ok (.if_icmp .ge 70, 3) := by decide +kernel
theorem dX1_isSame_329 : decode cX1_isSame 329 = .ok (.aload_n 1, 1) := by decide +kernel
theorem dX1_isSame_330 : decode cX1_isSame 330 = .ok (.iload 5, 2) := by decide +kernel
theorem dX1_isSame_332 : decode cX1_isSame 332 = .ok (.invokevirtual 130, 3) := by decide +kernel
theorem dX1_isSame_335 : decode cX1_isSame 335 = .ok (.aload_n 0, 1) := by decide +kernel
theorem dX1_isSame_336 : decode cX1_isSame 336 = .ok (.getfield 31, 3) := by decide +kernel
theorem dX1_isSame_339 : decode cX1_isSame 339 = .ok (.iload 5, 2) := by decide +kernel
theorem dX1_isSame_341 : decode cX1_isSame 341 = .ok (.iaload, 1) := by decide +kernel
theorem dX1_isSame_342 : decode cX1_isSame 342 = .ok (.if_icmp .ne 19, 3) := by decide +kernel
theorem dX1_isSame_345 : decode cX1_isSame 345 = .ok (.aload_n 1, 1) := by decide +kernel
theorem dX1_isSame_346 : decode cX1_isSame 346 = .ok (.iload 5, 2) := by decide +kernel
theorem dX1_isSame_348 : decode cX1_isSame 348 = .ok (.invokevirtual 133, 3) := by decide +kernel
theorem dX1_isSame_351 : decode cX1_isSame 351 = .ok (.aload_n 0, 1) := by decide +kernel
theorem dX1_isSame_352 : decode cX1_isSame 352 = .ok (.getfield 34, 3) := by decide +kernel
theorem dX1_isSame_355 : decode cX1_isSame 355 = .ok (.iload 5, 2) := by decide +kernel
theorem dX1_isSame_357 : decode cX1_isSame 357 = .ok (.baload, 1) := by decide +kernel
theorem dX1_isSame_358 : decode cX1_isSame 358 = .ok (.if_icmp .eq 5, 3) := by decide +kernel
theorem dX1_isSame_361 : decode cX1_isSame 361 = .ok (.iconst 0, 1) := by decide +kernel
theorem dX1_isSame_362 : decode cX1_isSame 362 = .ok (.ireturn, 1) := by decide +kernel
theorem dX1_isSame_363 : decode cX1_isSame 363 = .ok (.lload_n 3, 1) := by decide +kernel
theorem dX1_isSame_364 : decode cX1_isSame 364 = .ok (.aload_n 1, 1) := by decide +kernel
theorem dX1_isSame_365 : decode cX1_isSame 365 = .ok (.aload_n 0, 1) := by decide +kernel
theorem dX1_isSame_366 : decode cX1_isSame 366 = .ok (.getfield 31, 3) := by decide +kernel
theorem dX1_isSame_369 : decode cX1_isSame 369 = .ok (.iload 5, 2) := by decide +kernel
theorem dX1_isSame_371 : decode cX1_isSame 371 = .ok (.iaload, 1) := by decide +kernel
theorem dX1_isSame_372 : decode cX1_isSame 372 = .ok (.invokevirtual 127, 3) := by decide +kernel
theorem dX1_isSame_375 : decode cX1_isSame 375 = .ok (.i2l, 1) := by decide +kernel
theorem dX1_isSame_376 : decode cX1_isSame 376 = .ok (.lmul, 1) := by decide +kernel
theorem dX1_isSame_377 : decode cX1_isSame 377 = .ok (.lstore_n 3, 1) := by decide +kernel
theorem dX1_isSame_378 : decode cX1_isSame 378 = .ok (.lload_n 3, 1) := by decide +kernel
theorem dX1_isSame_379 : decode cX1_isSame 379 = .ok (.ldc2_w 137, 3) := by decide +kernel
theorem dX1_isSame_382 : decode cX1_isSame 382 = .ok (.lcmp, 1) := by decide +kernel
theorem dX1_isSame_383 : decode cX1_isSame 383 = .ok (.ifCond .le 7, 3) := by decide +kernel
theorem dX1_isSame_386 : decode cX1_isSame 386 = .ok (.ldc2_w 137, 3) := by decide +kernel
theorem dX1_isSame_389 : decode cX1_isSame 389 = .ok (.lstore_n 3, 1) := by decide +kernel
theorem dX1_isSame_390 : decode cX1_isSame 390 = .ok (.iinc 5 1, 3) := by decide +kernel
theorem dX1_isSame_393 : decode cX1_isSame 393 = .ok (.goto (-70), 3) := by decide +kernel
theorem dX1_isSame_396 : decode cX1_isSame 396 = .ok (.aload_n 1, 1) := by decide +kernel
theorem dX1_isSame_397 : decode cX1_isSame 397 = .ok (.invokevirtual 139, 3) := by decide +kernel
theorem dX1_isSame_400 : decode cX1_isSame 400 = .ok (.i2l, 1) := by decide +kernel
theorem dX1_isSame_401 : decode cX1_isSame 401 = .ok (.lload_n 3, 1) := by decide +kernel
theorem dX1_isSame_402 : decode cX1_isSame 402 = .ok (.lcmp, 1) := by decide +kernel
theorem dX1_isSame_403 : decode cX1_isSame 403 = .ok (.ifCond .ne 37, 3) := by decide +kernel
theorem dX1_isSame_406 : decode cX1_isSame 406 = .ok (.aload_n 1, 1) := by decide +kernel
theorem dX1_isSame_407 : decode cX1_isSame 407 = .ok (.invokevirtual 142, 3) := by decide +kernel
theorem dX1_isSame_410 : decode cX1_isSame 410 = .ok (.aload_n 0, 1) := by decide +kernel
theorem dX1_isSame_411 : decode cX1_isSame 411 = .ok (.getfield 102, 3) := by decide +kernel
theorem dX1_isSame_414 : decode cX1_isSame 414 = .ok (.ifCond .ne 7, 3) := by decide +kernel
theorem dX1_isSame_417 : decode cX1_isSame 417 = .ok (.dconst 0, 1) := by decide +kernel
theorem dX1_isSame_418 : decode cX1_isSame 418 = .ok (.goto 14, 3) := by decide +kernel
theorem dX1_isSame_421 : decode cX1_isSame 421 = .ok (.aload_n 0, 1) := by decide +kernel
theorem dX1_isSame_422 : decode cX1_isSame 422 = .ok (.getfield 107, 3) := by decide +kernel
theorem dX1_isSame_425 : decode cX1_isSame 425 = .ok (.i2d, 1) := by decide +kernel
theorem dX1_isSame_426 : decode cX1_isSame 426 = .ok (.aload_n 0, 1) := by decide +kernel
theorem dX1_isSame_427 : decode cX1_isSame 427 = .ok (.getfield 102, 3) := by decide +kernel
theorem dX1_isSame_430 : decode cX1_isSame 430 = .ok (.i2d, 1) := by decide +kernel
theorem dX1_isSame_431 : decode cX1_isSame 431 = .ok (.ddiv, 1) := by decide +kernel
theorem dX1_isSame_432 : decode cX1_isSame 432 = .ok (.dcmp .l, 1) := by decide +kernel
theorem dX1_isSame_433 : decode cX1_isSame 433 = .ok (.ifCond .ne 7, 3) := by decide +kernel
theorem dX1_isSame_436 : decode cX1_isSame 436 = .ok (.iconst 1, 1) := by decide +kernel
theorem dX1_isSame_437 : decode cX1_isSame 437 = .ok (.goto 4, 3) := by decide +kernel
theorem dX1_isSame_440 : decode cX1_isSame 440 = .ok (.iconst 0, 1) := by decide +kernel
theorem dX1_isSame_441 : decode cX1_isSame 441 = .ok (.ireturn, 1) := by decide +kernel
end
section
/-! THE CLASS'S WORLD: its object and arrays, and other cells behind them; the context of a walk as one tuple E; the kit's rows over them. σ: the object's numbers by slot, τ: the arrays by slot (o: nothing, kept from the text that this part began with); ad 100: the object. -/
abbrev gS : Type := Nat → Int32
abbrev gT : Type := Nat → Nat → Int32
abbrev gO : Type := Nat → Int64
/-- D, addresses, class of int[], boolean[], boolean[][], other cells -/
abbrev gG : Type := va_G × (Nat → Nat) × Nat × Nat × Nat × va_W
def z0 : gS := fun _ => 0
def zT : gT := fun _ _ => 0
def zO : gO := fun _ => 0
/-- an array's entry put anew -/
def uT (τ : gT) (c i : Nat) (x : Int32) : gT := fun a => if a = c then upd (τ a) i x else τ a
/-- an array put anew -/
def uA1 (τ : gT) (c : Nat) (f : Nat → Int32) : gT := fun a => if a = c then f else τ a
def uS (σ : gS) (c : Nat) (x : Int32) : gS := fun a => if a = c then x else σ a
def wW (Γ : gG) (σ : gS) (τ : gT) (o : gO) : va_W := [(Γ.2.1 100, .inr (0, [.ref (Γ.2.1 0), .ref (Γ.2.1 1), .ref (Γ.2.1 2), .int (σ 3), .int (σ 4), .int (σ 5), .int (σ 6), .ref (Γ.2.1 7), .ref (Γ.2.1 8), .int (σ 9), .int (σ 10), .int (σ 11), .ref (Γ.2.1 12), .ref (Γ.2.1 13), .ref (Γ.2.1 14), .ref (Γ.2.1 15), .ref (Γ.2.1 16), .ref (Γ.2.1 17)])), (Γ.2.1 0, .inl (Γ.2.2.1, 12, .inl (τ 0))), (Γ.2.1 1, .inl (Γ.2.2.1, 12, .inl (τ 1))), (Γ.2.1 2, .inl (Γ.2.2.1, 12, .inl (τ 2))), (Γ.2.1 7, .inl (Γ.2.2.1, 16, .inl (τ 7))), (Γ.2.1 8, .inl (Γ.2.2.2.1, 16, .inl (τ 8))), (Γ.2.1 12, .inl (Γ.2.2.1, 16, .inl (τ 12))), (Γ.2.1 13, .inl (Γ.2.2.1, 16, .inl (τ 13))), (Γ.2.1 14, .inl (Γ.2.2.1, 16, .inl (τ 14))), (Γ.2.1 15, .inl (Γ.2.2.1, 18, .inl (τ 15))), (Γ.2.1 16, .inl (Γ.2.2.1, 16, .inl (τ 16))), (Γ.2.1 17, .inl (Γ.2.2.2.1, 16, .inl (τ 17)))] ++ Γ.2.2.2.2.2
/-- the place of an array in the world, its length -/
def gAp : Nat → Nat
  | 0 => 1
  | 1 => 2
  | 2 => 3
  | 7 => 4
  | 8 => 5
  | 12 => 6
  | 13 => 7
  | 14 => 8
  | 15 => 9
  | 16 => 10
  | 17 => 11
  | _ => 99
def gAl : Nat → Nat
  | 0 => 12
  | 1 => 12
  | 2 => 12
  | 7 => 16
  | 8 => 16
  | 12 => 16
  | 13 => 16
  | 14 => 16
  | 15 => 18
  | 16 => 16
  | 17 => 16
  | _ => 0
abbrev gTy (Γ : gG) : List (ClassId × FieldType) := [(Γ.2.2.1, .int), (Γ.2.2.2.1, .boolean), (Γ.2.2.2.2.1, .array .boolean)]
def BW (Γ : gG) (σ : gS) (τ : gT) (o : gO) (t : State) : Prop := va_P Γ.1 vwCl (wW Γ σ τ o) t.heap ∧ va_K Γ.1 vwCl (gTy Γ) t
/-- what a method may change: the world, and what is new -/
def uAd (Γ : gG) (sz : Nat) : Nat → Prop := va_A (wW Γ z0 zT zO) sz
theorem uD_map {A : Nat → Prop} {w1 w2 : va_W} (h : va_D A w1) (e : w1.map Prod.fst = w2.map Prod.fst) : va_D A w2 := by
  have key : ∀ (k : Nat) (q : Nat × va_E), w2[k]? = some q → ∃ q0, w1[k]? = some q0 ∧ q0.1 = q.1 := by
    intro k q hk
    have h1 : (w2.map Prod.fst)[k]? = some q.1 := by rw [List.getElem?_map, hk]; rfl
    rw [← e, List.getElem?_map] at h1
    cases h2 : w1[k]? with
    | none => rw [h2] at h1; cases h1
    | some q0 => rw [h2] at h1; exact ⟨q0, rfl, Option.some.inj h1⟩
  refine ⟨fun i j p q hi hj hpq => ?_, fun k q hk => ?_⟩
  · obtain ⟨p0, h1, h2⟩ := key i p hi
    obtain ⟨q0, h3, h4⟩ := key j q hj
    exact h.1 i j p0 q0 h1 h3 (h2.trans (hpq.trans h4.symm))
  · obtain ⟨q0, h1, h2⟩ := key k q hk
    rw [← h2]
    exact h.2 k q0 h1
theorem uD_any {A : Nat → Prop} {Γ : gG} {σ σ' : gS} {τ τ' : gT} {o o' : gO} (h : va_D A (wW Γ σ τ o)) : va_D A (wW Γ σ' τ' o') := uD_map h rfl
theorem uA_any {Γ : gG} {σ σ' : gS} {τ τ' : gT} {o o' : gO} {sz q : Nat} (h : va_A (wW Γ σ τ o) sz q) : va_A (wW Γ σ' τ' o') sz q := by
  rcases h with ⟨k, e, h⟩ | h
  · have h1 : ((wW Γ σ τ o).map Prod.fst)[k]? = some q := by rw [List.getElem?_map, h]; rfl
    have h2 : (wW Γ σ τ o).map Prod.fst = (wW Γ σ' τ' o').map Prod.fst := rfl
    rw [h2, List.getElem?_map] at h1
    cases h3 : (wW Γ σ' τ' o')[k]? with
    | none => rw [h3] at h1; cases h1
    | some q0 =>
      rw [h3] at h1
      obtain ⟨q1, e1⟩ := q0
      cases h1
      exact Or.inl ⟨k, e1, h3⟩
  · exact Or.inr h
/-- the class's String constants -/
abbrev gK : List (Nat × String) := [(171, "there is no such word"), (68, "a word has 1 to 30 letters"), (75, "there are 12 words"), (82, "a word stands for itself anyway"), (88, "the limit is 3 to 15 letters"), (90, "the least count is 0 to 20"), (92, "the coins for each are 1 to 50"), (94, "the telegram has 16 words"), (173, "there is no such place"), (103, "these places may not be joined"), (135, "the zones are 0 to 3"), (116, "the telegram has no word")]
/-- what is thrown, and whose constructors the chain of supers declares -/
abbrev gXc : List String := ["java/lang/IndexOutOfBoundsException", "java/lang/IllegalArgumentException", "java/lang/IllegalStateException"]
abbrev gDc : List MethodName := [Bundle.initS "java/lang/RuntimeException", Bundle.initS "java/lang/Exception", Bundle.initS Bundle.tN]
/-- what a throw asks of the start: two statics of Throwable outside the world, the String constants -/
def uZ (A : Nat → Prop) (U : State) (H : Heap) : Prop := vx_Zq Bundle.tN "UNASSIGNED_STACK" Bundle.steD A U H ∧ vx_Zq Bundle.tN "SUPPRESSED_SENTINEL" Bundle.listD A U H ∧ (∀ q ∈ gK, ∃ sa, vk_R RX0 q.1 q.2 sa U) ∧ (∀ X ∈ gXc, va_Nw (.castable X X) U) ∧ ∀ x ∈ gDc, va_Nw (.declares x) U
/-- the context: program, launch, env, room, start, method, arguments, frames below, method, code, Γ, A, Q -/
abbrev gE : Type := Program × Launch × Env × Room × State × MethodId × Array Value × List Frame × Method × Code × gG × (Nat → Prop) × (State → Prop)
abbrev eP (E : gE) : Program := E.1
abbrev eL (E : gE) : Launch := E.2.1
abbrev eE (E : gE) : Env := E.2.2.1
abbrev eR (E : gE) : Room := E.2.2.2.1
abbrev eS (E : gE) : State := E.2.2.2.2.1
abbrev eM (E : gE) : MethodId := E.2.2.2.2.2.1
abbrev eV (E : gE) : Array Value := E.2.2.2.2.2.2.1
abbrev eB (E : gE) : List Frame := E.2.2.2.2.2.2.2.1
abbrev eMt (E : gE) : Method := E.2.2.2.2.2.2.2.2.1
abbrev eC (E : gE) : Code := E.2.2.2.2.2.2.2.2.2.1
abbrev eG (E : gE) : gG := E.2.2.2.2.2.2.2.2.2.2.1
abbrev eA (E : gE) : Nat → Prop := E.2.2.2.2.2.2.2.2.2.2.2.1
abbrev eQ (E : gE) : State → Prop := E.2.2.2.2.2.2.2.2.2.2.2.2
def G (E : gE) (k n pc : Nat) (lv : List (Nat × Value)) (st : List Value) (σ : gS) (τ : gT) (o : gO) : Prop :=
  ∀ (H : Heap) (locs : List Loc) (ls : Array Slot), va_P (eG E).1 vwCl (wW (eG E) σ τ o) H → va_S (eA E) (eS E).heap H locs → lv_has ls (eC E).maxLocals lv →
    W (eP E) (eL E) (eE E) (eR E) (eS E) (eM E) (eV E) (eB E) (eMt E) (eC E) H locs k n (eQ E) (F0 (eM E) pc ls st)
/-- an exception of class X flies here -/
def GX (E : gE) (k n pc : Nat) (lv : List (Nat × Value)) (st : List Value) (σ : gS) (τ : gT) (o : gO) (X : String) : Prop :=
  ∀ (H : Heap) (locs : List Loc) (ls : Array Slot) (q : Addr) (ce : Cell), va_P (eG E).1 vwCl (wW (eG E) σ τ o) H → va_S (eA E) (eS E).heap H locs → lv_has ls (eC E).maxLocals lv → H[q]? = some ce → ce.vm = .none → (eS E).vm.findClass X = some ce.cls →
    vx_W (eP E) (eL E) (eE E) (eR E) (eS E) (eM E) (eV E) (eB E) (eMt E) (eC E) H locs k n (eQ E) (F0 (eM E) pc ls st) q
/-- what stands all along a method -/
def gC (E : gE) (cc : ByteArray) (nL : Nat) (own : String) (ws : List Cond) : Prop :=
  (eP E).tables.exec = Jvm.exec ∧ (eC E).code = cc ∧ (eC E).maxLocals = nL ∧ (eS E).vm.findClass own = some (eM E).cls ∧ (∀ w ∈ ws, w.before (eV E) (eS E) = true) ∧
  va_K (eG E).1 vwCl (gTy (eG E)) (eS E) ∧ (∀ q : Nat, (eS E).heap.size ≤ q → eA E q) ∧ va_D (eA E) (wW (eG E) z0 zT zO) ∧ uZ (eA E) (eS E) (eS E).heap ∧ (eL E).stackTraces = false
abbrev gPost : Type := Option Value → gS → gT → gO → Prop
abbrev gPX : Type := String → gS → gT → gO → Prop
def uQ (Γ : gG) (A : Nat → Prop) (post : gPost) : Array Value → State → Outcome → State → Prop := fun _ st oc t => (∃ (v : Option Value) (σ : gS) (τ : gT) (o : gO), oc = .returned v ∧ post v σ τ o ∧ BW Γ σ τ o t) ∧ va_F A st t
def uX (Γ : gG) (A : Nat → Prop) (px : gPX) : String → State → State → Prop := fun X st t => (∃ (σ : gS) (τ : gT) (o : gO), px X σ τ o ∧ BW Γ σ τ o t) ∧ va_F A st t
def noX : gPX := fun _ _ _ _ => False
/-- the end of a method: what it owes -/
def gF (E : gE) (post : gPost) (px : gPX) (mc ms : Nat) (ret : Option FieldType) : Prop :=
  eQ E = vx_MQ (eB E) (uQ (eG E) (eA E) post) (uX (eG E) (eA E) px) (eV E) (eS E) mc ms (eA E) ∧ (eMt E).locks = false ∧ (eMt E).sig.returnType = ret
def pI (P : Int32 → gS → gT → gO → Prop) : gPost := fun v σ τ o => ∃ r, v = some (.int r) ∧ P r σ τ o
def pJ (P : Int64 → gS → gT → gO → Prop) : gPost := fun v σ τ o => ∃ r, v = some (.long r) ∧ P r σ τ o
def pD (P : UInt64 → gS → gT → gO → Prop) : gPost := fun v σ τ o => ∃ r, v = some (.double r) ∧ P r σ τ o
def pV (P : gS → gT → gO → Prop) : gPost := fun v σ τ o => v = none ∧ P σ τ o
def uP (Γ : gG) (sz : Nat) (σ : gS) (τ : gT) (o : gO) (U : State) : Prop := U.heap.size = sz ∧ BW Γ σ τ o U ∧ va_D (fun _ => True) (wW Γ z0 zT zO) ∧ uZ (uAd Γ sz) U U.heap
/-- a method's contract: from the world σ τ o, with the arguments As, it returns as post says, or throws as px says -/
def Ct (l : Launch) (y : MethodName) (ws : List Cond) (fr lo mc ms : Nat) (As : List Value) (Γ : gG) (σ : gS) (τ : gT) (o : gO) (post : gPost) (px : gPX) : Prop :=
  ∀ sz : Nat, vx_Met l y ws { frames := fr, cells := mc, slots := ms, locals := lo } (va_Pc As (uP Γ sz σ τ o)) (uQ Γ (uAd Γ sz) post) (uX Γ (uAd Γ sz) px) mc ms (uAd Γ sz)
/-- a local by its number -/
def lvg : List (Nat × Value) → Nat → Option Value
  | [], _ => none
  | (j, v) :: l, i => bif Nat.beq j i then some v else lvg l i
theorem lvg_at {ls : Array Slot} {nL : Nat} : ∀ {lv : List (Nat × Value)} {i : Nat} {v : Value}, lv_has ls nL lv → lvg lv i = some v → ls[i]? = some (.val v)
  | [], _, _, _, h => by cases h
  | (j, u) :: l, i, v, hl, h => by
    cases hb : Nat.beq j i with
    | true =>
      have e : j = i := Nat.eq_of_beq_eq_true hb
      subst e
      simp only [lvg, hb, cond_true] at h
      cases h
      exact hl.2.2 (j, _) List.mem_cons_self
    | false =>
      simp only [lvg, hb, cond_false] at h
      exact lvg_at ⟨hl.1, hl.2.1, fun q hq => hl.2.2 q (List.mem_cons_of_mem _ hq)⟩ h
theorem lvg_mem : ∀ {lv : List (Nat × Value)} {i : Nat} {v : Value}, lvg lv i = some v → (i, v) ∈ lv
  | [], _, _, h => by cases h
  | (j, u) :: l, i, v, h => by
    cases hb : Nat.beq j i with
    | true =>
      have e : j = i := Nat.eq_of_beq_eq_true hb
      subst e
      simp only [lvg, hb, cond_true] at h
      cases h
      exact List.mem_cons_self
    | false =>
      simp only [lvg, hb, cond_false] at h
      exact List.mem_cons_of_mem _ (lvg_mem h)
section GR
variable {E : gE} {cc : ByteArray} {nL : Nat} {own : String} {ws : List Cond} {k n pc : Nat} {lv : List (Nat × Value)} {st : List Value} {σ : gS} {τ : gT} {o : gO}
theorem g_iconst (C : gC E cc nL own ws) {m : Int} {v : Int32} (d : decode cc pc = .ok (.iconst m, 1)) (hv : Int32.ofInt m = v) (kk : G E k n (pc + 1) lv (.int v :: st) σ τ o) : G E k n pc lv (st) σ τ o := fun H locs ls hP hS hl => lv_iconst C.1 C.2.1 d hv (kk H locs ls hP hS hl)
theorem g_bipush (C : gC E cc nL own ws) {m : Int} {v : Int32} (d : decode cc pc = .ok (.bipush m, 2)) (hv : (Int8.ofInt m).toInt32 = v) (kk : G E k n (pc + 2) lv (.int v :: st) σ τ o) : G E k n pc lv (st) σ τ o := fun H locs ls hP hS hl => lv_bipush C.1 C.2.1 d hv (kk H locs ls hP hS hl)
theorem g_lconst (C : gC E cc nL own ws) {m : Fin 2} {v : Int64} (d : decode cc pc = .ok (.lconst m, 1)) (hv : Int64.ofNat (m : Nat) = v) (kk : G E k n (pc + 1) lv (.long v :: st) σ τ o) : G E k n pc lv (st) σ τ o := fun H locs ls hP hS hl => lv_lconst C.1 C.2.1 d hv (kk H locs ls hP hS hl)
theorem g_dconst0 (C : gC E cc nL own ws)  (d : decode cc pc = .ok (.dconst 0, 1)) (kk : G E k n (pc + 1) lv (.double FP.dconst0 :: st) σ τ o) : G E k n pc lv (st) σ τ o := fun H locs ls hP hS hl => lv_dconst0 C.1 C.2.1 d (kk H locs ls hP hS hl)
theorem g_ldc (C : gC E cc nL own ws) {idx : Nat} {v : Int32} (d : decode cc pc = .ok (.ldc idx, 2)) (hw : Cond.constant own idx v ∈ ws) (kk : G E k n (pc + 2) lv (.int v :: st) σ τ o) : G E k n pc lv (st) σ τ o := fun H locs ls hP hS hl => lv_ldc C.1 C.2.1 C.2.2.2.1 (C.2.2.2.2.1 _ hw) d (kk H locs ls hP hS hl)
theorem g_ldcw (C : gC E cc nL own ws) {idx : Nat} {v : Int32} (d : decode cc pc = .ok (.ldc_w idx, 3)) (hw : Cond.constant own idx v ∈ ws) (kk : G E k n (pc + 3) lv (.int v :: st) σ τ o) : G E k n pc lv (st) σ τ o := fun H locs ls hP hS hl => lv_ldcw C.1 C.2.1 C.2.2.2.1 (C.2.2.2.2.1 _ hw) d (kk H locs ls hP hS hl)
theorem g_ldc2 (C : gC E cc nL own ws) {idx : Nat} {v : Int64} (d : decode cc pc = .ok (.ldc2_w idx, 3)) (hw : Cond.constantLong own idx v ∈ ws) (kk : G E k n (pc + 3) lv (.long v :: st) σ τ o) : G E k n pc lv (st) σ τ o := fun H locs ls hP hS hl => lv_ldc2 C.1 C.2.1 C.2.2.2.1 (C.2.2.2.2.1 _ hw) d (kk H locs ls hP hS hl)
theorem g_iload_n (C : gC E cc nL own ws) {j : Fin 4} {i : Nat} {x : Int32} (d : decode cc pc = .ok (.iload_n j, 1)) (hi : (j : Nat) = i) (h : lvg lv i = some (.int x)) (kk : G E k n (pc + 1) lv (.int x :: st) σ τ o) : G E k n pc lv (st) σ τ o := fun H locs ls hP hS hl => lv_iload_n C.1 C.2.1 d hi (lvg_at hl h) (kk H locs ls hP hS hl)
theorem g_iload (C : gC E cc nL own ws) {i : Nat} {x : Int32} (d : decode cc pc = .ok (.iload i, 2)) (h : lvg lv i = some (.int x)) (kk : G E k n (pc + 2) lv (.int x :: st) σ τ o) : G E k n pc lv (st) σ τ o := fun H locs ls hP hS hl => lv_iload C.1 C.2.1 d (lvg_at hl h) (kk H locs ls hP hS hl)
theorem g_istore_n (C : gC E cc nL own ws) {j : Fin 4} {i : Nat} {x : Int32} (lv' : List (Nat × Value)) (d : decode cc pc = .ok (.istore_n j, 1)) (hi : (j : Nat) = i) (hn : i < nL) (he : (i, Value.int x) :: lv.filter (fun q => !(q.1 == i) && !(q.1 + 1 == i && q.2.category == 2)) = lv') (kk : G E k n (pc + 1) lv' st σ τ o) : G E k n pc lv (.int x :: st) σ τ o := fun H locs ls hP hS hl => lv_istore_n C.1 C.2.1 d hi hl (by rw [C.2.2.1]; exact hn) he (fun ls' hl' => kk H locs ls' hP hS hl')
theorem g_istore (C : gC E cc nL own ws) {i : Nat} {x : Int32} (lv' : List (Nat × Value)) (d : decode cc pc = .ok (.istore i, 2)) (hn : i < nL) (he : (i, Value.int x) :: lv.filter (fun q => !(q.1 == i) && !(q.1 + 1 == i && q.2.category == 2)) = lv') (kk : G E k n (pc + 2) lv' st σ τ o) : G E k n pc lv (.int x :: st) σ τ o := fun H locs ls hP hS hl => lv_istore C.1 C.2.1 d hl (by rw [C.2.2.1]; exact hn) he (fun ls' hl' => kk H locs ls' hP hS hl')
theorem g_lload_n (C : gC E cc nL own ws) {j : Fin 4} {i : Nat} {x : Int64} (d : decode cc pc = .ok (.lload_n j, 1)) (hi : (j : Nat) = i) (h : lvg lv i = some (.long x)) (kk : G E k n (pc + 1) lv (.long x :: st) σ τ o) : G E k n pc lv (st) σ τ o := fun H locs ls hP hS hl => lv_lload_n C.1 C.2.1 d hi (lvg_at hl h) (kk H locs ls hP hS hl)
theorem g_lload (C : gC E cc nL own ws) {i : Nat} {x : Int64} (d : decode cc pc = .ok (.lload i, 2)) (h : lvg lv i = some (.long x)) (kk : G E k n (pc + 2) lv (.long x :: st) σ τ o) : G E k n pc lv (st) σ τ o := fun H locs ls hP hS hl => lv_lload C.1 C.2.1 d (lvg_at hl h) (kk H locs ls hP hS hl)
theorem g_lstore_n (C : gC E cc nL own ws) {j : Fin 4} {i : Nat} {x : Int64} (lv' : List (Nat × Value)) (d : decode cc pc = .ok (.lstore_n j, 1)) (hi : (j : Nat) = i) (hn : i + 1 < nL) (he : (i, Value.long x) :: lv.filter (fun q => !(q.1 == i) && (!(q.1 == i + 1) && !(q.1 + 1 == i && q.2.category == 2))) = lv') (kk : G E k n (pc + 1) lv' st σ τ o) : G E k n pc lv (.long x :: st) σ τ o := fun H locs ls hP hS hl => lv_lstore_n C.1 C.2.1 d hi hl (by rw [C.2.2.1]; exact hn) he (fun ls' hl' => kk H locs ls' hP hS hl')
theorem g_lstore (C : gC E cc nL own ws) {i : Nat} {x : Int64} (lv' : List (Nat × Value)) (d : decode cc pc = .ok (.lstore i, 2)) (hn : i + 1 < nL) (he : (i, Value.long x) :: lv.filter (fun q => !(q.1 == i) && (!(q.1 == i + 1) && !(q.1 + 1 == i && q.2.category == 2))) = lv') (kk : G E k n (pc + 2) lv' st σ τ o) : G E k n pc lv (.long x :: st) σ τ o := fun H locs ls hP hS hl => lv_lstore C.1 C.2.1 d hl (by rw [C.2.2.1]; exact hn) he (fun ls' hl' => kk H locs ls' hP hS hl')
theorem g_aload_n (C : gC E cc nL own ws) {j : Fin 4} {i : Nat} {x : Nat} (d : decode cc pc = .ok (.aload_n j, 1)) (hi : (j : Nat) = i) (h : lvg lv i = some (.ref x)) (kk : G E k n (pc + 1) lv (.ref x :: st) σ τ o) : G E k n pc lv (st) σ τ o := fun H locs ls hP hS hl => lv_aload_n C.1 C.2.1 d hi (lvg_at hl h) (kk H locs ls hP hS hl)
theorem g_aload (C : gC E cc nL own ws) {i : Nat} {x : Nat} (d : decode cc pc = .ok (.aload i, 2)) (h : lvg lv i = some (.ref x)) (kk : G E k n (pc + 2) lv (.ref x :: st) σ τ o) : G E k n pc lv (st) σ τ o := fun H locs ls hP hS hl => lv_aload C.1 C.2.1 d (lvg_at hl h) (kk H locs ls hP hS hl)
theorem g_astore_n (C : gC E cc nL own ws) {j : Fin 4} {i : Nat} {x : Nat} (lv' : List (Nat × Value)) (d : decode cc pc = .ok (.astore_n j, 1)) (hi : (j : Nat) = i) (hn : i < nL) (he : (i, Value.ref x) :: lv.filter (fun q => !(q.1 == i) && !(q.1 + 1 == i && q.2.category == 2)) = lv') (kk : G E k n (pc + 1) lv' st σ τ o) : G E k n pc lv (.ref x :: st) σ τ o := fun H locs ls hP hS hl => lv_astore_n C.1 C.2.1 d hi hl (by rw [C.2.2.1]; exact hn) he (fun ls' hl' => kk H locs ls' hP hS hl')
theorem g_astore (C : gC E cc nL own ws) {i : Nat} {x : Nat} (lv' : List (Nat × Value)) (d : decode cc pc = .ok (.astore i, 2)) (hn : i < nL) (he : (i, Value.ref x) :: lv.filter (fun q => !(q.1 == i) && !(q.1 + 1 == i && q.2.category == 2)) = lv') (kk : G E k n (pc + 2) lv' st σ τ o) : G E k n pc lv (.ref x :: st) σ τ o := fun H locs ls hP hS hl => lv_astore C.1 C.2.1 d hl (by rw [C.2.2.1]; exact hn) he (fun ls' hl' => kk H locs ls' hP hS hl')
theorem g_dload_n (C : gC E cc nL own ws) {j : Fin 4} {i : Nat} {x : UInt64} (d : decode cc pc = .ok (.dload_n j, 1)) (hi : (j : Nat) = i) (h : lvg lv i = some (.double x)) (kk : G E k n (pc + 1) lv (.double x :: st) σ τ o) : G E k n pc lv (st) σ τ o := fun H locs ls hP hS hl => lv_dload_n C.1 C.2.1 d hi (lvg_at hl h) (kk H locs ls hP hS hl)
theorem g_dload (C : gC E cc nL own ws) {i : Nat} {x : UInt64} (d : decode cc pc = .ok (.dload i, 2)) (h : lvg lv i = some (.double x)) (kk : G E k n (pc + 2) lv (.double x :: st) σ τ o) : G E k n pc lv (st) σ τ o := fun H locs ls hP hS hl => lv_dload C.1 C.2.1 d (lvg_at hl h) (kk H locs ls hP hS hl)
theorem g_dstore_n (C : gC E cc nL own ws) {j : Fin 4} {i : Nat} {x : UInt64} (lv' : List (Nat × Value)) (d : decode cc pc = .ok (.dstore_n j, 1)) (hi : (j : Nat) = i) (hn : i + 1 < nL) (he : (i, Value.double x) :: lv.filter (fun q => !(q.1 == i) && (!(q.1 == i + 1) && !(q.1 + 1 == i && q.2.category == 2))) = lv') (kk : G E k n (pc + 1) lv' st σ τ o) : G E k n pc lv (.double x :: st) σ τ o := fun H locs ls hP hS hl => lv_dstore_n C.1 C.2.1 d hi hl (by rw [C.2.2.1]; exact hn) he (fun ls' hl' => kk H locs ls' hP hS hl')
theorem g_dstore (C : gC E cc nL own ws) {i : Nat} {x : UInt64} (lv' : List (Nat × Value)) (d : decode cc pc = .ok (.dstore i, 2)) (hn : i + 1 < nL) (he : (i, Value.double x) :: lv.filter (fun q => !(q.1 == i) && (!(q.1 == i + 1) && !(q.1 + 1 == i && q.2.category == 2))) = lv') (kk : G E k n (pc + 2) lv' st σ τ o) : G E k n pc lv (.double x :: st) σ τ o := fun H locs ls hP hS hl => lv_dstore C.1 C.2.1 d hl (by rw [C.2.2.1]; exact hn) he (fun ls' hl' => kk H locs ls' hP hS hl')
theorem g_iinc (C : gC E cc nL own ws) {i : Nat} {m : Int} {x v : Int32} (j : Nat) (lv' : List (Nat × Value)) (d : decode cc pc = .ok (.iinc i m, 3)) (hj : lv[j]? = some (i, .int x)) (hv : x + Int32.ofInt m = v) (hn : i < nL) (he : (i, Value.int v) :: lv.filter (fun q => !(q.1 == i) && !(q.1 + 1 == i && q.2.category == 2)) = lv') (kk : G E k n (pc + 3) lv' st σ τ o) : G E k n pc lv st σ τ o := fun H locs ls hP hS hl => lv_iinc C.1 C.2.1 d hl hj hv (by rw [C.2.2.1]; exact hn) he (fun ls' hl' => kk H locs ls' hP hS hl')
/-- fewer locals, in another order -/
theorem g_lv (ks : List Nat) (lv' : List (Nat × Value)) (he : lv_pick lv ks = lv') (kk : G E k n pc lv' st σ τ o) : G E k n pc lv st σ τ o := fun H locs ls hP hS hl => kk H locs ls hP hS (lv_sub hl ks he)
theorem g_wide (k' n' : Nat) (h1 : k ≤ k') (h2 : n ≤ n') (kk : G E k' n' pc lv st σ τ o) : G E k n pc lv st σ τ o := fun H locs ls hP hS hl => W.widen h1 h2 (kk H locs ls hP hS hl)
theorem g_iadd (C : gC E cc nL own ws) {x y : Int32} (d : decode cc pc = .ok (.iadd, 1)) (kk : G E k n (pc + 1) lv (.int (x + y) :: st) σ τ o) : G E k n pc lv (.int y :: .int x :: st) σ τ o := fun H locs ls hP hS hl => lv_iadd C.1 C.2.1 d (kk H locs ls hP hS hl)
theorem g_isub (C : gC E cc nL own ws) {x y : Int32} (d : decode cc pc = .ok (.isub, 1)) (kk : G E k n (pc + 1) lv (.int (x - y) :: st) σ τ o) : G E k n pc lv (.int y :: .int x :: st) σ τ o := fun H locs ls hP hS hl => lv_isub C.1 C.2.1 d (kk H locs ls hP hS hl)
theorem g_imul (C : gC E cc nL own ws) {x y : Int32} (d : decode cc pc = .ok (.imul, 1)) (kk : G E k n (pc + 1) lv (.int (x * y) :: st) σ τ o) : G E k n pc lv (.int y :: .int x :: st) σ τ o := fun H locs ls hP hS hl => lv_imul C.1 C.2.1 d (kk H locs ls hP hS hl)
theorem g_iand (C : gC E cc nL own ws) {x y : Int32} (d : decode cc pc = .ok (.iand, 1)) (kk : G E k n (pc + 1) lv (.int (x &&& y) :: st) σ τ o) : G E k n pc lv (.int y :: .int x :: st) σ τ o := fun H locs ls hP hS hl => lv_iand C.1 C.2.1 d (kk H locs ls hP hS hl)
theorem g_ior (C : gC E cc nL own ws) {x y : Int32} (d : decode cc pc = .ok (.ior, 1)) (kk : G E k n (pc + 1) lv (.int (x ||| y) :: st) σ τ o) : G E k n pc lv (.int y :: .int x :: st) σ τ o := fun H locs ls hP hS hl => lv_ior C.1 C.2.1 d (kk H locs ls hP hS hl)
theorem g_ixor (C : gC E cc nL own ws) {x y : Int32} (d : decode cc pc = .ok (.ixor, 1)) (kk : G E k n (pc + 1) lv (.int (x ^^^ y) :: st) σ τ o) : G E k n pc lv (.int y :: .int x :: st) σ τ o := fun H locs ls hP hS hl => lv_ixor C.1 C.2.1 d (kk H locs ls hP hS hl)
theorem g_ishl (C : gC E cc nL own ws) {x y : Int32} (d : decode cc pc = .ok (.ishl, 1)) (kk : G E k n (pc + 1) lv (.int (x <<< (y &&& 31)) :: st) σ τ o) : G E k n pc lv (.int y :: .int x :: st) σ τ o := fun H locs ls hP hS hl => lv_ishl C.1 C.2.1 d (kk H locs ls hP hS hl)
theorem g_ishr (C : gC E cc nL own ws) {x y : Int32} (d : decode cc pc = .ok (.ishr, 1)) (kk : G E k n (pc + 1) lv (.int (x >>> (y &&& 31)) :: st) σ τ o) : G E k n pc lv (.int y :: .int x :: st) σ τ o := fun H locs ls hP hS hl => lv_ishr C.1 C.2.1 d (kk H locs ls hP hS hl)
theorem g_idiv (C : gC E cc nL own ws) {x y : Int32} (d : decode cc pc = .ok (.idiv, 1)) (hne : ¬ y = 0) (kk : G E k n (pc + 1) lv (.int (x / y) :: st) σ τ o) : G E k n pc lv (.int y :: .int x :: st) σ τ o := fun H locs ls hP hS hl => lv_idiv C.1 C.2.1 d hne (kk H locs ls hP hS hl)
theorem g_irem (C : gC E cc nL own ws) {x y : Int32} (d : decode cc pc = .ok (.irem, 1)) (hne : ¬ y = 0) (kk : G E k n (pc + 1) lv (.int (x - x / y * y) :: st) σ τ o) : G E k n pc lv (.int y :: .int x :: st) σ τ o := fun H locs ls hP hS hl => lv_irem C.1 C.2.1 d hne (kk H locs ls hP hS hl)
theorem g_iushr (C : gC E cc nL own ws) {x y v : Int32} (d : decode cc pc = .ok (.iushr, 1)) (hv : (x.toUInt32 >>> (y.toUInt32 &&& Int32.toUInt32 31)).toInt32 = v) (kk : G E k n (pc + 1) lv (.int v :: st) σ τ o) : G E k n pc lv (.int y :: .int x :: st) σ τ o := fun H locs ls hP hS hl => lv_iushr C.1 C.2.1 d hv (kk H locs ls hP hS hl)
theorem g_ladd (C : gC E cc nL own ws) {x y : Int64} (d : decode cc pc = .ok (.ladd, 1)) (kk : G E k n (pc + 1) lv (.long (x + y) :: st) σ τ o) : G E k n pc lv (.long y :: .long x :: st) σ τ o := fun H locs ls hP hS hl => lv_ladd C.1 C.2.1 d (kk H locs ls hP hS hl)
theorem g_lmul (C : gC E cc nL own ws) {x y : Int64} (d : decode cc pc = .ok (.lmul, 1)) (kk : G E k n (pc + 1) lv (.long (x * y) :: st) σ τ o) : G E k n pc lv (.long y :: .long x :: st) σ τ o := fun H locs ls hP hS hl => lv_lmul C.1 C.2.1 d (kk H locs ls hP hS hl)
theorem g_i2l (C : gC E cc nL own ws) {x : Int32} (d : decode cc pc = .ok (.i2l, 1)) (kk : G E k n (pc + 1) lv (.long x.toInt64 :: st) σ τ o) : G E k n pc lv (.int x :: st) σ τ o := fun H locs ls hP hS hl => lv_i2l C.1 C.2.1 d rfl (kk H locs ls hP hS hl)
theorem g_i2d (C : gC E cc nL own ws) {x : Int32} (d : decode cc pc = .ok (.i2d, 1)) (kk : G E k n (pc + 1) lv (.double (FP.i2d x) :: st) σ τ o) : G E k n pc lv (.int x :: st) σ τ o := fun H locs ls hP hS hl => lv_i2d C.1 C.2.1 d (kk H locs ls hP hS hl)
theorem g_ddiv (C : gC E cc nL own ws) {x y : UInt64} (d : decode cc pc = .ok (.ddiv, 1)) (hne : vf_n64 (FP.ddiv x y)) (kk : G E k n (pc + 1) lv (.double (FP.ddiv x y) :: st) σ τ o) : G E k n pc lv (.double y :: .double x :: st) σ τ o := fun H locs ls hP hS hl => lv_ddiv C.1 C.2.1 d hne (kk H locs ls hP hS hl)
theorem g_dcmp (C : gC E cc nL own ws) {x y : UInt64} {op : CmpOp} (d : decode cc pc = .ok (.dcmp op, 1)) (kk : G E k n (pc + 1) lv (.int (Op.cmpValue (FP.dcmp x y) op) :: st) σ τ o) : G E k n pc lv (.double y :: .double x :: st) σ τ o := fun H locs ls hP hS hl => lv_dcmp C.1 C.2.1 d (kk H locs ls hP hS hl)
theorem g_dup (C : gC E cc nL own ws) {v : Value} (d : decode cc pc = .ok (.dup, 1)) (hc : v.category = 1) (kk : G E k n (pc + 1) lv (v :: v :: st) σ τ o) : G E k n pc lv (v :: st) σ τ o := fun H locs ls hP hS hl => lv_dup C.1 C.2.1 d hc (kk H locs ls hP hS hl)
theorem g_pop (C : gC E cc nL own ws) {v : Value} (d : decode cc pc = .ok (.pop, 1)) (hc : v.category = 1) (kk : G E k n (pc + 1) lv (st) σ τ o) : G E k n pc lv (v :: st) σ τ o := fun H locs ls hP hS hl => lv_pop C.1 C.2.1 d hc (kk H locs ls hP hS hl)
theorem g_dup2 (C : gC E cc nL own ws) {u v : Value} (d : decode cc pc = .ok (.dup2, 1)) (hu : u.category = 1) (hc : v.category = 1) (kk : G E k n (pc + 1) lv (u :: v :: u :: v :: st) σ τ o) : G E k n pc lv (u :: v :: st) σ τ o := fun H locs ls hP hS hl => lv_dup2_11 C.1 C.2.1 d hu hc (kk H locs ls hP hS hl)
theorem g_if_eq (C : gC E cc nL own ws) {x : Int32} {off : Int} {tgt : Nat} (d : decode cc pc = .ok (.ifCond .eq off, 3)) (ht : (pc : Int) + off = (tgt : Int)) (kt : x = 0 → G E k n tgt lv st σ τ o) (kf : ¬ x = 0 → G E k n (pc + 3) lv st σ τ o) : G E k n pc lv (.int x :: st) σ τ o := fun H locs ls hP hS hl => lv_if_eq C.1 C.2.1 d ht (fun h => kt h H locs ls hP hS hl) (fun h => kf h H locs ls hP hS hl)
theorem g_if_ne (C : gC E cc nL own ws) {x : Int32} {off : Int} {tgt : Nat} (d : decode cc pc = .ok (.ifCond .ne off, 3)) (ht : (pc : Int) + off = (tgt : Int)) (kt : ¬ x = 0 → G E k n tgt lv st σ τ o) (kf : x = 0 → G E k n (pc + 3) lv st σ τ o) : G E k n pc lv (.int x :: st) σ τ o := fun H locs ls hP hS hl => lv_if_ne C.1 C.2.1 d ht (fun h => kt h H locs ls hP hS hl) (fun h => kf h H locs ls hP hS hl)
theorem g_if_lt (C : gC E cc nL own ws) {x : Int32} {off : Int} {tgt : Nat} (d : decode cc pc = .ok (.ifCond .lt off, 3)) (ht : (pc : Int) + off = (tgt : Int)) (kt : x < 0 → G E k n tgt lv st σ τ o) (kf : ¬ x < 0 → G E k n (pc + 3) lv st σ τ o) : G E k n pc lv (.int x :: st) σ τ o := fun H locs ls hP hS hl => lv_if_lt C.1 C.2.1 d ht (fun h => kt h H locs ls hP hS hl) (fun h => kf h H locs ls hP hS hl)
theorem g_if_ge (C : gC E cc nL own ws) {x : Int32} {off : Int} {tgt : Nat} (d : decode cc pc = .ok (.ifCond .ge off, 3)) (ht : (pc : Int) + off = (tgt : Int)) (kt : 0 ≤ x → G E k n tgt lv st σ τ o) (kf : ¬ 0 ≤ x → G E k n (pc + 3) lv st σ τ o) : G E k n pc lv (.int x :: st) σ τ o := fun H locs ls hP hS hl => lv_if_ge C.1 C.2.1 d ht (fun h => kt h H locs ls hP hS hl) (fun h => kf h H locs ls hP hS hl)
theorem g_if_gt (C : gC E cc nL own ws) {x : Int32} {off : Int} {tgt : Nat} (d : decode cc pc = .ok (.ifCond .gt off, 3)) (ht : (pc : Int) + off = (tgt : Int)) (kt : 0 < x → G E k n tgt lv st σ τ o) (kf : ¬ 0 < x → G E k n (pc + 3) lv st σ τ o) : G E k n pc lv (.int x :: st) σ τ o := fun H locs ls hP hS hl => lv_if_gt C.1 C.2.1 d ht (fun h => kt h H locs ls hP hS hl) (fun h => kf h H locs ls hP hS hl)
theorem g_if_le (C : gC E cc nL own ws) {x : Int32} {off : Int} {tgt : Nat} (d : decode cc pc = .ok (.ifCond .le off, 3)) (ht : (pc : Int) + off = (tgt : Int)) (kt : x ≤ 0 → G E k n tgt lv st σ τ o) (kf : ¬ x ≤ 0 → G E k n (pc + 3) lv st σ τ o) : G E k n pc lv (.int x :: st) σ τ o := fun H locs ls hP hS hl => lv_if_le C.1 C.2.1 d ht (fun h => kt h H locs ls hP hS hl) (fun h => kf h H locs ls hP hS hl)
theorem g_icmp_eq (C : gC E cc nL own ws) {x y : Int32} {off : Int} {tgt : Nat} (d : decode cc pc = .ok (.if_icmp .eq off, 3)) (ht : (pc : Int) + off = (tgt : Int)) (kt : x = y → G E k n tgt lv st σ τ o) (kf : ¬ x = y → G E k n (pc + 3) lv st σ τ o) : G E k n pc lv (.int y :: .int x :: st) σ τ o := fun H locs ls hP hS hl => lv_icmp_eq C.1 C.2.1 d ht (fun h => kt h H locs ls hP hS hl) (fun h => kf h H locs ls hP hS hl)
theorem g_icmp_ne (C : gC E cc nL own ws) {x y : Int32} {off : Int} {tgt : Nat} (d : decode cc pc = .ok (.if_icmp .ne off, 3)) (ht : (pc : Int) + off = (tgt : Int)) (kt : ¬ x = y → G E k n tgt lv st σ τ o) (kf : x = y → G E k n (pc + 3) lv st σ τ o) : G E k n pc lv (.int y :: .int x :: st) σ τ o := fun H locs ls hP hS hl => lv_icmp_ne C.1 C.2.1 d ht (fun h => kt h H locs ls hP hS hl) (fun h => kf h H locs ls hP hS hl)
theorem g_icmp_lt (C : gC E cc nL own ws) {x y : Int32} {off : Int} {tgt : Nat} (d : decode cc pc = .ok (.if_icmp .lt off, 3)) (ht : (pc : Int) + off = (tgt : Int)) (kt : x < y → G E k n tgt lv st σ τ o) (kf : ¬ x < y → G E k n (pc + 3) lv st σ τ o) : G E k n pc lv (.int y :: .int x :: st) σ τ o := fun H locs ls hP hS hl => lv_icmp_lt C.1 C.2.1 d ht (fun h => kt h H locs ls hP hS hl) (fun h => kf h H locs ls hP hS hl)
theorem g_icmp_ge (C : gC E cc nL own ws) {x y : Int32} {off : Int} {tgt : Nat} (d : decode cc pc = .ok (.if_icmp .ge off, 3)) (ht : (pc : Int) + off = (tgt : Int)) (kt : y ≤ x → G E k n tgt lv st σ τ o) (kf : ¬ y ≤ x → G E k n (pc + 3) lv st σ τ o) : G E k n pc lv (.int y :: .int x :: st) σ τ o := fun H locs ls hP hS hl => lv_icmp_ge C.1 C.2.1 d ht (fun h => kt h H locs ls hP hS hl) (fun h => kf h H locs ls hP hS hl)
theorem g_icmp_gt (C : gC E cc nL own ws) {x y : Int32} {off : Int} {tgt : Nat} (d : decode cc pc = .ok (.if_icmp .gt off, 3)) (ht : (pc : Int) + off = (tgt : Int)) (kt : y < x → G E k n tgt lv st σ τ o) (kf : ¬ y < x → G E k n (pc + 3) lv st σ τ o) : G E k n pc lv (.int y :: .int x :: st) σ τ o := fun H locs ls hP hS hl => lv_icmp_gt C.1 C.2.1 d ht (fun h => kt h H locs ls hP hS hl) (fun h => kf h H locs ls hP hS hl)
theorem g_icmp_le (C : gC E cc nL own ws) {x y : Int32} {off : Int} {tgt : Nat} (d : decode cc pc = .ok (.if_icmp .le off, 3)) (ht : (pc : Int) + off = (tgt : Int)) (kt : x ≤ y → G E k n tgt lv st σ τ o) (kf : ¬ x ≤ y → G E k n (pc + 3) lv st σ τ o) : G E k n pc lv (.int y :: .int x :: st) σ τ o := fun H locs ls hP hS hl => lv_icmp_le C.1 C.2.1 d ht (fun h => kt h H locs ls hP hS hl) (fun h => kf h H locs ls hP hS hl)
theorem g_goto (C : gC E cc nL own ws) {off : Int} {tgt : Nat} (d : decode cc pc = .ok (.goto off, 3)) (ht : (pc : Int) + off = (tgt : Int)) (kk : G E k n tgt lv st σ τ o) : G E k n pc lv st σ τ o := fun H locs ls hP hS hl => lv_goto C.1 C.2.1 d ht (kk H locs ls hP hS hl)
/-- a field of the class's object -/
theorem g_getX (C : gC E cc nL own ws) {idx : Nat} (c : Nat) {v : Value} (d : decode cc pc = .ok (.getfield idx, 3)) (hin : ∀ w ∈ wsX00, w ∈ ws) (hk : c < 18) (hw : Cond.fieldLink own idx RX0 (TX0 c).2.1 (TX0 c).2.2.1 ∈ ws) (hT : (TX0 c).1 = RX0) (hv : (wW (eG E) σ τ o)[0]?.bind (fun q => match q.2 with | .inr (_, fs) => fs[c]? | .inl _ => none) = some v) (kk : G E k n (pc + 3) lv (v :: st) σ τ o) : G E k n pc lv (.ref ((eG E).2.1 100) :: st) σ τ o := fun H locs ls hP hS hl =>
  va_get (D := (eG E).1) (cl := vwCl) (C := RX0) (T := TX0) (N := 18) (ci := 0) (ref := RX0) C.1 C.2.1 C.2.2.2.2.1 hin C.2.2.2.1 C.2.2.2.2.2.1 hP 0 rfl rfl c hk (C.2.2.2.2.1 _ hw) (fun _ h => by rw [← hT]; exact h) hv d (kk H locs ls hP hS hl)
theorem uD_of (C : gC E cc nL own ws) : va_D (eA E) (wW (eG E) σ τ o) := uD_any C.2.2.2.2.2.2.2.1
theorem g_putX (C : gC E cc nL own ws) {idx : Nat} (c : Nat) {x : Int32} (d : decode cc pc = .ok (.putfield idx, 3)) (hin : ∀ w ∈ wsX00, w ∈ ws) (hk : c < 18) (hw : Cond.fieldLink own idx RX0 (TX0 c).2.1 (TX0 c).2.2.1 ∈ ws) (hT : (TX0 c).1 = RX0) (hf : (TX0 c).2.2.2 = false) (hd : parseFieldDescriptor (TX0 c).2.2.1 = some .int) (he : (wW (eG E) σ τ o).set 0 ((eG E).2.1 100, .inr (0, [.ref ((eG E).2.1 0), .ref ((eG E).2.1 1), .ref ((eG E).2.1 2), .int (σ 3), .int (σ 4), .int (σ 5), .int (σ 6), .ref ((eG E).2.1 7), .ref ((eG E).2.1 8), .int (σ 9), .int (σ 10), .int (σ 11), .ref ((eG E).2.1 12), .ref ((eG E).2.1 13), .ref ((eG E).2.1 14), .ref ((eG E).2.1 15), .ref ((eG E).2.1 16), .ref ((eG E).2.1 17)].set c (.int x))) = wW (eG E) (uS σ c x) τ o) (kk : G E k n (pc + 3) lv st (uS σ c x) τ o) : G E k n pc lv (.int x :: .ref ((eG E).2.1 100) :: st) σ τ o := fun H locs ls hP hS hl =>
  va_put (D := (eG E).1) (cl := vwCl) (C := RX0) (T := TX0) (N := 18) (ci := 0) (ref := RX0) (ty := .int) (v := .int x) C.1 C.2.1 C.2.2.2.2.1 hin tyX0 tyX0_ok nmX0 C.2.2.2.1 C.2.2.2.2.2.1 hP (uD_of C) hS 0 rfl rfl c hk (C.2.2.2.2.1 _ hw) (fun _ h => by rw [← hT]; exact h) hf hd rfl rfl hk d (fun H1 locs1 hP1 _ hS1 => kk H1 locs1 ls (by rw [he] at hP1; exact hP1) hS1 hl)
/-- an element of an int array, a boolean array, of out -/
theorem g_iald (C : gC E cc nL own ws) {c : Nat} {i : Int32} (d : decode cc pc = .ok (.iaload, 1)) (ha : (wW (eG E) σ τ o)[gAp c]? = some ((eG E).2.1 c, .inl ((eG E).2.2.1, gAl c, .inl (τ c)))) (hi : vp_in i (gAl c)) (kk : G E k n (pc + 1) lv (.int (τ c i.toNatClampNeg) :: st) σ τ o) : G E k n pc lv (.int i :: .ref ((eG E).2.1 c) :: st) σ τ o := fun H locs ls hP hS hl => va_iald C.1 C.2.1 C.2.2.2.2.2.1 hP (gAp c) 0 ha rfl hi d (kk H locs ls hP hS hl)
theorem g_ialdN (C : gC E cc nL own ws) {c : Nat} {i : Int32} (j : Nat) (d : decode cc pc = .ok (.iaload, 1)) (ha : (wW (eG E) σ τ o)[gAp c]? = some ((eG E).2.1 c, .inl ((eG E).2.2.1, gAl c, .inl (τ c)))) (he : i = nI j) (hj : j < gAl c) (hz : gAl c < 19) (kk : G E k n (pc + 1) lv (.int (τ c j) :: st) σ τ o) : G E k n pc lv (.int i :: .ref ((eG E).2.1 c) :: st) σ τ o := by
  subst he
  have h2 : j < 2 ^ 31 := Nat.lt_trans hj (Nat.lt_trans hz (by decide))
  refine g_iald C d ha (vp_in_nI hj (Nat.lt_trans hz (by decide))) ?_
  rw [nI_clamp h2]
  exact kk
theorem g_zald (C : gC E cc nL own ws) {c : Nat} {i : Int32} (d : decode cc pc = .ok (.baload, 1)) (ha : (wW (eG E) σ τ o)[gAp c]? = some ((eG E).2.1 c, .inl ((eG E).2.2.2.1, gAl c, .inl (τ c)))) (hi : vp_in i (gAl c)) (kk : G E k n (pc + 1) lv (.int (τ c i.toNatClampNeg) :: st) σ τ o) : G E k n pc lv (.int i :: .ref ((eG E).2.1 c) :: st) σ τ o := fun H locs ls hP hS hl => va_zald C.1 C.2.1 C.2.2.2.2.2.1 hP (gAp c) 1 ha rfl hi d (kk H locs ls hP hS hl)
theorem g_zaldN (C : gC E cc nL own ws) {c : Nat} {i : Int32} (j : Nat) (d : decode cc pc = .ok (.baload, 1)) (ha : (wW (eG E) σ τ o)[gAp c]? = some ((eG E).2.1 c, .inl ((eG E).2.2.2.1, gAl c, .inl (τ c)))) (he : i = nI j) (hj : j < gAl c) (hz : gAl c < 19) (kk : G E k n (pc + 1) lv (.int (τ c j) :: st) σ τ o) : G E k n pc lv (.int i :: .ref ((eG E).2.1 c) :: st) σ τ o := by
  subst he
  have h2 : j < 2 ^ 31 := Nat.lt_trans hj (Nat.lt_trans hz (by decide))
  refine g_zald C d ha (vp_in_nI hj (Nat.lt_trans hz (by decide))) ?_
  rw [nI_clamp h2]
  exact kk
theorem g_iast (C : gC E cc nL own ws) {c : Nat} {i x : Int32} (j : Nat) (d : decode cc pc = .ok (.iastore, 1)) (ha : (wW (eG E) σ τ o)[gAp c]? = some ((eG E).2.1 c, .inl ((eG E).2.2.1, gAl c, .inl (τ c)))) (he : i.toNatClampNeg = j) (hi : vp_in i (gAl c)) (hw : (wW (eG E) σ τ o).set (gAp c) ((eG E).2.1 c, .inl ((eG E).2.2.1, gAl c, .inl (upd (τ c) j x))) = wW (eG E) σ (uT τ c j x) o) (kk : G E k n (pc + 1) lv st σ (uT τ c j x) o) : G E k n pc lv (.int x :: .int i :: .ref ((eG E).2.1 c) :: st) σ τ o := fun H locs ls hP hS hl => va_iast C.1 C.2.1 C.2.2.2.2.2.1 hP (uD_of C) hS (gAp c) 0 ha rfl hi d (fun H1 locs1 hP1 _ hS1 => kk H1 locs1 ls (by rw [he, hw] at hP1; exact hP1) hS1 hl)
theorem g_iastN (C : gC E cc nL own ws) {c : Nat} {i x : Int32} (j : Nat) (d : decode cc pc = .ok (.iastore, 1)) (ha : (wW (eG E) σ τ o)[gAp c]? = some ((eG E).2.1 c, .inl ((eG E).2.2.1, gAl c, .inl (τ c)))) (he : i = nI j) (hj : j < gAl c) (hz : gAl c < 19) (hw : (wW (eG E) σ τ o).set (gAp c) ((eG E).2.1 c, .inl ((eG E).2.2.1, gAl c, .inl (upd (τ c) j x))) = wW (eG E) σ (uT τ c j x) o) (kk : G E k n (pc + 1) lv st σ (uT τ c j x) o) : G E k n pc lv (.int x :: .int i :: .ref ((eG E).2.1 c) :: st) σ τ o := by
  subst he
  exact g_iast C j d ha (nI_clamp (Nat.lt_trans hj (Nat.lt_trans hz (by decide)))) (vp_in_nI hj (Nat.lt_trans hz (by decide))) hw kk
theorem g_zast (C : gC E cc nL own ws) {c : Nat} {i x : Int32} (j : Nat) (d : decode cc pc = .ok (.bastore, 1)) (ha : (wW (eG E) σ τ o)[gAp c]? = some ((eG E).2.1 c, .inl ((eG E).2.2.2.1, gAl c, .inl (τ c)))) (he : i.toNatClampNeg = j) (hi : vp_in i (gAl c)) (hx : x = 0 ∨ x = 1) (hw : (wW (eG E) σ τ o).set (gAp c) ((eG E).2.1 c, .inl ((eG E).2.2.2.1, gAl c, .inl (upd (τ c) j x))) = wW (eG E) σ (uT τ c j x) o) (kk : G E k n (pc + 1) lv st σ (uT τ c j x) o) : G E k n pc lv (.int x :: .int i :: .ref ((eG E).2.1 c) :: st) σ τ o := fun H locs ls hP hS hl => va_zast C.1 C.2.1 C.2.2.2.2.2.1 hP (uD_of C) hS (gAp c) 1 ha rfl hi d (fun H1 locs1 hP1 _ hS1 => kk H1 locs1 ls (by rw [he, show vp_nar .boolean x = x by rcases hx with rfl | rfl <;> rfl, hw] at hP1; exact hP1) hS1 hl)
theorem g_zastN (C : gC E cc nL own ws) {c : Nat} {i x : Int32} (j : Nat) (d : decode cc pc = .ok (.bastore, 1)) (ha : (wW (eG E) σ τ o)[gAp c]? = some ((eG E).2.1 c, .inl ((eG E).2.2.2.1, gAl c, .inl (τ c)))) (he : i = nI j) (hj : j < gAl c) (hz : gAl c < 19) (hx : x = 0 ∨ x = 1) (hw : (wW (eG E) σ τ o).set (gAp c) ((eG E).2.1 c, .inl ((eG E).2.2.2.1, gAl c, .inl (upd (τ c) j x))) = wW (eG E) σ (uT τ c j x) o) (kk : G E k n (pc + 1) lv st σ (uT τ c j x) o) : G E k n pc lv (.int x :: .int i :: .ref ((eG E).2.1 c) :: st) σ τ o := by
  subst he
  exact g_zast C j d ha (nI_clamp (Nat.lt_trans hj (Nat.lt_trans hz (by decide)))) (vp_in_nI hj (Nat.lt_trans hz (by decide))) hx hw kk
/-- Math.max, Math.min -/
theorem g_mmax (C : gC E cc nL own ws) {idx : Nat} {x y : Int32} (d : decode cc pc = .ok (.invokestatic idx, 3)) (h1 : Cond.methodLink own idx Lib.Math.max.name ∈ ws) (h2 : Cond.static Lib.Math.max.name ∈ ws) (h3 : Cond.initialized "java/lang/Math" ∈ ws) (h4 : Cond.code Lib.Math.max.name Lib.Math.max.code 2 (some .int) ∈ ws) (hR : 1 ≤ (eR E).frames ∧ (st.map fun v => v.category).sum + 13 ≤ (eR E).locals ∧ k ≤ (eR E).cells ∧ n ≤ (eR E).slots) (kk : G E k n (pc + 3) lv (.int (if x < y then y else x) :: st) σ τ o) : G E k n pc lv (.int y :: .int x :: st) σ τ o := fun H locs ls hP hS hl => va_mmax C.1 C.2.1 hl.1.symm C.2.2.2.1 (C.2.2.2.2.1 _ h1) (C.2.2.2.2.1 _ h2) (C.2.2.2.2.1 _ h3) (C.2.2.2.2.1 _ h4) hR.1 hR.2.1 hR.2.2.1 hR.2.2.2 d (kk H locs ls hP hS hl)
theorem g_mmin (C : gC E cc nL own ws) {idx : Nat} {x y : Int32} (d : decode cc pc = .ok (.invokestatic idx, 3)) (h1 : Cond.methodLink own idx Lib.Math.min.name ∈ ws) (h2 : Cond.static Lib.Math.min.name ∈ ws) (h3 : Cond.initialized "java/lang/Math" ∈ ws) (h4 : Cond.code Lib.Math.min.name Lib.Math.min.code 2 (some .int) ∈ ws) (hR : 1 ≤ (eR E).frames ∧ (st.map fun v => v.category).sum + 13 ≤ (eR E).locals ∧ k ≤ (eR E).cells ∧ n ≤ (eR E).slots) (kk : G E k n (pc + 3) lv (.int (if y < x then y else x) :: st) σ τ o) : G E k n pc lv (.int y :: .int x :: st) σ τ o := fun H locs ls hP hS hl => va_mmin C.1 C.2.1 hl.1.symm C.2.2.2.1 (C.2.2.2.2.1 _ h1) (C.2.2.2.2.1 _ h2) (C.2.2.2.2.1 _ h3) (C.2.2.2.2.1 _ h4) hR.1 hR.2.1 hR.2.2.1 hR.2.2.2 d (kk H locs ls hP hS hl)
/-- the ends -/
theorem g_end {post : gPost} {px : gPX} {mc ms : Nat} {ret : Option FieldType} {v : Option Value} (C : gC E cc nL own ws) (hq : post v σ τ o) {H : Heap} {locs : List Loc} (hP : va_P (eG E).1 vwCl (wW (eG E) σ τ o) H) (hS : va_S (eA E) (eS E).heap H locs) : ∀ t : State, t.heap = H → (eS E).WarmedH t.vm → uQ (eG E) (eA E) post (eV E) (eS E) (.returned v) t :=
  fun t ht hW => ⟨⟨v, σ, τ, o, rfl, hq, by rw [ht]; exact hP, va_K.moved hW.alike C.2.2.2.2.2.1⟩, hS.F ht⟩
theorem g_iret {post : gPost} {px : gPX} {mc ms : Nat} {v : Int32} (C : gC E cc nL own ws) (F : gF E post px mc ms (some .int)) (d : decode cc pc = .ok (.ireturn, 1)) (hk : k ≤ mc) (hn : n ≤ ms) (hq : post (some (.int v)) σ τ o) : G E k n pc lv [.int v] σ τ o := fun H locs ls hP hS hl => by
  rw [F.1]
  exact W.widen hk hn (vx_ret (W.iret C.1 C.2.1 F.2.2 (g_end (px := px) (mc := mc) (ms := ms) (ret := none) C hq hP hS) hS.2.2 d F.2.1))
theorem g_zret {post : gPost} {px : gPX} {mc ms : Nat} {v : Int32} (C : gC E cc nL own ws) (F : gF E post px mc ms (some .boolean)) (d : decode cc pc = .ok (.ireturn, 1)) (hv : v = 0 ∨ v = 1) (hk : k ≤ mc) (hn : n ≤ ms) (hq : post (some (.int v)) σ τ o) : G E k n pc lv [.int v] σ τ o := fun H locs ls hP hS hl => by
  rw [F.1]
  exact W.widen hk hn (vx_ret (W.zret C.1 C.2.1 F.2.2 (by rcases hv with rfl | rfl <;> rfl) (g_end (px := px) (mc := mc) (ms := ms) (ret := none) C hq hP hS) hS.2.2 d F.2.1))
theorem g_vret {post : gPost} {px : gPX} {mc ms : Nat} (C : gC E cc nL own ws) (F : gF E post px mc ms none) (d : decode cc pc = .ok (.return_, 1)) (hk : k ≤ mc) (hn : n ≤ ms) (hq : post none σ τ o) : G E k n pc lv [] σ τ o := fun H locs ls hP hS hl => by
  rw [F.1]
  exact W.widen hk hn (vx_ret (W.vret C.1 C.2.1 F.2.2 (g_end (px := px) (mc := mc) (ms := ms) (ret := none) C hq hP hS) hS.2.2 d F.2.1))
theorem g_lret {post : gPost} {px : gPX} {mc ms : Nat} {v : Int64} (C : gC E cc nL own ws) (F : gF E post px mc ms (some .long)) (d : decode cc pc = .ok (.lreturn, 1)) (hk : k ≤ mc) (hn : n ≤ ms) (hq : post (some (.long v)) σ τ o) : G E k n pc lv [.long v] σ τ o := fun H locs ls hP hS hl => by
  rw [F.1]
  exact W.widen hk hn (vx_ret (W.lret C.1 C.2.1 F.2.2 (g_end (px := px) (mc := mc) (ms := ms) (ret := none) C hq hP hS) hS.2.2 d F.2.1))
theorem g_dret {post : gPost} {px : gPX} {mc ms : Nat} {v : UInt64} (C : gC E cc nL own ws) (F : gF E post px mc ms (some .double)) (d : decode cc pc = .ok (.dreturn, 1)) (hk : k ≤ mc) (hn : n ≤ ms) (hq : post (some (.double v)) σ τ o) : G E k n pc lv [.double v] σ τ o := fun H locs ls hP hS hl => by
  rw [F.1]
  exact W.widen hk hn (vx_ret (W.dret C.1 C.2.1 F.2.2 (g_end (px := px) (mc := mc) (ms := ms) (ret := none) C hq hP hS) hS.2.2 d F.2.1))
end GR
end
section
/-! calls, throws, the start of a contract, over the one world -/
theorem uZ_pass {A B : Nat → Prop} {s U : State} {H : Heap} {locs : List Loc} (h : uZ A s s.heap) (hS : va_S A s.heap H locs) (hW : s.WarmedH U.vm) (hU : U.heap = H) (hBA : ∀ q, B q → A q) : uZ B U U.heap := by
  rw [hU]
  exact ⟨((h.1.moved hW.alike).kept hS.2.1).narrow hBA, ((h.2.1.moved hW.alike).kept hS.2.1).narrow hBA, fun q hq => by
    obtain ⟨sa, hs⟩ := h.2.2.1 q hq
    exact ⟨sa, vk_R.warm hW hs⟩, fun X hX => va_Nw.warmC hW (h.2.2.2.1 X hX), fun x hx => va_Nw.warmD hW (h.2.2.2.2 x hx)⟩
theorem uP_blind {As : List Value} {Γ : gG} {sz : Nat} {σ : gS} {τ : gT} {o : gO} : FrameBlind (va_Pc As (uP Γ sz σ τ o)) := fun a U g mk q => by
  obtain ⟨q0, q1, ⟨qP, qK⟩, qD, q2, q3, q4, q5, q6⟩ := q
  exact ⟨q0, q1, ⟨qP, va_K.moved (u := U) (U := U.calling g mk a) (Vm.Alike.refl U.vm) qK⟩, qD, vx_Zq.moved (u := U) (U := U.calling g mk a) (Vm.Alike.refl U.vm) q2, vx_Zq.moved (u := U) (U := U.calling g mk a) (Vm.Alike.refl U.vm) q3, fun q hq => by
    obtain ⟨sa, hs⟩ := q4 q hq
    exact ⟨sa, vk_R.same (u := U) (U := U.calling g mk a) rfl hs⟩, fun X hX => va_Nw.same (u := U) (U := U.calling g mk a) rfl rfl (q5 X hX), fun x hx => va_Nw.same (u := U) (U := U.calling g mk a) rfl rfl (q6 x hx)⟩
section GCALL
variable {E : gE} {cc : ByteArray} {nL : Nat} {own : String} {ws : List Cond} {k n pc : Nat} {lv : List (Nat × Value)} {st : List Value} {σ : gS} {τ : gT} {o : gO}
theorem uAd_in (C : gC E cc nL own ws) {H : Heap} {locs : List Loc} (hS : va_S (eA E) (eS E).heap H locs) : ∀ q, uAd (eG E) H.size q → eA E q := fun q h => by
  rcases h with ⟨j, e, h⟩ | h
  · exact C.2.2.2.2.2.2.2.1.2 j (q, e) h
  · exact C.2.2.2.2.2.2.1 q (Nat.le_trans hS.1 h)
theorem g_pre (C : gC E cc nL own ws) {H : Heap} {locs : List Loc} {As : List Value} (hP : va_P (eG E).1 vwCl (wW (eG E) σ τ o) H) (hS : va_S (eA E) (eS E).heap H locs) : ∀ U : State, U.heap = H → (eS E).WarmedH U.vm → va_Pc As (uP (eG E) H.size σ τ o) As.toArray U := fun U hU hW =>
  ⟨rfl, by rw [hU], ⟨by rw [hU]; exact hP, va_K.moved hW.alike C.2.2.2.2.2.1⟩, C.2.2.2.2.2.2.2.1.weaken (fun _ _ _ _ => trivial), uZ_pass C.2.2.2.2.2.2.2.2.1 hS hW hU (uAd_in C hS)⟩
theorem g_run {post : gPost} {px : gPX} {mc ms : Nat} {rest : List Value} {a : Array Value} (C : gC E cc nL own ws)
    (hr : ∀ (H : Heap) (locs : List Loc) (ls : Array Slot), va_P (eG E).1 vwCl (wW (eG E) σ τ o) H → va_S (eA E) (eS E).heap H locs → lv_has ls (eC E).maxLocals lv →
      vx_Run (eP E) (eL E) (eE E) (eR E) (eS E) (eM E) (eV E) (eB E) (eMt E) (eC E) H locs k n mc ms (F0 (eM E) pc ls st) rest (uQ (eG E) (uAd (eG E) H.size) post a) (uX (eG E) (uAd (eG E) H.size) px) (uAd (eG E) H.size))
    (kx : ∀ X σ' τ' o', px X σ' τ' o' → GX E (k + mc) (n + ms) pc lv rest σ' τ' o' X)
    (kk : ∀ v σ' τ' o', post v σ' τ' o' → G E (k + mc) (n + ms) (pc + 3) lv (v.toList ++ rest) σ' τ' o') : G E k n pc lv st σ τ o := by
  intro H locs ls hP hS hl T hT X
  have hA := uAd_in C hS
  rcases hr H locs ls hP hS hl T hT X with ⟨v, st₀, t, T', L, h0, X', hL, e1, e2, ⟨⟨v', σ', τ', o', hv, hp, hB⟩, hF⟩, hg⟩ | ⟨q, st₀, t, T', L, Xn, ce, h0, X', hL, e1, e2, ⟨⟨σ', τ', o', hp, hB⟩, hF⟩, hce, hcv, hcl, hg⟩
  · cases hv
    obtain ⟨k1, k2, k3⟩ := vx_keep h0 e1 hS (fun q _ h => hA q h) hA hL hF
    obtain ⟨t2, a1, b1⟩ := kk v σ' τ' o' hp T'.heap (locs ++ L) ls (by rw [e1]; exact hB.1) k3 hl T' rfl X'
    exact ⟨t2, hg t2 a1, b1⟩
  · obtain ⟨k1, k2, k3⟩ := vx_keep h0 e1 hS (fun q _ h => hA q h) hA hL hF
    obtain ⟨t2, a1, b1⟩ := kx Xn σ' τ' o' hp T'.heap (locs ++ L) ls q ce (by rw [e1]; exact hB.1) k3 hl (by rw [e1]; exact hce) hcv hcl T' rfl X'
    exact ⟨t2, hg.trans a1, b1⟩
/-- a call of an instance method of the class (Cl, ci, q0 = RX0, 0, 0) or the reference (RX1, 1, 12) -/
theorem g_callV {post : gPost} {px : gPX} {fr lo mc ms idx maxL na : Nat} {y : MethodName} {bytes : ByteArray} {ret : Option FieldType} {wy wy' : List Cond} {Cl : String} {T : u_T} {N ci q0 b : Nat} {fs : List Value} {As rest : List Value} (C : gC E cc nL own ws)
    (d : decode cc pc = .ok (.invokevirtual idx, 3)) (hM : Ct (eL E) y wy fr lo mc ms (.ref b :: As) (eG E) σ τ o post px) (hT : GoodIn ws (wsV own idx Cl y wy)) (hw : wy = Cond.code y bytes maxL ret :: wy')
    (hna : As.length = na) (hy : y.cls = Cl ∧ y.cls ≠ "java/lang/invoke/MethodHandle" ∧ y.cls ≠ "java/lang/invoke/VarHandle" ∧ (parseMethodDescriptor y.desc).map (fun d => d.parameters.length) = some na)
    (hq : (wW (eG E) σ τ o)[q0]? = some (b, .inr (ci, fs))) (hc : vwCl[ci]? = some (Cl, T, N))
    (hst : st = As.reverse ++ .ref b :: rest) (hW : (rest.map fun v => v.category).sum ≤ 8)
    (hR : fr + 1 ≤ (eR E).frames ∧ 8 + (maxL + 11) + lo ≤ (eR E).locals) (hf : k + mc ≤ (eR E).cells ∧ n + ms ≤ (eR E).slots)
    (kx : ∀ X σ' τ' o', px X σ' τ' o' → GX E (k + mc) (n + ms) pc lv rest σ' τ' o' X)
    (kk : ∀ v σ' τ' o', post v σ' τ' o' → G E (k + mc) (n + ms) (pc + 3) lv (v.toList ++ rest) σ' τ' o') : G E k n pc lv st σ τ o := by
  refine g_run (a := (Value.ref b :: As).toArray) C (fun H locs ls hP hS hl => ?_) kx kk
  exact vx_runV (As := As) (rest := rest) ⟨C.1, C.2.1, C.2.2.1, C.2.2.2.1, C.2.2.2.2.1⟩ (hM H.size) (cwV na C.2.2.2.2.1 hT hw rfl rfl hy hR) ⟨uP_blind, va_recv C.2.2.2.2.2.1 hP hc hq, g_pre C hP hS⟩ rfl hna (hl.1.trans C.2.2.1) hst (lv_room hW) d hf
/-- a call of a static method of the own class or another -/
theorem g_callS {post : gPost} {px : gPX} {fr lo mc ms idx maxL na : Nat} {y : MethodName} {bytes : ByteArray} {ret : Option FieldType} {wy wy' : List Cond} {As rest : List Value} (C : gC E cc nL own ws)
    (d : decode cc pc = .ok (.invokestatic idx, 3)) (hM : Ct (eL E) y wy fr lo mc ms As (eG E) σ τ o post px) (hT : GoodIn ws (va_wsS own idx y wy)) (hw : wy = Cond.code y bytes maxL ret :: wy')
    (hna : As.length = na) (hy : y.cls ≠ "java/lang/invoke/MethodHandle" ∧ y.cls ≠ "java/lang/invoke/VarHandle" ∧ (parseMethodDescriptor y.desc).map (fun d => d.parameters.length) = some na)
    (hst : st = As.reverse ++ rest) (hW : (rest.map fun v => v.category).sum ≤ 8)
    (hR : fr + 1 ≤ (eR E).frames ∧ 8 + (maxL + 11) + lo ≤ (eR E).locals) (hf : k + mc ≤ (eR E).cells ∧ n + ms ≤ (eR E).slots)
    (kx : ∀ X σ' τ' o', px X σ' τ' o' → GX E (k + mc) (n + ms) pc lv rest σ' τ' o' X)
    (kk : ∀ v σ' τ' o', post v σ' τ' o' → G E (k + mc) (n + ms) (pc + 3) lv (v.toList ++ rest) σ' τ' o') : G E k n pc lv st σ τ o := by
  refine g_run (a := As.toArray) C (fun H locs ls hP hS hl => ?_) kx kk
  exact vx_runS (As := As) (rest := rest) ⟨C.1, C.2.1, C.2.2.1, C.2.2.2.1, C.2.2.2.2.1⟩ (hM H.size) (va_cwS na C.2.2.2.2.1 hT hw rfl rfl hy hR) ⟨uP_blind, g_pre C hP hS⟩ rfl hna (hl.1.trans C.2.2.1) hst (lv_room hW) d hf
/-- not caught here: on to the caller -/
theorem gx_out {post : gPost} {px : gPX} {mc ms : Nat} {ret : Option FieldType} {X : String} (C : gC E cc nL own ws) (F : gF E post px mc ms ret) (ht : ∀ x ∈ (eC E).exceptionTable.toList, False) (hk : k ≤ mc) (hn : n ≤ ms) (hp : px X σ τ o) : GX E k n pc lv st σ τ o X := fun H locs ls q ce hP hS hl hce hcv hcl => by
  rw [F.1]
  exact vx_out (fun x hx => (ht x hx).elim) F.2.1 hce hcv hcl (fun t ht hA => ⟨⟨σ, τ, o, hp, by rw [ht]; exact hP, va_K.moved hA C.2.2.2.2.2.1⟩, hS.F ht⟩) hS.2.2 hk hn
/-- throw new X("text") -/
theorem g_throw {post : gPost} {px : gPX} {mc ms ik is ic : Nat} {ret : Option FieldType} {cls text : String} {names : List String} (C : gC E cc nL RX0 ws) (F : gF E post px mc ms ret) (ht : ∀ x ∈ (eC E).exceptionTable.toList, False)
    (d0 : decode cc pc = .ok (.new ik, 3)) (d3 : decode cc (pc + 3) = .ok (.dup, 1)) (d4 : decode cc (pc + 4) = .ok (.ldc is, 2)) (d6 : decode cc (pc + 6) = .ok (.invokespecial ic, 3)) (d9 : decode cc (pc + 9) = .ok (.athrow, 1))
    (hcls : Bundle.fit cls = true) (hnames : ∀ n ∈ names, Bundle.fit n = true) (hk : Cond.classLink RX0 ik cls ∈ ws) (hini : Cond.initialized cls ∈ ws) (hK : (is, text) ∈ gK)
    (hX : cls ∈ gXc) (hall : (vx_atS RX0 ic cls names).all vx_ot = true ∧ ∀ w ∈ (vx_atS RX0 ic cls names).filter (fun w => !goodWord w), w ∈ Cond.castable cls cls :: gDc.map Cond.declares) (hat : ∀ w ∈ (vx_atS RX0 ic cls names).filter goodWord, w ∈ ws)
    (hR : names.length + 3 < (eR E).frames ∧ (st.map fun v => v.category).sum + (13 * (names.length + 1) + 43) ≤ (eR E).locals ∧ k + 1 ≤ (eR E).cells ∧ n + 6 ≤ (eR E).slots)
    (hc : k + 1 ≤ mc) (hs : n + 6 ≤ ms) (hp : px cls σ τ o) : G E k n pc lv st σ τ o := fun H locs ls hP hS hl => by
  rw [F.1]
  obtain ⟨z1, z2, z3, z4, z5⟩ := C.2.2.2.2.2.2.2.2.1
  obtain ⟨sa, hsa⟩ := z3 (is, text) hK
  have hg : ∀ w ∈ vx_atS RX0 ic cls names, vx_ot w = true := List.all_eq_true.mp hall.1
  have h3 : ∀ w ∈ Cond.castable cls cls :: gDc.map Cond.declares, w.before (eV E) (eS E) = true := by
    intro w hw
    rcases List.mem_cons.mp hw with rfl | hw
    · exact va_Nw.use rfl (z4 cls hX)
    · obtain ⟨x, hx, rfl⟩ := List.mem_map.mp hw
      exact va_Nw.use rfl (z5 x hx)
  refine vx_throwS (A := eA E) C.1 C.2.1 C.2.2.2.2.2.2.2.2.2 C.2.2.2.1 hcls hnames (C.2.2.2.2.1 _ hk) (C.2.2.2.2.1 _ hini) hsa (vx_hat (fun w hw => C.2.2.2.2.1 _ (hat w hw)) hall.2 h3) ?_ z1 z2 hS hl.1 d0 d3 d4 d6 d9 (fun x hx => (ht x hx).elim) hR.1 hR.2.1 hR.2.2.1 hR.2.2.2 F.2.1 ?_ hS.2.2 hc hs
  · intro w hw
    rcases List.mem_cons.mp hw with rfl | hw
    · rfl
    · rcases List.mem_cons.mp hw with rfl | hw
      · rfl
      · exact hg w hw
  · intro t hA hz hq
    exact ⟨⟨σ, τ, o, hp, hP.kept (fun j q hj => hq q.1 (hP j q hj).lt), va_K.moved hA C.2.2.2.2.2.1⟩, Nat.le_trans hS.1 hz, fun q h1 h2 => (hq q (Nat.lt_of_lt_of_le h1 hS.1)).trans (hS.2.1 q h1 h2)⟩
end GCALL
/-- a contract, from the walk of its body -/
theorem ct_of {l : Launch} {y : MethodName} {ws ws' : List Cond} {cc : ByteArray} {maxL fr lo mc ms : Nat} {ret : Option FieldType} {As : List Value} {Γ : gG} {σ : gS} {τ : gT} {o : gO} {post : gPost} {px : gPX} (hl : l.stackTraces = false) (hy : plainName y.cls = true) (hw : ws = Cond.code y cc maxL ret :: ws') (hn : (lg_sl As).length ≤ maxL)
    (body : ∀ E : gE, gC E cc maxL y.cls ws → gF E post px mc ms ret → (∀ x ∈ (eC E).exceptionTable.toList, False) → eG E = Γ → eL E = l → eR E = { frames := fr, cells := mc, slots := ms, locals := lo } → G E 0 0 0 (lv_args 0 As) [] σ τ o) : Ct l y ws fr lo mc ms As Γ σ τ o post px := by
  intro sz
  refine vx_ofW (cc := cc) (maxL := maxL) (ret := ret) hy hw ?_
  intro p e s m args below meth c s₁ B hml ht hv
  obtain ⟨rfl, hsz, hB, hD0, hZ⟩ := hv
  subst hsz
  have hD : va_D (uAd Γ s.heap.size) (wW Γ z0 zT zO) := hD0.self
  have hlv := lv_entry As hn
  rw [lg_entry_eq]
  exact body (p, l, e, (headSpec ws { frames := fr, cells := mc, slots := ms, locals := lo }).room, s, m, As.toArray, below, meth, c, Γ, uAd Γ s.heap.size, _) ⟨B.exec, B.bytes, hml, findClass_of_methodNamed B.named, atoms_spec (ws := ws) B.pre, hB.2, fun q h => Or.inr h, hD, hZ, hl⟩ ⟨rfl, B.notSynchronized, B.returns⟩ ht rfl rfl rfl s.heap [] _ hB.1 va_S.rf (by rw [hml]; exact hlv)
/-- more room than it needs -/
theorem noX_kx {E : gE} {k n pc : Nat} {lv : List (Nat × Value)} {st : List Value} : ∀ X σ' τ' o', noX X σ' τ' o' → GX E k n pc lv st σ' τ' o' X := fun _ _ _ _ h => h.elim
/-- the answer v, the world σ1 τ1 o1 -/
def pE (v : Option Value) (σ1 : gS) (τ1 : gT) (o1 : gO) : gPost := fun v' σ' τ' o' => v' = v ∧ σ' = σ1 ∧ τ' = τ1 ∧ o' = o1
/-- it throws X, the world as it was -/
def pxE (X : String) (σ1 : gS) (τ1 : gT) (o1 : gO) : gPX := fun X' σ' τ' o' => X' = X ∧ σ' = σ1 ∧ τ' = τ1 ∧ o' = o1
def noP : gPost := fun _ _ _ _ => False
theorem g_at137 : (vx_atS RX0 137 "java/lang/IndexOutOfBoundsException" ["java/lang/RuntimeException", "java/lang/Exception"]).all vx_ot = true ∧ ∀ w ∈ (vx_atS RX0 137 "java/lang/IndexOutOfBoundsException" ["java/lang/RuntimeException", "java/lang/Exception"]).filter (fun w => !goodWord w), w ∈ Cond.castable "java/lang/IndexOutOfBoundsException" "java/lang/IndexOutOfBoundsException" :: gDc.map Cond.declares := ⟨by decide +kernel, by decide +kernel⟩
theorem g_at70 : (vx_atS RX0 70 "java/lang/IllegalArgumentException" ["java/lang/RuntimeException", "java/lang/Exception"]).all vx_ot = true ∧ ∀ w ∈ (vx_atS RX0 70 "java/lang/IllegalArgumentException" ["java/lang/RuntimeException", "java/lang/Exception"]).filter (fun w => !goodWord w), w ∈ Cond.castable "java/lang/IllegalArgumentException" "java/lang/IllegalArgumentException" :: gDc.map Cond.declares := ⟨by decide +kernel, by decide +kernel⟩
theorem g_at77 : (vx_atS RX0 77 "java/lang/IllegalStateException" ["java/lang/RuntimeException", "java/lang/Exception"]).all vx_ot = true ∧ ∀ w ∈ (vx_atS RX0 77 "java/lang/IllegalStateException" ["java/lang/RuntimeException", "java/lang/Exception"]).filter (fun w => !goodWord w), w ∈ Cond.castable "java/lang/IllegalStateException" "java/lang/IllegalStateException" :: gDc.map Cond.declares := ⟨by decide +kernel, by decide +kernel⟩
section GCALL2
variable {E : gE} {cc : ByteArray} {nL : Nat} {own : String} {ws : List Cond} {k n pc : Nat} {lv : List (Nat × Value)} {st : List Value} {σ σ1 : gS} {τ τ1 : gT} {o o1 : gO}
variable {post : gPost} {px : gPX} {fr lo mc ms idx maxL na : Nat} {y : MethodName} {bytes : ByteArray} {ret : Option FieldType} {wy wy' : List Cond} {Cl : String} {T : u_T} {N ci q0 b : Nat} {fs : List Value} {As rest : List Value}
theorem g_callVEi {r : Int32} (C : gC E cc nL own ws) (d : decode cc pc = .ok (.invokevirtual idx, 3)) (hM : Ct (eL E) y wy fr lo mc ms (.ref b :: As) (eG E) σ τ o (pE (some (.int r)) σ1 τ1 o1) (noX)) (hT : GoodIn ws (wsV own idx Cl y wy)) (hw : wy = Cond.code y bytes maxL ret :: wy') (hna : As.length = na) (hy : y.cls = Cl ∧ y.cls ≠ "java/lang/invoke/MethodHandle" ∧ y.cls ≠ "java/lang/invoke/VarHandle" ∧ (parseMethodDescriptor y.desc).map (fun d => d.parameters.length) = some na) (hq : (wW (eG E) σ τ o)[q0]? = some (b, .inr (ci, fs))) (hc : vwCl[ci]? = some (Cl, T, N)) (hst : st = As.reverse ++ .ref b :: rest) (hW : (rest.map fun v => v.category).sum ≤ 8) (hR : fr + 1 ≤ (eR E).frames ∧ 8 + (maxL + 11) + lo ≤ (eR E).locals) (hf : k + mc ≤ (eR E).cells ∧ n + ms ≤ (eR E).slots) (kk : G E (k + mc) (n + ms) (pc + 3) lv (.int r :: rest) σ1 τ1 o1) : G E k n pc lv st σ τ o := g_callV C d hM hT hw hna hy hq hc hst hW hR hf noX_kx (fun v σ' τ' o' h => by
  obtain ⟨rfl, rfl, rfl, rfl⟩ := h
  exact kk)
theorem g_callVEl {r : Int64} (C : gC E cc nL own ws) (d : decode cc pc = .ok (.invokevirtual idx, 3)) (hM : Ct (eL E) y wy fr lo mc ms (.ref b :: As) (eG E) σ τ o (pE (some (.long r)) σ1 τ1 o1) (noX)) (hT : GoodIn ws (wsV own idx Cl y wy)) (hw : wy = Cond.code y bytes maxL ret :: wy') (hna : As.length = na) (hy : y.cls = Cl ∧ y.cls ≠ "java/lang/invoke/MethodHandle" ∧ y.cls ≠ "java/lang/invoke/VarHandle" ∧ (parseMethodDescriptor y.desc).map (fun d => d.parameters.length) = some na) (hq : (wW (eG E) σ τ o)[q0]? = some (b, .inr (ci, fs))) (hc : vwCl[ci]? = some (Cl, T, N)) (hst : st = As.reverse ++ .ref b :: rest) (hW : (rest.map fun v => v.category).sum ≤ 8) (hR : fr + 1 ≤ (eR E).frames ∧ 8 + (maxL + 11) + lo ≤ (eR E).locals) (hf : k + mc ≤ (eR E).cells ∧ n + ms ≤ (eR E).slots) (kk : G E (k + mc) (n + ms) (pc + 3) lv (.long r :: rest) σ1 τ1 o1) : G E k n pc lv st σ τ o := g_callV C d hM hT hw hna hy hq hc hst hW hR hf noX_kx (fun v σ' τ' o' h => by
  obtain ⟨rfl, rfl, rfl, rfl⟩ := h
  exact kk)
theorem g_callVEd {r : UInt64} (C : gC E cc nL own ws) (d : decode cc pc = .ok (.invokevirtual idx, 3)) (hM : Ct (eL E) y wy fr lo mc ms (.ref b :: As) (eG E) σ τ o (pE (some (.double r)) σ1 τ1 o1) (noX)) (hT : GoodIn ws (wsV own idx Cl y wy)) (hw : wy = Cond.code y bytes maxL ret :: wy') (hna : As.length = na) (hy : y.cls = Cl ∧ y.cls ≠ "java/lang/invoke/MethodHandle" ∧ y.cls ≠ "java/lang/invoke/VarHandle" ∧ (parseMethodDescriptor y.desc).map (fun d => d.parameters.length) = some na) (hq : (wW (eG E) σ τ o)[q0]? = some (b, .inr (ci, fs))) (hc : vwCl[ci]? = some (Cl, T, N)) (hst : st = As.reverse ++ .ref b :: rest) (hW : (rest.map fun v => v.category).sum ≤ 8) (hR : fr + 1 ≤ (eR E).frames ∧ 8 + (maxL + 11) + lo ≤ (eR E).locals) (hf : k + mc ≤ (eR E).cells ∧ n + ms ≤ (eR E).slots) (kk : G E (k + mc) (n + ms) (pc + 3) lv (.double r :: rest) σ1 τ1 o1) : G E k n pc lv st σ τ o := g_callV C d hM hT hw hna hy hq hc hst hW hR hf noX_kx (fun v σ' τ' o' h => by
  obtain ⟨rfl, rfl, rfl, rfl⟩ := h
  exact kk)
theorem g_callVEv (C : gC E cc nL own ws) (d : decode cc pc = .ok (.invokevirtual idx, 3)) (hM : Ct (eL E) y wy fr lo mc ms (.ref b :: As) (eG E) σ τ o (pE none σ1 τ1 o1) (noX)) (hT : GoodIn ws (wsV own idx Cl y wy)) (hw : wy = Cond.code y bytes maxL ret :: wy') (hna : As.length = na) (hy : y.cls = Cl ∧ y.cls ≠ "java/lang/invoke/MethodHandle" ∧ y.cls ≠ "java/lang/invoke/VarHandle" ∧ (parseMethodDescriptor y.desc).map (fun d => d.parameters.length) = some na) (hq : (wW (eG E) σ τ o)[q0]? = some (b, .inr (ci, fs))) (hc : vwCl[ci]? = some (Cl, T, N)) (hst : st = As.reverse ++ .ref b :: rest) (hW : (rest.map fun v => v.category).sum ≤ 8) (hR : fr + 1 ≤ (eR E).frames ∧ 8 + (maxL + 11) + lo ≤ (eR E).locals) (hf : k + mc ≤ (eR E).cells ∧ n + ms ≤ (eR E).slots) (kk : G E (k + mc) (n + ms) (pc + 3) lv rest σ1 τ1 o1) : G E k n pc lv st σ τ o := g_callV C d hM hT hw hna hy hq hc hst hW hR hf noX_kx (fun v σ' τ' o' h => by
  obtain ⟨rfl, rfl, rfl, rfl⟩ := h
  exact kk)
theorem g_callVi {P : Int32 → gS → gT → gO → Prop} (C : gC E cc nL own ws) (d : decode cc pc = .ok (.invokevirtual idx, 3)) (hM : Ct (eL E) y wy fr lo mc ms (.ref b :: As) (eG E) σ τ o (pI P) (px)) (hT : GoodIn ws (wsV own idx Cl y wy)) (hw : wy = Cond.code y bytes maxL ret :: wy') (hna : As.length = na) (hy : y.cls = Cl ∧ y.cls ≠ "java/lang/invoke/MethodHandle" ∧ y.cls ≠ "java/lang/invoke/VarHandle" ∧ (parseMethodDescriptor y.desc).map (fun d => d.parameters.length) = some na) (hq : (wW (eG E) σ τ o)[q0]? = some (b, .inr (ci, fs))) (hc : vwCl[ci]? = some (Cl, T, N)) (hst : st = As.reverse ++ .ref b :: rest) (hW : (rest.map fun v => v.category).sum ≤ 8) (hR : fr + 1 ≤ (eR E).frames ∧ 8 + (maxL + 11) + lo ≤ (eR E).locals) (hf : k + mc ≤ (eR E).cells ∧ n + ms ≤ (eR E).slots) (kx : ∀ X σ' τ' o', px X σ' τ' o' → GX E (k + mc) (n + ms) pc lv rest σ' τ' o' X) (kk : ∀ r σ' τ' o', P r σ' τ' o' → G E (k + mc) (n + ms) (pc + 3) lv (.int r :: rest) σ' τ' o') : G E k n pc lv st σ τ o := g_callV C d hM hT hw hna hy hq hc hst hW hR hf kx (fun v σ' τ' o' h => by
  obtain ⟨r, rfl, h⟩ := h
  exact kk r σ' τ' o' h)
theorem g_callVl {P : Int64 → gS → gT → gO → Prop} (C : gC E cc nL own ws) (d : decode cc pc = .ok (.invokevirtual idx, 3)) (hM : Ct (eL E) y wy fr lo mc ms (.ref b :: As) (eG E) σ τ o (pJ P) (px)) (hT : GoodIn ws (wsV own idx Cl y wy)) (hw : wy = Cond.code y bytes maxL ret :: wy') (hna : As.length = na) (hy : y.cls = Cl ∧ y.cls ≠ "java/lang/invoke/MethodHandle" ∧ y.cls ≠ "java/lang/invoke/VarHandle" ∧ (parseMethodDescriptor y.desc).map (fun d => d.parameters.length) = some na) (hq : (wW (eG E) σ τ o)[q0]? = some (b, .inr (ci, fs))) (hc : vwCl[ci]? = some (Cl, T, N)) (hst : st = As.reverse ++ .ref b :: rest) (hW : (rest.map fun v => v.category).sum ≤ 8) (hR : fr + 1 ≤ (eR E).frames ∧ 8 + (maxL + 11) + lo ≤ (eR E).locals) (hf : k + mc ≤ (eR E).cells ∧ n + ms ≤ (eR E).slots) (kx : ∀ X σ' τ' o', px X σ' τ' o' → GX E (k + mc) (n + ms) pc lv rest σ' τ' o' X) (kk : ∀ r σ' τ' o', P r σ' τ' o' → G E (k + mc) (n + ms) (pc + 3) lv (.long r :: rest) σ' τ' o') : G E k n pc lv st σ τ o := g_callV C d hM hT hw hna hy hq hc hst hW hR hf kx (fun v σ' τ' o' h => by
  obtain ⟨r, rfl, h⟩ := h
  exact kk r σ' τ' o' h)
theorem g_callVd {P : UInt64 → gS → gT → gO → Prop} (C : gC E cc nL own ws) (d : decode cc pc = .ok (.invokevirtual idx, 3)) (hM : Ct (eL E) y wy fr lo mc ms (.ref b :: As) (eG E) σ τ o (pD P) (px)) (hT : GoodIn ws (wsV own idx Cl y wy)) (hw : wy = Cond.code y bytes maxL ret :: wy') (hna : As.length = na) (hy : y.cls = Cl ∧ y.cls ≠ "java/lang/invoke/MethodHandle" ∧ y.cls ≠ "java/lang/invoke/VarHandle" ∧ (parseMethodDescriptor y.desc).map (fun d => d.parameters.length) = some na) (hq : (wW (eG E) σ τ o)[q0]? = some (b, .inr (ci, fs))) (hc : vwCl[ci]? = some (Cl, T, N)) (hst : st = As.reverse ++ .ref b :: rest) (hW : (rest.map fun v => v.category).sum ≤ 8) (hR : fr + 1 ≤ (eR E).frames ∧ 8 + (maxL + 11) + lo ≤ (eR E).locals) (hf : k + mc ≤ (eR E).cells ∧ n + ms ≤ (eR E).slots) (kx : ∀ X σ' τ' o', px X σ' τ' o' → GX E (k + mc) (n + ms) pc lv rest σ' τ' o' X) (kk : ∀ r σ' τ' o', P r σ' τ' o' → G E (k + mc) (n + ms) (pc + 3) lv (.double r :: rest) σ' τ' o') : G E k n pc lv st σ τ o := g_callV C d hM hT hw hna hy hq hc hst hW hR hf kx (fun v σ' τ' o' h => by
  obtain ⟨r, rfl, h⟩ := h
  exact kk r σ' τ' o' h)
theorem g_callVv {P : gS → gT → gO → Prop} (C : gC E cc nL own ws) (d : decode cc pc = .ok (.invokevirtual idx, 3)) (hM : Ct (eL E) y wy fr lo mc ms (.ref b :: As) (eG E) σ τ o (pV P) (px)) (hT : GoodIn ws (wsV own idx Cl y wy)) (hw : wy = Cond.code y bytes maxL ret :: wy') (hna : As.length = na) (hy : y.cls = Cl ∧ y.cls ≠ "java/lang/invoke/MethodHandle" ∧ y.cls ≠ "java/lang/invoke/VarHandle" ∧ (parseMethodDescriptor y.desc).map (fun d => d.parameters.length) = some na) (hq : (wW (eG E) σ τ o)[q0]? = some (b, .inr (ci, fs))) (hc : vwCl[ci]? = some (Cl, T, N)) (hst : st = As.reverse ++ .ref b :: rest) (hW : (rest.map fun v => v.category).sum ≤ 8) (hR : fr + 1 ≤ (eR E).frames ∧ 8 + (maxL + 11) + lo ≤ (eR E).locals) (hf : k + mc ≤ (eR E).cells ∧ n + ms ≤ (eR E).slots) (kx : ∀ X σ' τ' o', px X σ' τ' o' → GX E (k + mc) (n + ms) pc lv rest σ' τ' o' X) (kk : ∀ σ' τ' o', P σ' τ' o' → G E (k + mc) (n + ms) (pc + 3) lv rest σ' τ' o') : G E k n pc lv st σ τ o := g_callV C d hM hT hw hna hy hq hc hst hW hR hf kx (fun v σ' τ' o' h => by
  obtain ⟨rfl, h⟩ := h
  exact kk σ' τ' o' h)
theorem g_callVX {post2 : gPost} {px2 : gPX} {mc2 ms2 : Nat} {ret2 : Option FieldType} {X : String} (C : gC E cc nL own ws) (F : gF E post2 px2 mc2 ms2 ret2) (ht : ∀ x ∈ (eC E).exceptionTable.toList, False) (d : decode cc pc = .ok (.invokevirtual idx, 3)) (hM : Ct (eL E) y wy fr lo mc ms (.ref b :: As) (eG E) σ τ o (noP) (pxE X σ1 τ1 o1)) (hT : GoodIn ws (wsV own idx Cl y wy)) (hw : wy = Cond.code y bytes maxL ret :: wy') (hna : As.length = na) (hy : y.cls = Cl ∧ y.cls ≠ "java/lang/invoke/MethodHandle" ∧ y.cls ≠ "java/lang/invoke/VarHandle" ∧ (parseMethodDescriptor y.desc).map (fun d => d.parameters.length) = some na) (hq : (wW (eG E) σ τ o)[q0]? = some (b, .inr (ci, fs))) (hc : vwCl[ci]? = some (Cl, T, N)) (hst : st = As.reverse ++ .ref b :: rest) (hW : (rest.map fun v => v.category).sum ≤ 8) (hR : fr + 1 ≤ (eR E).frames ∧ 8 + (maxL + 11) + lo ≤ (eR E).locals) (hf : k + mc ≤ (eR E).cells ∧ n + ms ≤ (eR E).slots) (h1 : k + mc ≤ mc2) (h2 : n + ms ≤ ms2) (hp : px2 X σ1 τ1 o1) : G E k n pc lv st σ τ o := g_callV C d hM hT hw hna hy hq hc hst hW hR hf (fun X' σ' τ' o' h => by
  obtain ⟨rfl, rfl, rfl, rfl⟩ := h
  exact gx_out C F ht h1 h2 hp) (fun v σ' τ' o' h => h.elim)
theorem g_callSEi {r : Int32} (C : gC E cc nL own ws) (d : decode cc pc = .ok (.invokestatic idx, 3)) (hM : Ct (eL E) y wy fr lo mc ms As (eG E) σ τ o (pE (some (.int r)) σ1 τ1 o1) (noX)) (hT : GoodIn ws (va_wsS own idx y wy)) (hw : wy = Cond.code y bytes maxL ret :: wy') (hna : As.length = na) (hy : y.cls ≠ "java/lang/invoke/MethodHandle" ∧ y.cls ≠ "java/lang/invoke/VarHandle" ∧ (parseMethodDescriptor y.desc).map (fun d => d.parameters.length) = some na) (hst : st = As.reverse ++ rest) (hW : (rest.map fun v => v.category).sum ≤ 8) (hR : fr + 1 ≤ (eR E).frames ∧ 8 + (maxL + 11) + lo ≤ (eR E).locals) (hf : k + mc ≤ (eR E).cells ∧ n + ms ≤ (eR E).slots) (kk : G E (k + mc) (n + ms) (pc + 3) lv (.int r :: rest) σ1 τ1 o1) : G E k n pc lv st σ τ o := g_callS C d hM hT hw hna hy hst hW hR hf noX_kx (fun v σ' τ' o' h => by
  obtain ⟨rfl, rfl, rfl, rfl⟩ := h
  exact kk)
theorem g_callSEl {r : Int64} (C : gC E cc nL own ws) (d : decode cc pc = .ok (.invokestatic idx, 3)) (hM : Ct (eL E) y wy fr lo mc ms As (eG E) σ τ o (pE (some (.long r)) σ1 τ1 o1) (noX)) (hT : GoodIn ws (va_wsS own idx y wy)) (hw : wy = Cond.code y bytes maxL ret :: wy') (hna : As.length = na) (hy : y.cls ≠ "java/lang/invoke/MethodHandle" ∧ y.cls ≠ "java/lang/invoke/VarHandle" ∧ (parseMethodDescriptor y.desc).map (fun d => d.parameters.length) = some na) (hst : st = As.reverse ++ rest) (hW : (rest.map fun v => v.category).sum ≤ 8) (hR : fr + 1 ≤ (eR E).frames ∧ 8 + (maxL + 11) + lo ≤ (eR E).locals) (hf : k + mc ≤ (eR E).cells ∧ n + ms ≤ (eR E).slots) (kk : G E (k + mc) (n + ms) (pc + 3) lv (.long r :: rest) σ1 τ1 o1) : G E k n pc lv st σ τ o := g_callS C d hM hT hw hna hy hst hW hR hf noX_kx (fun v σ' τ' o' h => by
  obtain ⟨rfl, rfl, rfl, rfl⟩ := h
  exact kk)
theorem g_callSEd {r : UInt64} (C : gC E cc nL own ws) (d : decode cc pc = .ok (.invokestatic idx, 3)) (hM : Ct (eL E) y wy fr lo mc ms As (eG E) σ τ o (pE (some (.double r)) σ1 τ1 o1) (noX)) (hT : GoodIn ws (va_wsS own idx y wy)) (hw : wy = Cond.code y bytes maxL ret :: wy') (hna : As.length = na) (hy : y.cls ≠ "java/lang/invoke/MethodHandle" ∧ y.cls ≠ "java/lang/invoke/VarHandle" ∧ (parseMethodDescriptor y.desc).map (fun d => d.parameters.length) = some na) (hst : st = As.reverse ++ rest) (hW : (rest.map fun v => v.category).sum ≤ 8) (hR : fr + 1 ≤ (eR E).frames ∧ 8 + (maxL + 11) + lo ≤ (eR E).locals) (hf : k + mc ≤ (eR E).cells ∧ n + ms ≤ (eR E).slots) (kk : G E (k + mc) (n + ms) (pc + 3) lv (.double r :: rest) σ1 τ1 o1) : G E k n pc lv st σ τ o := g_callS C d hM hT hw hna hy hst hW hR hf noX_kx (fun v σ' τ' o' h => by
  obtain ⟨rfl, rfl, rfl, rfl⟩ := h
  exact kk)
theorem g_callSEv (C : gC E cc nL own ws) (d : decode cc pc = .ok (.invokestatic idx, 3)) (hM : Ct (eL E) y wy fr lo mc ms As (eG E) σ τ o (pE none σ1 τ1 o1) (noX)) (hT : GoodIn ws (va_wsS own idx y wy)) (hw : wy = Cond.code y bytes maxL ret :: wy') (hna : As.length = na) (hy : y.cls ≠ "java/lang/invoke/MethodHandle" ∧ y.cls ≠ "java/lang/invoke/VarHandle" ∧ (parseMethodDescriptor y.desc).map (fun d => d.parameters.length) = some na) (hst : st = As.reverse ++ rest) (hW : (rest.map fun v => v.category).sum ≤ 8) (hR : fr + 1 ≤ (eR E).frames ∧ 8 + (maxL + 11) + lo ≤ (eR E).locals) (hf : k + mc ≤ (eR E).cells ∧ n + ms ≤ (eR E).slots) (kk : G E (k + mc) (n + ms) (pc + 3) lv rest σ1 τ1 o1) : G E k n pc lv st σ τ o := g_callS C d hM hT hw hna hy hst hW hR hf noX_kx (fun v σ' τ' o' h => by
  obtain ⟨rfl, rfl, rfl, rfl⟩ := h
  exact kk)
theorem g_callSi {P : Int32 → gS → gT → gO → Prop} (C : gC E cc nL own ws) (d : decode cc pc = .ok (.invokestatic idx, 3)) (hM : Ct (eL E) y wy fr lo mc ms As (eG E) σ τ o (pI P) (px)) (hT : GoodIn ws (va_wsS own idx y wy)) (hw : wy = Cond.code y bytes maxL ret :: wy') (hna : As.length = na) (hy : y.cls ≠ "java/lang/invoke/MethodHandle" ∧ y.cls ≠ "java/lang/invoke/VarHandle" ∧ (parseMethodDescriptor y.desc).map (fun d => d.parameters.length) = some na) (hst : st = As.reverse ++ rest) (hW : (rest.map fun v => v.category).sum ≤ 8) (hR : fr + 1 ≤ (eR E).frames ∧ 8 + (maxL + 11) + lo ≤ (eR E).locals) (hf : k + mc ≤ (eR E).cells ∧ n + ms ≤ (eR E).slots) (kx : ∀ X σ' τ' o', px X σ' τ' o' → GX E (k + mc) (n + ms) pc lv rest σ' τ' o' X) (kk : ∀ r σ' τ' o', P r σ' τ' o' → G E (k + mc) (n + ms) (pc + 3) lv (.int r :: rest) σ' τ' o') : G E k n pc lv st σ τ o := g_callS C d hM hT hw hna hy hst hW hR hf kx (fun v σ' τ' o' h => by
  obtain ⟨r, rfl, h⟩ := h
  exact kk r σ' τ' o' h)
theorem g_callSl {P : Int64 → gS → gT → gO → Prop} (C : gC E cc nL own ws) (d : decode cc pc = .ok (.invokestatic idx, 3)) (hM : Ct (eL E) y wy fr lo mc ms As (eG E) σ τ o (pJ P) (px)) (hT : GoodIn ws (va_wsS own idx y wy)) (hw : wy = Cond.code y bytes maxL ret :: wy') (hna : As.length = na) (hy : y.cls ≠ "java/lang/invoke/MethodHandle" ∧ y.cls ≠ "java/lang/invoke/VarHandle" ∧ (parseMethodDescriptor y.desc).map (fun d => d.parameters.length) = some na) (hst : st = As.reverse ++ rest) (hW : (rest.map fun v => v.category).sum ≤ 8) (hR : fr + 1 ≤ (eR E).frames ∧ 8 + (maxL + 11) + lo ≤ (eR E).locals) (hf : k + mc ≤ (eR E).cells ∧ n + ms ≤ (eR E).slots) (kx : ∀ X σ' τ' o', px X σ' τ' o' → GX E (k + mc) (n + ms) pc lv rest σ' τ' o' X) (kk : ∀ r σ' τ' o', P r σ' τ' o' → G E (k + mc) (n + ms) (pc + 3) lv (.long r :: rest) σ' τ' o') : G E k n pc lv st σ τ o := g_callS C d hM hT hw hna hy hst hW hR hf kx (fun v σ' τ' o' h => by
  obtain ⟨r, rfl, h⟩ := h
  exact kk r σ' τ' o' h)
theorem g_callSd {P : UInt64 → gS → gT → gO → Prop} (C : gC E cc nL own ws) (d : decode cc pc = .ok (.invokestatic idx, 3)) (hM : Ct (eL E) y wy fr lo mc ms As (eG E) σ τ o (pD P) (px)) (hT : GoodIn ws (va_wsS own idx y wy)) (hw : wy = Cond.code y bytes maxL ret :: wy') (hna : As.length = na) (hy : y.cls ≠ "java/lang/invoke/MethodHandle" ∧ y.cls ≠ "java/lang/invoke/VarHandle" ∧ (parseMethodDescriptor y.desc).map (fun d => d.parameters.length) = some na) (hst : st = As.reverse ++ rest) (hW : (rest.map fun v => v.category).sum ≤ 8) (hR : fr + 1 ≤ (eR E).frames ∧ 8 + (maxL + 11) + lo ≤ (eR E).locals) (hf : k + mc ≤ (eR E).cells ∧ n + ms ≤ (eR E).slots) (kx : ∀ X σ' τ' o', px X σ' τ' o' → GX E (k + mc) (n + ms) pc lv rest σ' τ' o' X) (kk : ∀ r σ' τ' o', P r σ' τ' o' → G E (k + mc) (n + ms) (pc + 3) lv (.double r :: rest) σ' τ' o') : G E k n pc lv st σ τ o := g_callS C d hM hT hw hna hy hst hW hR hf kx (fun v σ' τ' o' h => by
  obtain ⟨r, rfl, h⟩ := h
  exact kk r σ' τ' o' h)
theorem g_callSv {P : gS → gT → gO → Prop} (C : gC E cc nL own ws) (d : decode cc pc = .ok (.invokestatic idx, 3)) (hM : Ct (eL E) y wy fr lo mc ms As (eG E) σ τ o (pV P) (px)) (hT : GoodIn ws (va_wsS own idx y wy)) (hw : wy = Cond.code y bytes maxL ret :: wy') (hna : As.length = na) (hy : y.cls ≠ "java/lang/invoke/MethodHandle" ∧ y.cls ≠ "java/lang/invoke/VarHandle" ∧ (parseMethodDescriptor y.desc).map (fun d => d.parameters.length) = some na) (hst : st = As.reverse ++ rest) (hW : (rest.map fun v => v.category).sum ≤ 8) (hR : fr + 1 ≤ (eR E).frames ∧ 8 + (maxL + 11) + lo ≤ (eR E).locals) (hf : k + mc ≤ (eR E).cells ∧ n + ms ≤ (eR E).slots) (kx : ∀ X σ' τ' o', px X σ' τ' o' → GX E (k + mc) (n + ms) pc lv rest σ' τ' o' X) (kk : ∀ σ' τ' o', P σ' τ' o' → G E (k + mc) (n + ms) (pc + 3) lv rest σ' τ' o') : G E k n pc lv st σ τ o := g_callS C d hM hT hw hna hy hst hW hR hf kx (fun v σ' τ' o' h => by
  obtain ⟨rfl, h⟩ := h
  exact kk σ' τ' o' h)
theorem g_callSX {post2 : gPost} {px2 : gPX} {mc2 ms2 : Nat} {ret2 : Option FieldType} {X : String} (C : gC E cc nL own ws) (F : gF E post2 px2 mc2 ms2 ret2) (ht : ∀ x ∈ (eC E).exceptionTable.toList, False) (d : decode cc pc = .ok (.invokestatic idx, 3)) (hM : Ct (eL E) y wy fr lo mc ms As (eG E) σ τ o (noP) (pxE X σ1 τ1 o1)) (hT : GoodIn ws (va_wsS own idx y wy)) (hw : wy = Cond.code y bytes maxL ret :: wy') (hna : As.length = na) (hy : y.cls ≠ "java/lang/invoke/MethodHandle" ∧ y.cls ≠ "java/lang/invoke/VarHandle" ∧ (parseMethodDescriptor y.desc).map (fun d => d.parameters.length) = some na) (hst : st = As.reverse ++ rest) (hW : (rest.map fun v => v.category).sum ≤ 8) (hR : fr + 1 ≤ (eR E).frames ∧ 8 + (maxL + 11) + lo ≤ (eR E).locals) (hf : k + mc ≤ (eR E).cells ∧ n + ms ≤ (eR E).slots) (h1 : k + mc ≤ mc2) (h2 : n + ms ≤ ms2) (hp : px2 X σ1 τ1 o1) : G E k n pc lv st σ τ o := g_callS C d hM hT hw hna hy hst hW hR hf (fun X' σ' τ' o' h => by
  obtain ⟨rfl, rfl, rfl, rfl⟩ := h
  exact gx_out C F ht h1 h2 hp) (fun v σ' τ' o' h => h.elim)
end GCALL2
theorem g_topi {E : gE} {k n pc : Nat} {lv : List (Nat × Value)} {st : List Value} {σ : gS} {τ : gT} {o : gO} {x y : Int32} (h : x = y) (kk : G E k n pc lv (.int y :: st) σ τ o) : G E k n pc lv (.int x :: st) σ τ o := by rw [h]; exact kk
theorem nI_i1 (a : Nat) : nI a + Int32.ofInt 1 = nI (a + 1) := nI_1 a
theorem nI_i2 (a : Nat) : nI a + Int32.ofInt 2 = nI (a + 2) := (nI_add a 2)
theorem nI_im (a : Nat) : nI (a + 1) + Int32.ofInt (-1) = nI a := pk_m1 a
end
section
/-! ANY WORLD: the world is a list of cells w, its addresses variables; cells may be made (they go in front). A script (x) may be read that lies outside. -/
abbrev jS : Type := Option (Nat × Nat × (Nat → Int32))
/-- the script outside of A: its address, its length, what it holds -/
def jX (x : jS) (A : Nat → Prop) (U : State) (H : Heap) : Prop := match x with
  | none => True
  | some (b, L, xs) => va_X b L xs U H ∧ b < H.size ∧ ¬ A b
/-- what is asked of the tables beside the words: boolean[][] stands, the Sim's constructor is a nest mate's -/
def jN (U : State) : Prop := va_AOA .boolean U ∧ va_Nw (.methodLinkNest RL 100 yX1_init RL) U
theorem jN_warm {s U : State} (h : jN s) (hW : s.WarmedH U.vm) : jN U := ⟨h.1.moved hW.alike, va_Nw.warmM hW h.2⟩
abbrev jC0 (E : gE) : ClassId := (eG E).2.2.1
abbrev jC1 (E : gE) : ClassId := (eG E).2.2.2.1
abbrev jC2 (E : gE) : ClassId := (eG E).2.2.2.2.1
def J (E : gE) (k n pc : Nat) (lv : List (Nat × Value)) (st : List Value) (w : va_W) : Prop :=
  ∀ (H : Heap) (locs : List Loc) (ls : Array Slot), va_P (eG E).1 vwCl w H → va_D (eA E) w → va_S (eA E) (eS E).heap H locs → lv_has ls (eC E).maxLocals lv →
    W (eP E) (eL E) (eE E) (eR E) (eS E) (eM E) (eV E) (eB E) (eMt E) (eC E) H locs k n (eQ E) (F0 (eM E) pc ls st)
def jC (E : gE) (cc : ByteArray) (nL : Nat) (own : String) (ws : List Cond) (x : jS) : Prop :=
  (eP E).tables.exec = Jvm.exec ∧ (eC E).code = cc ∧ (eC E).maxLocals = nL ∧ (eS E).vm.findClass own = some (eM E).cls ∧ (∀ w ∈ ws, w.before (eV E) (eS E) = true) ∧
  va_K (eG E).1 vwCl (gTy (eG E)) (eS E) ∧ (∀ q : Nat, (eS E).heap.size ≤ q → eA E q) ∧ uZ (eA E) (eS E) (eS E).heap ∧ jN (eS E) ∧ jX x (eA E) (eS E) (eS E).heap
abbrev jPost : Type := Option Value → va_W → Prop
def jQ (Γ : gG) (A : Nat → Prop) (post : jPost) : Array Value → State → Outcome → State → Prop := fun _ st oc t => (∃ (v : Option Value) (w' : va_W), oc = .returned v ∧ post v w' ∧ va_P Γ.1 vwCl w' t.heap ∧ va_K Γ.1 vwCl (gTy Γ) t ∧ va_D A w') ∧ va_F A st t
def jF (E : gE) (post : jPost) (mc ms : Nat) (ret : Option FieldType) : Prop :=
  eQ E = MQ (eB E) (jQ (eG E) (eA E) post) (eV E) (eS E) mc ms (eA E) ∧ (eMt E).locks = false ∧ (eMt E).sig.returnType = ret
def jP (Γ : gG) (w : va_W) (x : jS) (sz : Nat) (U : State) : Prop := U.heap.size = sz ∧ va_P Γ.1 vwCl w U.heap ∧ va_K Γ.1 vwCl (gTy Γ) U ∧ va_D (fun _ => True) w ∧ uZ (va_A w sz) U U.heap ∧ jN U ∧ jX x (va_A w sz) U U.heap
/-- a method's contract over any world -/
def CtJ (l : Launch) (y : MethodName) (ws : List Cond) (fr lo mc ms : Nat) (As : List Value) (Γ : gG) (x : jS) (w : va_W) (post : jPost) : Prop :=
  ∀ sz : Nat, Met l y ws { frames := fr, cells := mc, slots := ms, locals := lo } (va_Pc As (jP Γ w x sz)) (jQ Γ (va_A w sz) post) mc ms (va_A w sz)
/-- the answer v, the world w1 -/
def jE (v : Option Value) (w1 : va_W) : jPost := fun v' w' => v' = v ∧ w' = w1
theorem jX_pass {x : jS} {A B : Nat → Prop} {s U : State} {H : Heap} {locs : List Loc} (h : jX x A s s.heap) (hS : va_S A s.heap H locs) (hal : s.vm.Alike U.vm) (hU : U.heap = H) (hBA : ∀ q, B q → A q) : jX x B U U.heap := by
  match x, h with
  | none, _ => exact trivial
  | some (b, L, xs), ⟨h1, h2, h3⟩ =>
    rw [hU]
    exact ⟨va_X.moved hal (h1.kept (hS.2.1 b h2 h3)), Nat.lt_of_lt_of_le h2 hS.1, fun q => h3 (hBA b q)⟩
theorem jX_none {x : jS} {A : Nat → Prop} {s : State} {H : Heap} (_ : jX x A s H) : jX none A s H := trivial
theorem jP_blind {As : List Value} {Γ : gG} {x : jS} {sz : Nat} {w : va_W} : FrameBlind (va_Pc As (jP Γ w x sz)) := fun a U g mk q => by
  obtain ⟨q0, q1, qP, qK, qD, ⟨q2, q3, q4, q5, q6⟩, q7, q8⟩ := q
  refine ⟨q0, q1, qP, va_K.moved (u := U) (U := U.calling g mk a) (Vm.Alike.refl U.vm) qK, qD, ⟨vx_Zq.moved (u := U) (U := U.calling g mk a) (Vm.Alike.refl U.vm) q2, vx_Zq.moved (u := U) (U := U.calling g mk a) (Vm.Alike.refl U.vm) q3, fun q hq => ?_, fun X hX => va_Nw.same (u := U) (U := U.calling g mk a) rfl rfl (q5 X hX), fun x hx => va_Nw.same (u := U) (U := U.calling g mk a) rfl rfl (q6 x hx)⟩, ⟨va_AOA.moved (u := U) (U := U.calling g mk a) (Vm.Alike.refl U.vm) q7.1, va_Nw.same (u := U) (U := U.calling g mk a) rfl rfl q7.2⟩, ?_⟩
  · obtain ⟨sa, hs⟩ := q4 q hq
    exact ⟨sa, vk_R.same (u := U) (U := U.calling g mk a) rfl hs⟩
  · match x, q8 with
    | none, _ => exact trivial
    | some (b, L, xs), ⟨h1, h2, h3⟩ => exact ⟨va_X.moved (u := U) (U := U.calling g mk a) (Vm.Alike.refl U.vm) h1, h2, h3⟩
theorem jD_any {A : Nat → Prop} {w1 w2 : va_W} (h : va_D A w1) (e : w1.map Prod.fst = w2.map Prod.fst) : va_D A w2 := uD_map h e
section JR
variable {E : gE} {cc : ByteArray} {nL : Nat} {own : String} {ws : List Cond} {x : jS} {k n pc : Nat} {lv : List (Nat × Value)} {st : List Value} {w : va_W}
theorem j_iconst (C : jC E cc nL own ws x) {m : Int} {v : Int32} (d : decode cc pc = .ok (.iconst m, 1)) (hv : Int32.ofInt m = v) (kk : J E k n (pc + 1) lv (.int v :: st) w) : J E k n pc lv (st) w := fun H locs ls hP hD hS hl => lv_iconst C.1 C.2.1 d hv (kk H locs ls hP hD hS hl)
theorem j_bipush (C : jC E cc nL own ws x) {m : Int} {v : Int32} (d : decode cc pc = .ok (.bipush m, 2)) (hv : (Int8.ofInt m).toInt32 = v) (kk : J E k n (pc + 2) lv (.int v :: st) w) : J E k n pc lv (st) w := fun H locs ls hP hD hS hl => lv_bipush C.1 C.2.1 d hv (kk H locs ls hP hD hS hl)
theorem j_sipush (C : jC E cc nL own ws x) {m : Int} {v : Int32} (d : decode cc pc = .ok (.sipush m, 3)) (hv : (Int16.ofInt m).toInt32 = v) (kk : J E k n (pc + 3) lv (.int v :: st) w) : J E k n pc lv (st) w := fun H locs ls hP hD hS hl => lv_sipush C.1 C.2.1 d hv (kk H locs ls hP hD hS hl)
theorem j_lconst (C : jC E cc nL own ws x) {m : Fin 2} {v : Int64} (d : decode cc pc = .ok (.lconst m, 1)) (hv : Int64.ofNat (m : Nat) = v) (kk : J E k n (pc + 1) lv (.long v :: st) w) : J E k n pc lv (st) w := fun H locs ls hP hD hS hl => lv_lconst C.1 C.2.1 d hv (kk H locs ls hP hD hS hl)
theorem j_dconst0 (C : jC E cc nL own ws x)  (d : decode cc pc = .ok (.dconst 0, 1)) (kk : J E k n (pc + 1) lv (.double FP.dconst0 :: st) w) : J E k n pc lv (st) w := fun H locs ls hP hD hS hl => lv_dconst0 C.1 C.2.1 d (kk H locs ls hP hD hS hl)
theorem j_ldc (C : jC E cc nL own ws x) {idx : Nat} {v : Int32} (d : decode cc pc = .ok (.ldc idx, 2)) (hw : Cond.constant own idx v ∈ ws) (kk : J E k n (pc + 2) lv (.int v :: st) w) : J E k n pc lv (st) w := fun H locs ls hP hD hS hl => lv_ldc C.1 C.2.1 C.2.2.2.1 (C.2.2.2.2.1 _ hw) d (kk H locs ls hP hD hS hl)
theorem j_ldc2 (C : jC E cc nL own ws x) {idx : Nat} {v : Int64} (d : decode cc pc = .ok (.ldc2_w idx, 3)) (hw : Cond.constantLong own idx v ∈ ws) (kk : J E k n (pc + 3) lv (.long v :: st) w) : J E k n pc lv (st) w := fun H locs ls hP hD hS hl => lv_ldc2 C.1 C.2.1 C.2.2.2.1 (C.2.2.2.2.1 _ hw) d (kk H locs ls hP hD hS hl)
theorem j_iload_n (C : jC E cc nL own ws x) {j : Fin 4} {i : Nat} {y : Int32} (d : decode cc pc = .ok (.iload_n j, 1)) (hi : (j : Nat) = i) (h : lvg lv i = some (.int y)) (kk : J E k n (pc + 1) lv (.int y :: st) w) : J E k n pc lv (st) w := fun H locs ls hP hD hS hl => lv_iload_n C.1 C.2.1 d hi (lvg_at hl h) (kk H locs ls hP hD hS hl)
theorem j_iload (C : jC E cc nL own ws x) {i : Nat} {y : Int32} (d : decode cc pc = .ok (.iload i, 2)) (h : lvg lv i = some (.int y)) (kk : J E k n (pc + 2) lv (.int y :: st) w) : J E k n pc lv (st) w := fun H locs ls hP hD hS hl => lv_iload C.1 C.2.1 d (lvg_at hl h) (kk H locs ls hP hD hS hl)
theorem j_istore_n (C : jC E cc nL own ws x) {j : Fin 4} {i : Nat} {y : Int32} (lv' : List (Nat × Value)) (d : decode cc pc = .ok (.istore_n j, 1)) (hi : (j : Nat) = i) (hn : i < nL) (he : (i, Value.int y) :: lv.filter (fun q => !(q.1 == i) && !(q.1 + 1 == i && q.2.category == 2)) = lv') (kk : J E k n (pc + 1) lv' st w) : J E k n pc lv (.int y :: st) w := fun H locs ls hP hD hS hl => lv_istore_n C.1 C.2.1 d hi hl (by rw [C.2.2.1]; exact hn) he (fun ls' hl' => kk H locs ls' hP hD hS hl')
theorem j_istore (C : jC E cc nL own ws x) {i : Nat} {y : Int32} (lv' : List (Nat × Value)) (d : decode cc pc = .ok (.istore i, 2)) (hn : i < nL) (he : (i, Value.int y) :: lv.filter (fun q => !(q.1 == i) && !(q.1 + 1 == i && q.2.category == 2)) = lv') (kk : J E k n (pc + 2) lv' st w) : J E k n pc lv (.int y :: st) w := fun H locs ls hP hD hS hl => lv_istore C.1 C.2.1 d hl (by rw [C.2.2.1]; exact hn) he (fun ls' hl' => kk H locs ls' hP hD hS hl')
theorem j_lload_n (C : jC E cc nL own ws x) {j : Fin 4} {i : Nat} {y : Int64} (d : decode cc pc = .ok (.lload_n j, 1)) (hi : (j : Nat) = i) (h : lvg lv i = some (.long y)) (kk : J E k n (pc + 1) lv (.long y :: st) w) : J E k n pc lv (st) w := fun H locs ls hP hD hS hl => lv_lload_n C.1 C.2.1 d hi (lvg_at hl h) (kk H locs ls hP hD hS hl)
theorem j_lload (C : jC E cc nL own ws x) {i : Nat} {y : Int64} (d : decode cc pc = .ok (.lload i, 2)) (h : lvg lv i = some (.long y)) (kk : J E k n (pc + 2) lv (.long y :: st) w) : J E k n pc lv (st) w := fun H locs ls hP hD hS hl => lv_lload C.1 C.2.1 d (lvg_at hl h) (kk H locs ls hP hD hS hl)
theorem j_lstore_n (C : jC E cc nL own ws x) {j : Fin 4} {i : Nat} {y : Int64} (lv' : List (Nat × Value)) (d : decode cc pc = .ok (.lstore_n j, 1)) (hi : (j : Nat) = i) (hn : i + 1 < nL) (he : (i, Value.long y) :: lv.filter (fun q => !(q.1 == i) && (!(q.1 == i + 1) && !(q.1 + 1 == i && q.2.category == 2))) = lv') (kk : J E k n (pc + 1) lv' st w) : J E k n pc lv (.long y :: st) w := fun H locs ls hP hD hS hl => lv_lstore_n C.1 C.2.1 d hi hl (by rw [C.2.2.1]; exact hn) he (fun ls' hl' => kk H locs ls' hP hD hS hl')
theorem j_lstore (C : jC E cc nL own ws x) {i : Nat} {y : Int64} (lv' : List (Nat × Value)) (d : decode cc pc = .ok (.lstore i, 2)) (hn : i + 1 < nL) (he : (i, Value.long y) :: lv.filter (fun q => !(q.1 == i) && (!(q.1 == i + 1) && !(q.1 + 1 == i && q.2.category == 2))) = lv') (kk : J E k n (pc + 2) lv' st w) : J E k n pc lv (.long y :: st) w := fun H locs ls hP hD hS hl => lv_lstore C.1 C.2.1 d hl (by rw [C.2.2.1]; exact hn) he (fun ls' hl' => kk H locs ls' hP hD hS hl')
theorem j_aload_n (C : jC E cc nL own ws x) {j : Fin 4} {i : Nat} {y : Nat} (d : decode cc pc = .ok (.aload_n j, 1)) (hi : (j : Nat) = i) (h : lvg lv i = some (.ref y)) (kk : J E k n (pc + 1) lv (.ref y :: st) w) : J E k n pc lv (st) w := fun H locs ls hP hD hS hl => lv_aload_n C.1 C.2.1 d hi (lvg_at hl h) (kk H locs ls hP hD hS hl)
theorem j_aload (C : jC E cc nL own ws x) {i : Nat} {y : Nat} (d : decode cc pc = .ok (.aload i, 2)) (h : lvg lv i = some (.ref y)) (kk : J E k n (pc + 2) lv (.ref y :: st) w) : J E k n pc lv (st) w := fun H locs ls hP hD hS hl => lv_aload C.1 C.2.1 d (lvg_at hl h) (kk H locs ls hP hD hS hl)
theorem j_astore_n (C : jC E cc nL own ws x) {j : Fin 4} {i : Nat} {y : Nat} (lv' : List (Nat × Value)) (d : decode cc pc = .ok (.astore_n j, 1)) (hi : (j : Nat) = i) (hn : i < nL) (he : (i, Value.ref y) :: lv.filter (fun q => !(q.1 == i) && !(q.1 + 1 == i && q.2.category == 2)) = lv') (kk : J E k n (pc + 1) lv' st w) : J E k n pc lv (.ref y :: st) w := fun H locs ls hP hD hS hl => lv_astore_n C.1 C.2.1 d hi hl (by rw [C.2.2.1]; exact hn) he (fun ls' hl' => kk H locs ls' hP hD hS hl')
theorem j_astore (C : jC E cc nL own ws x) {i : Nat} {y : Nat} (lv' : List (Nat × Value)) (d : decode cc pc = .ok (.astore i, 2)) (hn : i < nL) (he : (i, Value.ref y) :: lv.filter (fun q => !(q.1 == i) && !(q.1 + 1 == i && q.2.category == 2)) = lv') (kk : J E k n (pc + 2) lv' st w) : J E k n pc lv (.ref y :: st) w := fun H locs ls hP hD hS hl => lv_astore C.1 C.2.1 d hl (by rw [C.2.2.1]; exact hn) he (fun ls' hl' => kk H locs ls' hP hD hS hl')
theorem j_dload_n (C : jC E cc nL own ws x) {j : Fin 4} {i : Nat} {y : UInt64} (d : decode cc pc = .ok (.dload_n j, 1)) (hi : (j : Nat) = i) (h : lvg lv i = some (.double y)) (kk : J E k n (pc + 1) lv (.double y :: st) w) : J E k n pc lv (st) w := fun H locs ls hP hD hS hl => lv_dload_n C.1 C.2.1 d hi (lvg_at hl h) (kk H locs ls hP hD hS hl)
theorem j_dload (C : jC E cc nL own ws x) {i : Nat} {y : UInt64} (d : decode cc pc = .ok (.dload i, 2)) (h : lvg lv i = some (.double y)) (kk : J E k n (pc + 2) lv (.double y :: st) w) : J E k n pc lv (st) w := fun H locs ls hP hD hS hl => lv_dload C.1 C.2.1 d (lvg_at hl h) (kk H locs ls hP hD hS hl)
theorem j_dstore_n (C : jC E cc nL own ws x) {j : Fin 4} {i : Nat} {y : UInt64} (lv' : List (Nat × Value)) (d : decode cc pc = .ok (.dstore_n j, 1)) (hi : (j : Nat) = i) (hn : i + 1 < nL) (he : (i, Value.double y) :: lv.filter (fun q => !(q.1 == i) && (!(q.1 == i + 1) && !(q.1 + 1 == i && q.2.category == 2))) = lv') (kk : J E k n (pc + 1) lv' st w) : J E k n pc lv (.double y :: st) w := fun H locs ls hP hD hS hl => lv_dstore_n C.1 C.2.1 d hi hl (by rw [C.2.2.1]; exact hn) he (fun ls' hl' => kk H locs ls' hP hD hS hl')
theorem j_dstore (C : jC E cc nL own ws x) {i : Nat} {y : UInt64} (lv' : List (Nat × Value)) (d : decode cc pc = .ok (.dstore i, 2)) (hn : i + 1 < nL) (he : (i, Value.double y) :: lv.filter (fun q => !(q.1 == i) && (!(q.1 == i + 1) && !(q.1 + 1 == i && q.2.category == 2))) = lv') (kk : J E k n (pc + 2) lv' st w) : J E k n pc lv (.double y :: st) w := fun H locs ls hP hD hS hl => lv_dstore C.1 C.2.1 d hl (by rw [C.2.2.1]; exact hn) he (fun ls' hl' => kk H locs ls' hP hD hS hl')
theorem j_iinc (C : jC E cc nL own ws x) {i : Nat} {m : Int} {y v : Int32} (j : Nat) (lv' : List (Nat × Value)) (d : decode cc pc = .ok (.iinc i m, 3)) (hj : lv[j]? = some (i, .int y)) (hv : y + Int32.ofInt m = v) (hn : i < nL) (he : (i, Value.int v) :: lv.filter (fun q => !(q.1 == i) && !(q.1 + 1 == i && q.2.category == 2)) = lv') (kk : J E k n (pc + 3) lv' st w) : J E k n pc lv st w := fun H locs ls hP hD hS hl => lv_iinc C.1 C.2.1 d hl hj hv (by rw [C.2.2.1]; exact hn) he (fun ls' hl' => kk H locs ls' hP hD hS hl')
/-- fewer locals, in another order -/
theorem j_lv (ks : List Nat) (lv' : List (Nat × Value)) (he : lv_pick lv ks = lv') (kk : J E k n pc lv' st w) : J E k n pc lv st w := fun H locs ls hP hD hS hl => kk H locs ls hP hD hS (lv_sub hl ks he)
theorem j_wide (k' n' : Nat) (h1 : k ≤ k') (h2 : n ≤ n') (kk : J E k' n' pc lv st w) : J E k n pc lv st w := fun H locs ls hP hD hS hl => W.widen h1 h2 (kk H locs ls hP hD hS hl)
theorem j_eqw {w' : va_W} (e : w = w') (kk : J E k n pc lv st w') : J E k n pc lv st w := by rw [e]; exact kk
theorem j_topi {a b : Int32} (h : a = b) (kk : J E k n pc lv (.int b :: st) w) : J E k n pc lv (.int a :: st) w := by rw [h]; exact kk
theorem j_topl {a b : Int64} (h : a = b) (kk : J E k n pc lv (.long b :: st) w) : J E k n pc lv (.long a :: st) w := by rw [h]; exact kk
/-- other places of the literal front (fewer, too) -/
theorem j_part {X cx pl : va_W} (is : List Nat) (hn : va_nd is = true) (hs : is.map (fun i => X[i]?) = cx.map some) (kk : J E k n pc lv st (cx ++ pl)) : J E k n pc lv st (X ++ pl) := fun H locs ls hP hD hS hl => kk H locs ls (hP.part is hs) (hD.part is hn hs) hS hl
theorem j_swap {a b c : va_W} (kk : J E k n pc lv st (b ++ (a ++ c))) : J E k n pc lv st (a ++ (b ++ c)) := fun H locs ls hP hD hS hl => by
  refine kk H locs ls ?_ ?_ hS hl
  · have h1 : va_P (eG E).1 vwCl (([] ++ a) ++ (b ++ c)) H := hP
    have h2 : va_P (eG E).1 vwCl (((b ++ c) ++ []) ++ a) H := (va_P.swap h1).by id (fun q r h => by simpa using h)
    have h3 : va_P (eG E).1 vwCl ((b ++ c) ++ a) H := by simpa using h2
    have h4 := va_P.swap h3
    rw [List.append_assoc] at h4
    exact h4
  · have h1 : va_D (eA E) (([] ++ a) ++ (b ++ c)) := hD
    have h2 : va_D (eA E) (([] ++ (b ++ c)) ++ a) := va_D.swap h1
    have h3 : va_D (eA E) ((b ++ c) ++ a) := h2
    have h4 := va_D.swap h3
    rw [List.append_assoc] at h4
    exact h4
/-- the cell in front is forgotten -/
theorem j_drop {a : Nat × va_E} {c : va_W} (kk : J E k n pc lv st c) : J E k n pc lv st (a :: c) := j_part (X := [a]) (cx := []) (pl := c) [] rfl rfl kk
theorem j_iadd (C : jC E cc nL own ws x) {y z : Int32} (d : decode cc pc = .ok (.iadd, 1)) (kk : J E k n (pc + 1) lv (.int (y + z) :: st) w) : J E k n pc lv (.int z :: .int y :: st) w := fun H locs ls hP hD hS hl => lv_iadd C.1 C.2.1 d (kk H locs ls hP hD hS hl)
theorem j_isub (C : jC E cc nL own ws x) {y z : Int32} (d : decode cc pc = .ok (.isub, 1)) (kk : J E k n (pc + 1) lv (.int (y - z) :: st) w) : J E k n pc lv (.int z :: .int y :: st) w := fun H locs ls hP hD hS hl => lv_isub C.1 C.2.1 d (kk H locs ls hP hD hS hl)
theorem j_imul (C : jC E cc nL own ws x) {y z : Int32} (d : decode cc pc = .ok (.imul, 1)) (kk : J E k n (pc + 1) lv (.int (y * z) :: st) w) : J E k n pc lv (.int z :: .int y :: st) w := fun H locs ls hP hD hS hl => lv_imul C.1 C.2.1 d (kk H locs ls hP hD hS hl)
theorem j_iand (C : jC E cc nL own ws x) {y z : Int32} (d : decode cc pc = .ok (.iand, 1)) (kk : J E k n (pc + 1) lv (.int (y &&& z) :: st) w) : J E k n pc lv (.int z :: .int y :: st) w := fun H locs ls hP hD hS hl => lv_iand C.1 C.2.1 d (kk H locs ls hP hD hS hl)
theorem j_ior (C : jC E cc nL own ws x) {y z : Int32} (d : decode cc pc = .ok (.ior, 1)) (kk : J E k n (pc + 1) lv (.int (y ||| z) :: st) w) : J E k n pc lv (.int z :: .int y :: st) w := fun H locs ls hP hD hS hl => lv_ior C.1 C.2.1 d (kk H locs ls hP hD hS hl)
theorem j_ixor (C : jC E cc nL own ws x) {y z : Int32} (d : decode cc pc = .ok (.ixor, 1)) (kk : J E k n (pc + 1) lv (.int (y ^^^ z) :: st) w) : J E k n pc lv (.int z :: .int y :: st) w := fun H locs ls hP hD hS hl => lv_ixor C.1 C.2.1 d (kk H locs ls hP hD hS hl)
theorem j_ishl (C : jC E cc nL own ws x) {y z : Int32} (d : decode cc pc = .ok (.ishl, 1)) (kk : J E k n (pc + 1) lv (.int (y <<< (z &&& 31)) :: st) w) : J E k n pc lv (.int z :: .int y :: st) w := fun H locs ls hP hD hS hl => lv_ishl C.1 C.2.1 d (kk H locs ls hP hD hS hl)
theorem j_ishr (C : jC E cc nL own ws x) {y z : Int32} (d : decode cc pc = .ok (.ishr, 1)) (kk : J E k n (pc + 1) lv (.int (y >>> (z &&& 31)) :: st) w) : J E k n pc lv (.int z :: .int y :: st) w := fun H locs ls hP hD hS hl => lv_ishr C.1 C.2.1 d (kk H locs ls hP hD hS hl)
theorem j_idiv (C : jC E cc nL own ws x) {y z : Int32} (d : decode cc pc = .ok (.idiv, 1)) (hne : ¬ z = 0) (kk : J E k n (pc + 1) lv (.int (y / z) :: st) w) : J E k n pc lv (.int z :: .int y :: st) w := fun H locs ls hP hD hS hl => lv_idiv C.1 C.2.1 d hne (kk H locs ls hP hD hS hl)
theorem j_irem (C : jC E cc nL own ws x) {y z : Int32} (d : decode cc pc = .ok (.irem, 1)) (hne : ¬ z = 0) (kk : J E k n (pc + 1) lv (.int (y - y / z * z) :: st) w) : J E k n pc lv (.int z :: .int y :: st) w := fun H locs ls hP hD hS hl => lv_irem C.1 C.2.1 d hne (kk H locs ls hP hD hS hl)
theorem j_ladd (C : jC E cc nL own ws x) {y z : Int64} (d : decode cc pc = .ok (.ladd, 1)) (kk : J E k n (pc + 1) lv (.long (y + z) :: st) w) : J E k n pc lv (.long z :: .long y :: st) w := fun H locs ls hP hD hS hl => lv_ladd C.1 C.2.1 d (kk H locs ls hP hD hS hl)
theorem j_lmul (C : jC E cc nL own ws x) {y z : Int64} (d : decode cc pc = .ok (.lmul, 1)) (kk : J E k n (pc + 1) lv (.long (y * z) :: st) w) : J E k n pc lv (.long z :: .long y :: st) w := fun H locs ls hP hD hS hl => lv_lmul C.1 C.2.1 d (kk H locs ls hP hD hS hl)
theorem j_i2l (C : jC E cc nL own ws x) {y : Int32} (d : decode cc pc = .ok (.i2l, 1)) (kk : J E k n (pc + 1) lv (.long y.toInt64 :: st) w) : J E k n pc lv (.int y :: st) w := fun H locs ls hP hD hS hl => lv_i2l C.1 C.2.1 d rfl (kk H locs ls hP hD hS hl)
theorem j_i2d (C : jC E cc nL own ws x) {y : Int32} (d : decode cc pc = .ok (.i2d, 1)) (kk : J E k n (pc + 1) lv (.double (FP.i2d y) :: st) w) : J E k n pc lv (.int y :: st) w := fun H locs ls hP hD hS hl => lv_i2d C.1 C.2.1 d (kk H locs ls hP hD hS hl)
theorem j_ddiv (C : jC E cc nL own ws x) {y z : UInt64} (d : decode cc pc = .ok (.ddiv, 1)) (hne : vf_n64 (FP.ddiv y z)) (kk : J E k n (pc + 1) lv (.double (FP.ddiv y z) :: st) w) : J E k n pc lv (.double z :: .double y :: st) w := fun H locs ls hP hD hS hl => lv_ddiv C.1 C.2.1 d hne (kk H locs ls hP hD hS hl)
theorem j_dcmp (C : jC E cc nL own ws x) {y z : UInt64} {op : CmpOp} (d : decode cc pc = .ok (.dcmp op, 1)) (kk : J E k n (pc + 1) lv (.int (Op.cmpValue (FP.dcmp y z) op) :: st) w) : J E k n pc lv (.double z :: .double y :: st) w := fun H locs ls hP hD hS hl => lv_dcmp C.1 C.2.1 d (kk H locs ls hP hD hS hl)
theorem j_dup (C : jC E cc nL own ws x) {v : Value} (d : decode cc pc = .ok (.dup, 1)) (hc : v.category = 1) (kk : J E k n (pc + 1) lv (v :: v :: st) w) : J E k n pc lv (v :: st) w := fun H locs ls hP hD hS hl => lv_dup C.1 C.2.1 d hc (kk H locs ls hP hD hS hl)
theorem j_pop (C : jC E cc nL own ws x) {v : Value} (d : decode cc pc = .ok (.pop, 1)) (hc : v.category = 1) (kk : J E k n (pc + 1) lv (st) w) : J E k n pc lv (v :: st) w := fun H locs ls hP hD hS hl => lv_pop C.1 C.2.1 d hc (kk H locs ls hP hD hS hl)
theorem j_if_eq (C : jC E cc nL own ws x) {y : Int32} {off : Int} {tgt : Nat} (d : decode cc pc = .ok (.ifCond .eq off, 3)) (ht : (pc : Int) + off = (tgt : Int)) (kt : y = 0 → J E k n tgt lv st w) (kf : ¬ y = 0 → J E k n (pc + 3) lv st w) : J E k n pc lv (.int y :: st) w := fun H locs ls hP hD hS hl => lv_if_eq C.1 C.2.1 d ht (fun h => kt h H locs ls hP hD hS hl) (fun h => kf h H locs ls hP hD hS hl)
theorem j_if_ne (C : jC E cc nL own ws x) {y : Int32} {off : Int} {tgt : Nat} (d : decode cc pc = .ok (.ifCond .ne off, 3)) (ht : (pc : Int) + off = (tgt : Int)) (kt : ¬ y = 0 → J E k n tgt lv st w) (kf : y = 0 → J E k n (pc + 3) lv st w) : J E k n pc lv (.int y :: st) w := fun H locs ls hP hD hS hl => lv_if_ne C.1 C.2.1 d ht (fun h => kt h H locs ls hP hD hS hl) (fun h => kf h H locs ls hP hD hS hl)
theorem j_if_lt (C : jC E cc nL own ws x) {y : Int32} {off : Int} {tgt : Nat} (d : decode cc pc = .ok (.ifCond .lt off, 3)) (ht : (pc : Int) + off = (tgt : Int)) (kt : y < 0 → J E k n tgt lv st w) (kf : ¬ y < 0 → J E k n (pc + 3) lv st w) : J E k n pc lv (.int y :: st) w := fun H locs ls hP hD hS hl => lv_if_lt C.1 C.2.1 d ht (fun h => kt h H locs ls hP hD hS hl) (fun h => kf h H locs ls hP hD hS hl)
theorem j_if_ge (C : jC E cc nL own ws x) {y : Int32} {off : Int} {tgt : Nat} (d : decode cc pc = .ok (.ifCond .ge off, 3)) (ht : (pc : Int) + off = (tgt : Int)) (kt : 0 ≤ y → J E k n tgt lv st w) (kf : ¬ 0 ≤ y → J E k n (pc + 3) lv st w) : J E k n pc lv (.int y :: st) w := fun H locs ls hP hD hS hl => lv_if_ge C.1 C.2.1 d ht (fun h => kt h H locs ls hP hD hS hl) (fun h => kf h H locs ls hP hD hS hl)
theorem j_if_gt (C : jC E cc nL own ws x) {y : Int32} {off : Int} {tgt : Nat} (d : decode cc pc = .ok (.ifCond .gt off, 3)) (ht : (pc : Int) + off = (tgt : Int)) (kt : 0 < y → J E k n tgt lv st w) (kf : ¬ 0 < y → J E k n (pc + 3) lv st w) : J E k n pc lv (.int y :: st) w := fun H locs ls hP hD hS hl => lv_if_gt C.1 C.2.1 d ht (fun h => kt h H locs ls hP hD hS hl) (fun h => kf h H locs ls hP hD hS hl)
theorem j_if_le (C : jC E cc nL own ws x) {y : Int32} {off : Int} {tgt : Nat} (d : decode cc pc = .ok (.ifCond .le off, 3)) (ht : (pc : Int) + off = (tgt : Int)) (kt : y ≤ 0 → J E k n tgt lv st w) (kf : ¬ y ≤ 0 → J E k n (pc + 3) lv st w) : J E k n pc lv (.int y :: st) w := fun H locs ls hP hD hS hl => lv_if_le C.1 C.2.1 d ht (fun h => kt h H locs ls hP hD hS hl) (fun h => kf h H locs ls hP hD hS hl)
theorem j_icmp_eq (C : jC E cc nL own ws x) {y z : Int32} {off : Int} {tgt : Nat} (d : decode cc pc = .ok (.if_icmp .eq off, 3)) (ht : (pc : Int) + off = (tgt : Int)) (kt : y = z → J E k n tgt lv st w) (kf : ¬ y = z → J E k n (pc + 3) lv st w) : J E k n pc lv (.int z :: .int y :: st) w := fun H locs ls hP hD hS hl => lv_icmp_eq C.1 C.2.1 d ht (fun h => kt h H locs ls hP hD hS hl) (fun h => kf h H locs ls hP hD hS hl)
theorem j_icmp_ne (C : jC E cc nL own ws x) {y z : Int32} {off : Int} {tgt : Nat} (d : decode cc pc = .ok (.if_icmp .ne off, 3)) (ht : (pc : Int) + off = (tgt : Int)) (kt : ¬ y = z → J E k n tgt lv st w) (kf : y = z → J E k n (pc + 3) lv st w) : J E k n pc lv (.int z :: .int y :: st) w := fun H locs ls hP hD hS hl => lv_icmp_ne C.1 C.2.1 d ht (fun h => kt h H locs ls hP hD hS hl) (fun h => kf h H locs ls hP hD hS hl)
theorem j_icmp_lt (C : jC E cc nL own ws x) {y z : Int32} {off : Int} {tgt : Nat} (d : decode cc pc = .ok (.if_icmp .lt off, 3)) (ht : (pc : Int) + off = (tgt : Int)) (kt : y < z → J E k n tgt lv st w) (kf : ¬ y < z → J E k n (pc + 3) lv st w) : J E k n pc lv (.int z :: .int y :: st) w := fun H locs ls hP hD hS hl => lv_icmp_lt C.1 C.2.1 d ht (fun h => kt h H locs ls hP hD hS hl) (fun h => kf h H locs ls hP hD hS hl)
theorem j_icmp_ge (C : jC E cc nL own ws x) {y z : Int32} {off : Int} {tgt : Nat} (d : decode cc pc = .ok (.if_icmp .ge off, 3)) (ht : (pc : Int) + off = (tgt : Int)) (kt : z ≤ y → J E k n tgt lv st w) (kf : ¬ z ≤ y → J E k n (pc + 3) lv st w) : J E k n pc lv (.int z :: .int y :: st) w := fun H locs ls hP hD hS hl => lv_icmp_ge C.1 C.2.1 d ht (fun h => kt h H locs ls hP hD hS hl) (fun h => kf h H locs ls hP hD hS hl)
theorem j_icmp_gt (C : jC E cc nL own ws x) {y z : Int32} {off : Int} {tgt : Nat} (d : decode cc pc = .ok (.if_icmp .gt off, 3)) (ht : (pc : Int) + off = (tgt : Int)) (kt : z < y → J E k n tgt lv st w) (kf : ¬ z < y → J E k n (pc + 3) lv st w) : J E k n pc lv (.int z :: .int y :: st) w := fun H locs ls hP hD hS hl => lv_icmp_gt C.1 C.2.1 d ht (fun h => kt h H locs ls hP hD hS hl) (fun h => kf h H locs ls hP hD hS hl)
theorem j_icmp_le (C : jC E cc nL own ws x) {y z : Int32} {off : Int} {tgt : Nat} (d : decode cc pc = .ok (.if_icmp .le off, 3)) (ht : (pc : Int) + off = (tgt : Int)) (kt : y ≤ z → J E k n tgt lv st w) (kf : ¬ y ≤ z → J E k n (pc + 3) lv st w) : J E k n pc lv (.int z :: .int y :: st) w := fun H locs ls hP hD hS hl => lv_icmp_le C.1 C.2.1 d ht (fun h => kt h H locs ls hP hD hS hl) (fun h => kf h H locs ls hP hD hS hl)
theorem j_goto (C : jC E cc nL own ws x) {off : Int} {tgt : Nat} (d : decode cc pc = .ok (.goto off, 3)) (ht : (pc : Int) + off = (tgt : Int)) (kk : J E k n tgt lv st w) : J E k n pc lv st w := fun H locs ls hP hD hS hl => lv_goto C.1 C.2.1 d ht (kk H locs ls hP hD hS hl)
theorem j_nonnull (C : jC E cc nL own ws x) {b : Nat} {off : Int} {tgt : Nat} (d : decode cc pc = .ok (.ifnonnull off, 3)) (ht : (pc : Int) + off = (tgt : Int)) (kk : J E k n tgt lv st w) : J E k n pc lv (.ref b :: st) w := fun H locs ls hP hD hS hl => lv_ifnonnull C.1 C.2.1 d ht (kk H locs ls hP hD hS hl)
theorem j_tableIn (C : jC E cc nL own ws x) {dflt lo hi : Int} {offs : Array Int} {len : Nat} {y : Int32} {off : Int} {tgt : Nat} (d : decode cc pc = .ok (.tableswitch dflt lo hi offs, len)) (h1 : ¬ y.toInt < lo) (h2 : ¬ hi < y.toInt) (ho : offs[(y.toInt - lo).toNat]? = some off) (ht : (pc : Int) + off = (tgt : Int)) (kk : J E k n tgt lv st w) : J E k n pc lv (.int y :: st) w := fun H locs ls hP hD hS hl => lv_tableIn C.1 C.2.1 d h1 h2 ho ht (kk H locs ls hP hD hS hl)
theorem j_tableOut (C : jC E cc nL own ws x) {dflt lo hi : Int} {offs : Array Int} {len : Nat} {y : Int32} {tgt : Nat} (d : decode cc pc = .ok (.tableswitch dflt lo hi offs, len)) (h : y.toInt < lo ∨ hi < y.toInt) (ht : (pc : Int) + dflt = (tgt : Int)) (kk : J E k n tgt lv st w) : J E k n pc lv (.int y :: st) w := fun H locs ls hP hD hS hl => lv_tableOut C.1 C.2.1 d h ht (kk H locs ls hP hD hS hl)
theorem j_lcmp (C : jC E cc nL own ws x) {y z : Int64} (d : decode cc pc = .ok (.lcmp, 1)) (kk : J E k n (pc + 1) lv (.int (lg_cmp y z) :: st) w) : J E k n pc lv (.long z :: .long y :: st) w := fun H locs ls hP hD hS hl => W.lcmp C.1 C.2.1 d (kk H locs ls hP hD hS hl)
/-- a field of a Sim at place p -/
theorem j_get (C : jC E cc nL own ws x) {idx : Nat} (p c : Nat) {b : Nat} {fs : List Value} {v : Value} (d : decode cc pc = .ok (.getfield idx, 3)) (hin : ∀ w ∈ wsX10, w ∈ ws) (hk : c < 11) (hw : Cond.fieldLink own idx RX1 (TX1 c).2.1 (TX1 c).2.2.1 ∈ ws) (hT : (TX1 c).1 = RX1) (he : w[p]? = some (b, .inr (1, fs))) (hv : fs[c]? = some v) (kk : J E k n (pc + 3) lv (v :: st) w) : J E k n pc lv (.ref b :: st) w := fun H locs ls hP hD hS hl =>
  va_get (D := (eG E).1) (cl := vwCl) (C := RX1) (T := TX1) (N := 11) (ci := 1) (ref := RX1) C.1 C.2.1 C.2.2.2.2.1 hin C.2.2.2.1 C.2.2.2.2.2.1 hP p he rfl c hk (C.2.2.2.2.1 _ hw) (fun _ h => by rw [← hT]; exact h) hv d (kk H locs ls hP hD hS hl)
theorem j_put (C : jC E cc nL own ws x) {idx : Nat} (p c : Nat) {b : Nat} {fs : List Value} {v : Value} {ty : FieldType} {w' : va_W} (d : decode cc pc = .ok (.putfield idx, 3)) (hin : ∀ w ∈ wsX10, w ∈ ws) (hk : c < 11) (hw : Cond.fieldLink own idx RX1 (TX1 c).2.1 (TX1 c).2.2.1 ∈ ws) (hT : (TX1 c).1 = RX1) (hf : (TX1 c).2.2.2 = false) (he : w[p]? = some (b, .inr (1, fs))) (hd : parseFieldDescriptor (TX1 c).2.2.1 = some ty) (hn : narrow ty v = v) (hfit : fits ty v = true) (hlen : c < fs.length) (hw' : w.set p (b, .inr (1, fs.set c v)) = w') (kk : J E k n (pc + 3) lv st w') : J E k n pc lv (v :: .ref b :: st) w := fun H locs ls hP hD hS hl =>
  va_put (D := (eG E).1) (cl := vwCl) (C := RX1) (T := TX1) (N := 11) (ci := 1) (ref := RX1) C.1 C.2.1 C.2.2.2.2.1 hin tyX1 tyX1_ok nmX1 C.2.2.2.1 C.2.2.2.2.2.1 hP hD hS p he rfl c hk (C.2.2.2.2.1 _ hw) (fun _ h => by rw [← hT]; exact h) hf hd hn hfit hlen d (fun H1 locs1 hP1 hD1 hS1 => kk H1 locs1 ls (by rw [← hw']; exact hP1) (by rw [← hw']; exact hD1) hS1 hl)
/-- a final field, in the constructor -/
theorem j_putF (C : jC E cc nL RX1 ws x) {idx : Nat} (p c : Nat) {b : Nat} {fs : List Value} {v : Value} {ty : FieldType} {w' : va_W} (d : decode cc pc = .ok (.putfield idx, 3)) (hin : ∀ w ∈ wsX10, w ∈ ws) (hk : c < 11) (hw : Cond.fieldLink RX1 idx RX1 (TX1 c).2.1 (TX1 c).2.2.1 ∈ ws) (hT : (TX1 c).1 = RX1) (hf : (TX1 c).2.2.2 = true) (hi : (eMt E).name = "<init>") (he : w[p]? = some (b, .inr (1, fs))) (hd : parseFieldDescriptor (TX1 c).2.2.1 = some ty) (hn : narrow ty v = v) (hfit : fits ty v = true) (hlen : c < fs.length) (hw' : w.set p (b, .inr (1, fs.set c v)) = w') (kk : J E k n (pc + 3) lv st w') : J E k n pc lv (v :: .ref b :: st) w := fun H locs ls hP hD hS hl =>
  va_putF (D := (eG E).1) (cl := vwCl) (C := RX1) (T := TX1) (N := 11) (ci := 1) (ref := RX1) C.1 C.2.1 C.2.2.2.2.1 hin tyX1 tyX1_ok nmX1 C.2.2.2.1 C.2.2.2.2.2.1 hP hD hS p he rfl c hk (C.2.2.2.2.1 _ hw) (fun _ h => by rw [← hT]; exact h) hf hi hT hd hn hfit hlen d (fun H1 locs1 hP1 hD1 hS1 => kk H1 locs1 ls (by rw [← hw']; exact hP1) (by rw [← hw']; exact hD1) hS1 hl)
/-- arrays: an int's, a boolean's element, a row of a two-dimensional one, the length -/
theorem j_iald (C : jC E cc nL own ws x) (p j : Nat) {b N : Nat} {f : Nat → Int32} {i : Int32} (d : decode cc pc = .ok (.iaload, 1)) (ha : w[p]? = some (b, .inl (jC0 E, N, .inl f))) (he : i = nI j) (hj : j < N) (hN : N < 1000) (kk : J E k n (pc + 1) lv (.int (f j) :: st) w) : J E k n pc lv (.int i :: .ref b :: st) w := fun H locs ls hP hD hS hl => by
  subst he
  refine va_iald C.1 C.2.1 C.2.2.2.2.2.1 hP p 0 ha rfl (vp_in_nI hj (by omega)) d ?_
  rw [nI_clamp (by omega)]
  exact kk H locs ls hP hD hS hl
theorem j_zald (C : jC E cc nL own ws x) (p j : Nat) {b N : Nat} {f : Nat → Int32} {i : Int32} (d : decode cc pc = .ok (.baload, 1)) (ha : w[p]? = some (b, .inl (jC1 E, N, .inl f))) (he : i = nI j) (hj : j < N) (hN : N < 1000) (kk : J E k n (pc + 1) lv (.int (f j) :: st) w) : J E k n pc lv (.int i :: .ref b :: st) w := fun H locs ls hP hD hS hl => by
  subst he
  refine va_zald C.1 C.2.1 C.2.2.2.2.2.1 hP p 1 ha rfl (vp_in_nI hj (by omega)) d ?_
  rw [nI_clamp (by omega)]
  exact kk H locs ls hP hD hS hl
theorem j_aald (C : jC E cc nL own ws x) (p j : Nat) {b N r : Nat} {f : Nat → Option Nat} {i : Int32} (d : decode cc pc = .ok (.aaload, 1)) (ha : w[p]? = some (b, .inl (jC2 E, N, .inr (.inr (.inr (.inr f)))))) (he : i = nI j) (hj : j < N) (hN : N < 1000) (hr : f j = some r) (kk : J E k n (pc + 1) lv (.ref r :: st) w) : J E k n pc lv (.int i :: .ref b :: st) w := fun H locs ls hP hD hS hl => by
  subst he
  have hi : ¬ (nI j < 0 ∨ N ≤ (nI j).toNatClampNeg) := vp_in_nI hj (by omega)
  have hc : (nI j).toNatClampNeg = j := nI_clamp (by omega)
  refine W.aald (v := .ref r) (ty := .array .boolean) C.1 C.2.1 (hP p _ ha) ((C.2.2.2.2.2.1.2 2 _ rfl).1 N (fun j => va_rf (f j))) rfl (fun q => by cases q) (by show ¬ (nI j < 0 ∨ (arrV _ _ _).slots.size ≤ _); rw [arrV_size]; exact hi) (by show (arrV _ _ _).slots[_]? = _; rw [hc, arrV_read _ _ hj]; rw [hr]; rfl) rfl rfl d ?_
  exact kk H locs ls hP hD hS hl
theorem j_iast (C : jC E cc nL own ws x) (p j : Nat) {b N : Nat} {f : Nat → Int32} {i y : Int32} {w' : va_W} (d : decode cc pc = .ok (.iastore, 1)) (ha : w[p]? = some (b, .inl (jC0 E, N, .inl f))) (he : i = nI j) (hj : j < N) (hN : N < 1000) (hw : w.set p (b, .inl (jC0 E, N, .inl (upd f j y))) = w') (kk : J E k n (pc + 1) lv st w') : J E k n pc lv (.int y :: .int i :: .ref b :: st) w := fun H locs ls hP hD hS hl => by
  subst he
  refine va_iast C.1 C.2.1 C.2.2.2.2.2.1 hP hD hS p 0 ha rfl (vp_in_nI hj (by omega)) d (fun H1 locs1 hP1 hD1 hS1 => ?_)
  rw [nI_clamp (by omega), hw] at hP1 hD1
  exact kk H1 locs1 ls hP1 hD1 hS1 hl
theorem j_zast (C : jC E cc nL own ws x) (p j : Nat) {b N : Nat} {f : Nat → Int32} {i y : Int32} {w' : va_W} (d : decode cc pc = .ok (.bastore, 1)) (ha : w[p]? = some (b, .inl (jC1 E, N, .inl f))) (he : i = nI j) (hj : j < N) (hN : N < 1000) (hy : y = 0 ∨ y = 1) (hw : w.set p (b, .inl (jC1 E, N, .inl (upd f j y))) = w') (kk : J E k n (pc + 1) lv st w') : J E k n pc lv (.int y :: .int i :: .ref b :: st) w := fun H locs ls hP hD hS hl => by
  subst he
  refine va_zast C.1 C.2.1 C.2.2.2.2.2.1 hP hD hS p 1 ha rfl (vp_in_nI hj (by omega)) d (fun H1 locs1 hP1 hD1 hS1 => ?_)
  rw [nI_clamp (by omega), show vp_nar .boolean y = y by rcases hy with rfl | rfl <;> rfl, hw] at hP1 hD1
  exact kk H1 locs1 ls hP1 hD1 hS1 hl
theorem j_alen (C : jC E cc nL own ws x) (p t : Nat) {b N : Nat} {cA : ClassId} {r : (Nat → Int32) ⊕ (Nat → Int64) ⊕ (Nat → UInt32) ⊕ (Nat → UInt64) ⊕ (Nat → Option Nat)} {ty : FieldType} (d : decode cc pc = .ok (.arraylength, 1)) (ha : w[p]? = some (b, .inl (cA, (N, r)))) (ht : (gTy (eG E))[t]? = some (cA, ty)) (kk : J E k n (pc + 1) lv (.int (nI N) :: st) w) : J E k n pc lv (.ref b :: st) w := fun H locs ls hP hD hS hl => va_alen C.1 C.2.1 C.2.2.2.2.2.1 hP p t ha ht rfl d (kk H locs ls hP hD hS hl)
/-- the script -/
theorem j_slen {b L : Nat} {xs : Nat → Int32} (C : jC E cc nL own ws (some (b, L, xs))) (d : decode cc pc = .ok (.arraylength, 1)) (kk : J E k n (pc + 1) lv (.int (nI L) :: st) w) : J E k n pc lv (.ref b :: st) w := fun H locs ls hP hD hS hl => va_slen C.1 C.2.1 C.2.2.2.2.2.2.2.2.2.1 C.2.2.2.2.2.2.2.2.2.2.1 C.2.2.2.2.2.2.2.2.2.2.2 hS d (kk H locs ls hP hD hS hl)
theorem j_sld {b L : Nat} {xs : Nat → Int32} (C : jC E cc nL own ws (some (b, L, xs))) {i : Int32} (j : Nat) (d : decode cc pc = .ok (.iaload, 1)) (he : i = nI j) (hj : j < L) (hL : L < 1000) (kk : J E k n (pc + 1) lv (.int (xs j) :: st) w) : J E k n pc lv (.int i :: .ref b :: st) w := fun H locs ls hP hD hS hl => by
  subst he
  refine va_sld C.1 C.2.1 C.2.2.2.2.2.2.2.2.2.1 C.2.2.2.2.2.2.2.2.2.2.1 C.2.2.2.2.2.2.2.2.2.2.2 hS (vp_in_nI hj (by omega)) d ?_
  rw [nI_clamp (by omega)]
  exact kk H locs ls hP hD hS hl
/-- new int[N], new boolean[N]: the new one in front -/
theorem j_front {c : va_W} {a : Nat × va_E} (kk : J E k n pc lv st (a :: c)) : J E k n pc lv st (c ++ [a]) := by
  have h : J E k n pc lv st (c ++ ([a] ++ [])) := j_swap (by rw [List.append_nil]; exact kk)
  exact h
theorem j_newI (C : jC E cc nL own ws x) (N M : Nat) {m : Int32} (d : decode cc pc = .ok (.newarray .int, 2)) (harr : Cond.arrayClass .int ∈ ws) (he : m = nI N) (hN : N ≤ M) (hM : M < 1000) (hk : k + 1 ≤ (eR E).cells) (hn : n + M ≤ (eR E).slots) (kk : ∀ q : Nat, J E (k + 1) (n + M) (pc + 2) lv (.ref q :: st) ((q, .inl (jC0 E, N, .inl (fun _ => 0))) :: w)) : J E k n pc lv (.int m :: st) w := fun H locs ls hP hD hS hl => by
  subst he
  refine va_newa (D := (eG E).1) (cl := vwCl) (atype := .int) (ty := .int) (N' := N) (a0 := (N, .inl (fun _ => 0))) C.1 C.2.1 (C.2.2.2.2.1 _ harr) rfl C.2.2.2.2.2.1 hP hD hS C.2.2.2.2.2.2.1 (fun cA => rfl) (nI_nlt (b := 0) (Nat.zero_le _) (by omega)) (nI_clamp (by omega)) (by show N * 4 ≤ _; omega) hk (by omega) d (fun q cA H1 hK1 hP1 hD1 hS1 => ?_)
  have e : cA = jC0 E := Option.some.inj ((show (eS E).vm.findClass _ = some cA from (hK1.2 3 (cA, .int) rfl).2).symm.trans (hK1.2 0 (jC0 E, .int) rfl).2)
  subst e
  exact j_front (j_wide (k + 1) (n + M) (Nat.le_refl _) (by omega) (kk q)) H1 locs ls hP1 hD1 hS1 hl
theorem j_newZ (C : jC E cc nL own ws x) (N M : Nat) {m : Int32} (d : decode cc pc = .ok (.newarray .boolean, 2)) (harr : Cond.arrayClass .boolean ∈ ws) (he : m = nI N) (hN : N ≤ M) (hM : M < 1000) (hk : k + 1 ≤ (eR E).cells) (hn : n + M ≤ (eR E).slots) (kk : ∀ q : Nat, J E (k + 1) (n + M) (pc + 2) lv (.ref q :: st) ((q, .inl (jC1 E, N, .inl (fun _ => 0))) :: w)) : J E k n pc lv (.int m :: st) w := fun H locs ls hP hD hS hl => by
  subst he
  refine va_newa (D := (eG E).1) (cl := vwCl) (atype := .boolean) (ty := .boolean) (N' := N) (a0 := (N, .inl (fun _ => 0))) C.1 C.2.1 (C.2.2.2.2.1 _ harr) rfl C.2.2.2.2.2.1 hP hD hS C.2.2.2.2.2.2.1 (fun cA => rfl) (nI_nlt (b := 0) (Nat.zero_le _) (by omega)) (nI_clamp (by omega)) (by show N * 1 ≤ _; omega) hk (by omega) d (fun q cA H1 hK1 hP1 hD1 hS1 => ?_)
  have e : cA = jC1 E := Option.some.inj ((show (eS E).vm.findClass _ = some cA from (hK1.2 3 (cA, .boolean) rfl).2).symm.trans (hK1.2 1 (jC1 E, .boolean) rfl).2)
  subst e
  exact j_front (j_wide (k + 1) (n + M) (Nat.le_refl _) (by omega) (kk q)) H1 locs ls hP1 hD1 hS1 hl
/-- new Sim: before its constructor -/
abbrev jO (q : Nat) : Nat × va_E := (q, .inr (1, [.int 0, .int 0, .int 0, .int 0, .int 0, .int 0, .null, .null, .null, .null, .null]))
theorem j_new (C : jC E cc nL own ws x) {idx : Nat} (d : decode cc pc = .ok (.new idx, 3)) (hin : ∀ w ∈ wsX10, w ∈ ws) (h1 : Cond.classLink own idx RX1 ∈ ws) (h2 : Cond.instantiable RX1 11 ∈ ws) (h3 : Cond.initialized RX1 ∈ ws) (hk : k + 1 ≤ (eR E).cells) (hn : n + 11 ≤ (eR E).slots) (kk : ∀ q : Nat, J E (k + 1) (n + 11) (pc + 3) lv (.ref q :: st) (jO q :: w)) : J E k n pc lv st w := fun H locs ls hP hD hS hl => by
  refine va_new (ci := 1) (fs := [.int 0, .int 0, .int 0, .int 0, .int 0, .int 0, .null, .null, .null, .null, .null]) (C := RX1) (T := TX1) (N := 11) C.1 C.2.1 C.2.2.2.2.1 hin tyX1 tyX1_ok C.2.2.2.1 (C.2.2.2.2.1 _ h1) (C.2.2.2.2.1 _ h2) (C.2.2.2.2.1 _ h3) C.2.2.2.2.2.1 hP hD hS C.2.2.2.2.2.2.1 rfl (by decide +kernel) hk hn d (fun q H1 hP1 hD1 hS1 => ?_)
  exact j_front (kk q) H1 locs ls hP1 hD1 hS1 hl
/-- new boolean[12][12]: the outer one, then its rows, in front -/
theorem j_new2 (C : jC E cc nL own ws x) {idx : Nat} (d : decode cc pc = .ok (.multianewarray idx 2, 4)) (h1 : Cond.classLink own idx "[[Z" ∈ ws) (h2 : Cond.arrayClass .boolean ∈ ws) (hk : k + 13 ≤ (eR E).cells) (hn : n + 156 ≤ (eR E).slots) (kk : ∀ (q : Nat) (r : Nat → Nat), J E (k + 13) (n + 156) (pc + 4) lv (.ref q :: st) ((q, .inl (jC2 E, 12, .inr (.inr (.inr (.inr (fun i => if i < 12 then some (r i) else none)))))) :: ((List.range 12).map (fun i => ((r i, .inl (jC1 E, 12, .inl (fun _ => 0))) : Nat × va_E)) ++ w))) : J E k n pc lv (.int 12 :: .int 12 :: st) w := fun H locs ls hP hD hS hl => by
  have hP0 : va_P (eG E).1 vwCl (w ++ va_pl [] (fun _ => .inl (0, 0, .inl (fun _ => 0)))) H := by rw [show va_pl [] _ = [] from rfl, List.append_nil]; exact hP
  have hD0 : va_D (eA E) (w ++ va_pl [] (fun _ => .inl (0, 0, .inl (fun _ => 0)))) := by rw [show va_pl [] _ = [] from rfl, List.append_nil]; exact hD
  refine va_mna (ty := .boolean) (N' := 12) (K' := 12) (z := (12, .inl (fun _ => 0))) (cy := jC1 E) C.1 C.2.1 C.2.2.2.1 (C.2.2.2.2.1 _ h1) C.2.2.2.2.2.2.2.2.1.1 (C.2.2.2.2.1 _ h2) (C.2.2.2.2.2.1.2 1 (jC1 E, .boolean) rfl).2 C.2.2.2.2.2.1 hP0 hD0 hS C.2.2.2.2.2.2.1 (by decide) (by decide) (by decide) (by decide) (by decide) (by decide) (by decide) (by decide +kernel) rfl hk hn (fun c => ?_) d (fun q r cA H1 hr hL hK1 hP1 hD1 hS1 => ?_)
  · show ({ cls := c, slots := Array.replicate 12 (.int 0), vm := .none } : Cell) = arrV c 12 (fun _ => .int 0)
    exact arrV_new ..
  · have e : cA = jC2 E := Option.some.inj ((show (eS E).vm.findClass _ = some cA from (hK1.2 3 (cA, .array .boolean) rfl).2).symm.trans (hK1.2 2 (jC2 E, .array .boolean) rfl).2)
    subst e
    have ep : va_pl ([] ++ (List.range 12).map r) (vr_up (fun _ => .inl (0, 0, .inl (fun _ => 0))) ((List.range 12).map r) (.inl (jC1 E, 12, .inl (fun _ => 0)))) = (List.range 12).map (fun i => ((r i, .inl (jC1 E, 12, .inl (fun _ => 0))) : Nat × va_E)) := by
      unfold va_pl
      rw [List.nil_append, List.map_map]
      refine List.map_congr_left (fun i hi => ?_)
      show (r i, vr_up _ _ _ (r i)) = _
      rw [vr_up_in (List.mem_map_of_mem hi)]
    rw [ep] at hP1 hD1
    have h9 : J E (k + 13) (n + 156) (pc + 4) lv (.ref q :: st) ((w ++ [(q, .inl (jC2 E, 12, .inr (.inr (.inr (.inr (fun i => if i < 12 then some (r i) else none))))))]) ++ (List.range 12).map (fun i => ((r i, .inl (jC1 E, 12, .inl (fun _ => 0))) : Nat × va_E))) := by
      rw [List.append_assoc]
      have h7 : J E (k + 13) (n + 156) (pc + 4) lv (.ref q :: st) (w ++ (([(q, .inl (jC2 E, 12, .inr (.inr (.inr (.inr (fun i => if i < 12 then some (r i) else none))))))] ++ (List.range 12).map (fun i => ((r i, .inl (jC1 E, 12, .inl (fun _ => 0))) : Nat × va_E))) ++ [])) := j_swap (by rw [List.append_nil]; exact kk q r)
      rw [List.append_nil] at h7
      exact h7
    exact h9 H1 locs ls hP1 hD1 hS1 hl
/-- the end of a method: what it owes -/
theorem j_end {post : jPost} {v : Option Value} (C : jC E cc nL own ws x) (hq : post v w) {H : Heap} {locs : List Loc} (hP : va_P (eG E).1 vwCl w H) (hD : va_D (eA E) w) (hS : va_S (eA E) (eS E).heap H locs) : ∀ t : State, t.heap = H → (eS E).WarmedH t.vm → jQ (eG E) (eA E) post (eV E) (eS E) (.returned v) t :=
  fun t ht hW => ⟨⟨v, w, rfl, hq, by rw [ht]; exact hP, va_K.moved hW.alike C.2.2.2.2.2.1, hD⟩, hS.F ht⟩
theorem j_iret {post : jPost} {mc ms : Nat} {v : Int32} (C : jC E cc nL own ws x) (F : jF E post mc ms (some .int)) (d : decode cc pc = .ok (.ireturn, 1)) (hk : k ≤ mc) (hn : n ≤ ms) (hq : post (some (.int v)) w) : J E k n pc lv [.int v] w := fun H locs ls hP hD hS hl => by
  rw [F.1]
  exact W.widen hk hn (W.iret C.1 C.2.1 F.2.2 (j_end C hq hP hD hS) hS.2.2 d F.2.1)
theorem j_zret {post : jPost} {mc ms : Nat} {v : Int32} (C : jC E cc nL own ws x) (F : jF E post mc ms (some .boolean)) (d : decode cc pc = .ok (.ireturn, 1)) (hv : v = 0 ∨ v = 1) (hk : k ≤ mc) (hn : n ≤ ms) (hq : post (some (.int v)) w) : J E k n pc lv [.int v] w := fun H locs ls hP hD hS hl => by
  rw [F.1]
  exact W.widen hk hn (W.zret C.1 C.2.1 F.2.2 (by rcases hv with rfl | rfl <;> rfl) (j_end C hq hP hD hS) hS.2.2 d F.2.1)
theorem j_vret {post : jPost} {mc ms : Nat} (C : jC E cc nL own ws x) (F : jF E post mc ms none) (d : decode cc pc = .ok (.return_, 1)) (hk : k ≤ mc) (hn : n ≤ ms) (hq : post none w) : J E k n pc lv [] w := fun H locs ls hP hD hS hl => by
  rw [F.1]
  exact W.widen hk hn (W.vret C.1 C.2.1 F.2.2 (j_end C hq hP hD hS) hS.2.2 d F.2.1)
theorem j_aret {post : jPost} {mc ms : Nat} {rt : FieldType} {b : Nat} (C : jC E cc nL own ws x) (F : jF E post mc ms (some rt)) (hrt : (∃ n, rt = .object n) ∨ ∃ t, rt = .array t) (d : decode cc pc = .ok (.areturn, 1)) (hk : k ≤ mc) (hn : n ≤ ms) (hq : post (some (.ref b)) w) : J E k n pc lv [.ref b] w := fun H locs ls hP hD hS hl => by
  rw [F.1]
  exact W.widen hk hn (W.aret C.1 C.2.1 F.2.2 hrt (Or.inr ⟨b, rfl⟩) (j_end C hq hP hD hS) hS.2.2 d F.2.1)
theorem j_mmin (C : jC E cc nL own ws x) {idx : Nat} {y z : Int32} (d : decode cc pc = .ok (.invokestatic idx, 3)) (h1 : Cond.methodLink own idx Lib.Math.min.name ∈ ws) (h2 : Cond.static Lib.Math.min.name ∈ ws) (h3 : Cond.initialized "java/lang/Math" ∈ ws) (h4 : Cond.code Lib.Math.min.name Lib.Math.min.code 2 (some .int) ∈ ws) (hR : 1 ≤ (eR E).frames ∧ (st.map fun v => v.category).sum + 13 ≤ (eR E).locals ∧ k ≤ (eR E).cells ∧ n ≤ (eR E).slots) (kk : J E k n (pc + 3) lv (.int (if z < y then z else y) :: st) w) : J E k n pc lv (.int z :: .int y :: st) w := fun H locs ls hP hD hS hl => va_mmin C.1 C.2.1 hl.1.symm C.2.2.2.1 (C.2.2.2.2.1 _ h1) (C.2.2.2.2.1 _ h2) (C.2.2.2.2.1 _ h3) (C.2.2.2.2.1 _ h4) hR.1 hR.2.1 hR.2.2.1 hR.2.2.2 d (kk H locs ls hP hD hS hl)
theorem j_mmax (C : jC E cc nL own ws x) {idx : Nat} {y z : Int32} (d : decode cc pc = .ok (.invokestatic idx, 3)) (h1 : Cond.methodLink own idx Lib.Math.max.name ∈ ws) (h2 : Cond.static Lib.Math.max.name ∈ ws) (h3 : Cond.initialized "java/lang/Math" ∈ ws) (h4 : Cond.code Lib.Math.max.name Lib.Math.max.code 2 (some .int) ∈ ws) (hR : 1 ≤ (eR E).frames ∧ (st.map fun v => v.category).sum + 13 ≤ (eR E).locals ∧ k ≤ (eR E).cells ∧ n ≤ (eR E).slots) (kk : J E k n (pc + 3) lv (.int (if y < z then z else y) :: st) w) : J E k n pc lv (.int z :: .int y :: st) w := fun H locs ls hP hD hS hl => va_mmax C.1 C.2.1 hl.1.symm C.2.2.2.1 (C.2.2.2.2.1 _ h1) (C.2.2.2.2.1 _ h2) (C.2.2.2.2.1 _ h3) (C.2.2.2.2.1 _ h4) hR.1 hR.2.1 hR.2.2.1 hR.2.2.2 d (kk H locs ls hP hD hS hl)
end JR
end
section
/-! calls over any world; a Sim's cells, the class's cells -/
section JCALL
variable {E : gE} {cc : ByteArray} {nL : Nat} {own : String} {ws : List Cond} {x : jS} {k n pc : Nat} {lv : List (Nat × Value)} {st : List Value} {w : va_W}
theorem jAd_in (C : jC E cc nL own ws x) {H : Heap} {locs : List Loc} (hD : va_D (eA E) w) (hS : va_S (eA E) (eS E).heap H locs) : ∀ q, va_A w H.size q → eA E q := fun q h => by
  rcases h with ⟨j, e, h⟩ | h
  · exact hD.2 j (q, e) h
  · exact C.2.2.2.2.2.2.1 q (Nat.le_trans hS.1 h)
theorem j_pre {x' : jS} (C : jC E cc nL own ws x) (hx : jX x' (eA E) (eS E) (eS E).heap) {H : Heap} {locs : List Loc} {As : List Value} (hP : va_P (eG E).1 vwCl w H) (hD : va_D (eA E) w) (hS : va_S (eA E) (eS E).heap H locs) : ∀ U : State, U.heap = H → (eS E).WarmedH U.vm → va_Pc As (jP (eG E) w x' H.size) As.toArray U := fun U hU hW =>
  ⟨rfl, by rw [hU], by rw [hU]; exact hP, va_K.moved hW.alike C.2.2.2.2.2.1, hD.weaken (fun _ _ _ _ => trivial), uZ_pass C.2.2.2.2.2.2.2.1 hS hW hU (jAd_in C hD hS), jN_warm C.2.2.2.2.2.2.2.2.1 hW, jX_pass hx hS hW.alike hU (jAd_in C hD hS)⟩
theorem j_run {post : jPost} {mc ms : Nat} {rest : List Value} {a : Array Value} (C : jC E cc nL own ws x)
    (hr : ∀ (H : Heap) (locs : List Loc) (ls : Array Slot), va_P (eG E).1 vwCl w H → va_D (eA E) w → va_S (eA E) (eS E).heap H locs → lv_has ls (eC E).maxLocals lv →
      va_Run (eP E) (eL E) (eE E) (eR E) (eS E) (eM E) (eV E) (eB E) (eMt E) (eC E) H locs k n mc ms (F0 (eM E) pc ls st) rest (jQ (eG E) (va_A w H.size) post a) (va_A w H.size))
    (kk : ∀ v w', post v w' → J E (k + mc) (n + ms) (pc + 3) lv (v.toList ++ rest) w') : J E k n pc lv st w := by
  intro H locs ls hP hD hS hl T hT X
  have hA := jAd_in C hD hS
  obtain ⟨v, st₀, t, T', L, h0, X', hL, e1, e2, ⟨⟨v', w', hv, hp, hP', hK', hD'⟩, hF⟩, hg⟩ := hr H locs ls hP hD hS hl T hT X
  cases hv
  obtain ⟨k1, k2, k3⟩ := vx_keep h0 e1 hS (fun q _ h => hA q h) hA hL hF
  obtain ⟨t2, a1, b1⟩ := kk v w' hp T'.heap (locs ++ L) ls (by rw [e1]; exact hP') (hD'.weaken (fun _ _ _ h => hA _ h)) k3 hl T' rfl X'
  exact ⟨t2, hg t2 a1, b1⟩
theorem j_callV {post : jPost} {x' : jS} {fr lo mc ms idx maxL na : Nat} {y : MethodName} {bytes : ByteArray} {ret : Option FieldType} {wy wy' : List Cond} {Cl : String} {T : u_T} {N ci q0 b : Nat} {fs : List Value} {As rest : List Value} (C : jC E cc nL own ws x) (hx : jX x' (eA E) (eS E) (eS E).heap)
    (d : decode cc pc = .ok (.invokevirtual idx, 3)) (hM : CtJ (eL E) y wy fr lo mc ms (.ref b :: As) (eG E) x' w post) (hT : GoodIn ws (wsV own idx Cl y wy)) (hw : wy = Cond.code y bytes maxL ret :: wy')
    (hna : As.length = na) (hy : y.cls = Cl ∧ y.cls ≠ "java/lang/invoke/MethodHandle" ∧ y.cls ≠ "java/lang/invoke/VarHandle" ∧ (parseMethodDescriptor y.desc).map (fun d => d.parameters.length) = some na)
    (hq : w[q0]? = some (b, .inr (ci, fs))) (hc : vwCl[ci]? = some (Cl, T, N))
    (hst : st = As.reverse ++ .ref b :: rest) (hW : (rest.map fun v => v.category).sum ≤ 8)
    (hR : fr + 1 ≤ (eR E).frames ∧ 8 + (maxL + 11) + lo ≤ (eR E).locals) (hf : k + mc ≤ (eR E).cells ∧ n + ms ≤ (eR E).slots)
    (kk : ∀ v w', post v w' → J E (k + mc) (n + ms) (pc + 3) lv (v.toList ++ rest) w') : J E k n pc lv st w := by
  refine j_run (a := (Value.ref b :: As).toArray) C (fun H locs ls hP hD hS hl => ?_) kk
  exact va_runV (As := As) (rest := rest) ⟨C.1, C.2.1, C.2.2.1, C.2.2.2.1, C.2.2.2.2.1⟩ (hM H.size) (cwV na C.2.2.2.2.1 hT hw rfl rfl hy hR) ⟨jP_blind, va_recv C.2.2.2.2.2.1 hP hc hq, j_pre C hx hP hD hS⟩ rfl hna (hl.1.trans C.2.2.1) hst (lv_room hW) d hf
theorem j_callS {post : jPost} {x' : jS} {fr lo mc ms idx maxL na : Nat} {y : MethodName} {bytes : ByteArray} {ret : Option FieldType} {wy wy' : List Cond} {As rest : List Value} (C : jC E cc nL own ws x) (hx : jX x' (eA E) (eS E) (eS E).heap)
    (d : decode cc pc = .ok (.invokestatic idx, 3)) (hM : CtJ (eL E) y wy fr lo mc ms As (eG E) x' w post) (hT : GoodIn ws (va_wsS own idx y wy)) (hw : wy = Cond.code y bytes maxL ret :: wy')
    (hna : As.length = na) (hy : y.cls ≠ "java/lang/invoke/MethodHandle" ∧ y.cls ≠ "java/lang/invoke/VarHandle" ∧ (parseMethodDescriptor y.desc).map (fun d => d.parameters.length) = some na)
    (hst : st = As.reverse ++ rest) (hW : (rest.map fun v => v.category).sum ≤ 8)
    (hR : fr + 1 ≤ (eR E).frames ∧ 8 + (maxL + 11) + lo ≤ (eR E).locals) (hf : k + mc ≤ (eR E).cells ∧ n + ms ≤ (eR E).slots)
    (kk : ∀ v w', post v w' → J E (k + mc) (n + ms) (pc + 3) lv (v.toList ++ rest) w') : J E k n pc lv st w := by
  refine j_run (a := As.toArray) C (fun H locs ls hP hD hS hl => ?_) kk
  exact va_runS (As := As) (rest := rest) ⟨C.1, C.2.1, C.2.2.1, C.2.2.2.1, C.2.2.2.2.1⟩ (hM H.size) (va_cwS na C.2.2.2.2.1 hT hw rfl rfl hy hR) ⟨jP_blind, j_pre C hx hP hD hS⟩ rfl hna (hl.1.trans C.2.2.1) hst (lv_room hW) d hf
/-- a Sim's constructor, called by the Sim itself, and by the law (a nest mate) -/
theorem j_callI {post : jPost} {fr lo mc ms idx maxL b : Nat} {bytes : ByteArray} {wy wy' : List Cond} {rest : List Value} (C : jC E cc nL own ws x)
    (d : decode cc pc = .ok (.invokespecial idx, 3)) (hM : CtJ (eL E) yX1_init wy fr lo mc ms [.ref b] (eG E) none w post) (hT : GoodIn ws wy) (hw : wy = Cond.code yX1_init bytes maxL none :: wy')
    (h1 : Cond.initialized RX1 ∈ ws) (h2 : Cond.methodLink own idx yX1_init ∈ ws) (h3 : Cond.instanceMethod yX1_init ∈ ws)
    (hst : st = .ref b :: rest) (hW : (rest.map fun v => v.category).sum ≤ 8)
    (hR : fr + 1 ≤ (eR E).frames ∧ 8 + (maxL + 11) + lo ≤ (eR E).locals) (hf : k + mc ≤ (eR E).cells ∧ n + ms ≤ (eR E).slots)
    (kk : ∀ v w', post v w' → J E (k + mc) (n + ms) (pc + 3) lv (v.toList ++ rest) w') : J E k n pc lv st w := by
  refine j_run (a := (Value.ref b :: ([] : List Value)).toArray) C (fun H locs ls hP hD hS hl => ?_) kk
  exact va_runI (As := []) (rest := rest) ⟨C.1, C.2.1, C.2.2.1, C.2.2.2.1, C.2.2.2.2.1⟩ (hM H.size) (cwI 0 C.2.2.2.2.1 hT hw rfl rfl (C.2.2.2.2.1 _ h1) (C.2.2.2.2.1 _ h2) (C.2.2.2.2.1 _ h3) rfl (by decide +kernel) hR) ⟨jP_blind, j_pre C (jX_none C.2.2.2.2.2.2.2.2.2) hP hD hS⟩ rfl rfl (hl.1.trans C.2.2.1) hst (lv_room hW) d hf
theorem j_callIN {post : jPost} {fr lo mc ms maxL b : Nat} {bytes : ByteArray} {wy wy' : List Cond} {rest : List Value} (C : jC E cc nL RL ws x)
    (d : decode cc pc = .ok (.invokespecial 100, 3)) (hM : CtJ (eL E) yX1_init wy fr lo mc ms [.ref b] (eG E) none w post) (hT : GoodIn ws wy) (hw : wy = Cond.code yX1_init bytes maxL none :: wy')
    (h1 : Cond.initialized RX1 ∈ ws) (h3 : Cond.instanceMethod yX1_init ∈ ws)
    (hst : st = .ref b :: rest) (hW : (rest.map fun v => v.category).sum ≤ 8)
    (hR : fr + 1 ≤ (eR E).frames ∧ 8 + (maxL + 11) + lo ≤ (eR E).locals) (hf : k + mc ≤ (eR E).cells ∧ n + ms ≤ (eR E).slots)
    (kk : ∀ v w', post v w' → J E (k + mc) (n + ms) (pc + 3) lv (v.toList ++ rest) w') : J E k n pc lv st w := by
  refine j_run (a := (Value.ref b :: ([] : List Value)).toArray) C (fun H locs ls hP hD hS hl => ?_) kk
  exact va_runIN (As := []) (rest := rest) ⟨C.1, C.2.1, C.2.2.1, C.2.2.2.1, C.2.2.2.2.1⟩ (hM H.size) ⟨va_cnB 0 C.2.2.2.2.1 hT hw rfl rfl C.2.2.2.2.2.2.2.2.1.2 (C.2.2.2.2.1 _ h1) (by decide +kernel) hR, rfl, C.2.2.2.2.1 _ h3⟩ ⟨jP_blind, j_pre C (jX_none C.2.2.2.2.2.2.2.2.2) hP hD hS⟩ rfl rfl (hl.1.trans C.2.2.1) hst (lv_room hW) d hf
/-- the class's cells at the addresses ad, other cells behind them -/
abbrev jG (Γ : gG) (ad : Nat → Nat) (z : va_W) : gG := (Γ.1, ad, Γ.2.2.1, Γ.2.2.2.1, Γ.2.2.2.2.1, z)
def wX (Γ : gG) (ad : Nat → Nat) (σ : gS) (τ : gT) : va_W := wW (jG Γ ad []) σ τ zO
theorem wX_app (Γ : gG) (ad : Nat → Nat) (σ : gS) (τ : gT) (z : va_W) (o : gO) : wX Γ ad σ τ ++ z = wW (jG Γ ad z) σ τ o := rfl
/-- a call of the class's method -/
theorem j_callX {post : gPost} {fr lo mc ms idx maxL na : Nat} {y : MethodName} {bytes : ByteArray} {ret : Option FieldType} {wy wy' : List Cond} {As rest : List Value} {ad : Nat → Nat} {σ : gS} {τ : gT} {S z : va_W} (C : jC E cc nL own ws x)
    (d : decode cc pc = .ok (.invokevirtual idx, 3)) (hM : Ct (eL E) y wy fr lo mc ms (.ref (ad 100) :: As) (jG (eG E) ad (S ++ z)) σ τ zO post noX) (hT : GoodIn ws (wsV own idx RX0 y wy)) (hw : wy = Cond.code y bytes maxL ret :: wy')
    (hna : As.length = na) (hy : y.cls = RX0 ∧ y.cls ≠ "java/lang/invoke/MethodHandle" ∧ y.cls ≠ "java/lang/invoke/VarHandle" ∧ (parseMethodDescriptor y.desc).map (fun d => d.parameters.length) = some na)
    (hst : st = As.reverse ++ .ref (ad 100) :: rest) (hW : (rest.map fun v => v.category).sum ≤ 8)
    (hR : fr + 1 ≤ (eR E).frames ∧ 8 + (maxL + 11) + lo ≤ (eR E).locals) (hf : k + mc ≤ (eR E).cells ∧ n + ms ≤ (eR E).slots)
    (kk : ∀ v σ' τ' o', post v σ' τ' o' → J E (k + mc) (n + ms) (pc + 3) lv (v.toList ++ rest) (S ++ (wX (eG E) ad σ' τ' ++ z))) : J E k n pc lv st (S ++ (wX (eG E) ad σ τ ++ z)) := by
  refine j_swap ?_
  rw [wX_app (eG E) ad σ τ (S ++ z) zO]
  intro H locs ls hP hD hS hl T hT9 X
  have hA : ∀ q, uAd (jG (eG E) ad (S ++ z)) H.size q → eA E q := fun q h => jAd_in C hD hS q (uA_any h)
  have hu : ∀ U : State, U.heap = H → (eS E).WarmedH U.vm → va_Pc (.ref (ad 100) :: As) (uP (jG (eG E) ad (S ++ z)) H.size σ τ zO) (Value.ref (ad 100) :: As).toArray U := fun U hU hW => ⟨rfl, by rw [hU], ⟨by rw [hU]; exact hP, va_K.moved hW.alike C.2.2.2.2.2.1⟩, uD_any (hD.weaken (fun _ _ _ _ => trivial)), uZ_pass C.2.2.2.2.2.2.2.1 hS hW hU hA⟩
  rcases vx_runV (g := F0 (eM E) pc ls st) (As := As) (rest := rest) (p := eP E) (e := eE E) (below := eB E) (meth := eMt E) (locs := locs) (cells := k) (slots := n) ⟨C.1, C.2.1, C.2.2.1, C.2.2.2.1, C.2.2.2.2.1⟩ (hM H.size) (cwV na C.2.2.2.2.1 hT hw rfl rfl hy hR) ⟨uP_blind, va_recv (q0 := 0) C.2.2.2.2.2.1 hP rfl rfl, hu⟩ rfl hna (hl.1.trans C.2.2.1) hst (lv_room hW) d hf T hT9 X with ⟨v, st₀, t, T', L, h0, X', hL, e1, e2, ⟨⟨v', σ', τ', o', hv, hp, hB⟩, hF⟩, hg⟩ | ⟨q, st₀, t, T', L, Xn, ce, h0, X', hL, e1, e2, ⟨⟨σ', τ', o', hp, hB⟩, hF⟩, hce, hcv, hcl, hg⟩
  · cases hv
    obtain ⟨k1, k2, k3⟩ := vx_keep h0 e1 hS (fun q _ h => hA q h) hA hL hF
    have h9 : J E (k + mc) (n + ms) (pc + 3) lv (v.toList ++ rest) (wX (eG E) ad σ' τ' ++ (S ++ z)) := j_swap (kk v σ' τ' o' hp)
    obtain ⟨t2, a1, b1⟩ := h9 T'.heap (locs ++ L) ls (by rw [e1]; exact hB.1) (uD_any (o' := zO) hD) k3 hl T' rfl X'
    exact ⟨t2, hg t2 a1, b1⟩
  · exact hp.elim
end JCALL
/-- the start of a contract over any world -/
theorem ctj_of {l : Launch} {y : MethodName} {ws ws' : List Cond} {cc : ByteArray} {maxL fr lo mc ms : Nat} {ret : Option FieldType} {As : List Value} {Γ : gG} {x : jS} {w : va_W} {post : jPost} (hy : plainName y.cls = true) (hw : ws = Cond.code y cc maxL ret :: ws') (hn : (lg_sl As).length ≤ maxL)
    (body : ∀ E : gE, jC E cc maxL y.cls ws x → jF E post mc ms ret → (eMt E).name = y.name → eG E = Γ → eL E = l → eR E = { frames := fr, cells := mc, slots := ms, locals := lo } → J E 0 0 0 (lv_args 0 As) [] w) : CtJ l y ws fr lo mc ms As Γ x w post := by
  intro sz
  refine Met.ofW (cc := cc) (maxL := maxL) (ret := ret) hy hw ?_
  intro p e s m args below meth c s₁ B hml hv
  obtain ⟨rfl, hsz, hP, hK, hD0, hZ, hN, hX⟩ := hv
  subst hsz
  have hlv := lv_entry As hn
  rw [lg_entry_eq]
  exact body (p, l, e, (headSpec ws { frames := fr, cells := mc, slots := ms, locals := lo }).room, s, m, As.toArray, below, meth, c, Γ, va_A w s.heap.size, _) ⟨B.exec, B.bytes, hml, findClass_of_methodNamed B.named, atoms_spec (ws := ws) B.pre, hK, fun q h => Or.inr h, hZ, hN, hX⟩ ⟨rfl, B.notSynchronized, B.returns⟩ (name_of_methodNamed B.named B.method).1 rfl rfl rfl s.heap [] _ hP hD0.self va_S.rf (by rw [hml]; exact hlv)
/-- a Sim's cells: a: addresses by slot (100: itself, 20 + i, 40 + i: the rows of stand, of join), m, mj: how long the rows word, joined, s: numbers by slot, t: rows by slot -/
def sWr (Γ : gG) (a : Nat → Nat) (m mj : Nat) (s : gS) (t : gT) (r7 r8 : Nat → Option Nat) : va_W := [(a 100, .inr (1, [.int (s 0), .int (s 1), .int (s 2), .int (s 3), .int (s 4), .int (s 5), .ref (a 6), .ref (a 7), .ref (a 8), .ref (a 9), .ref (a 10)])), (a 6, .inl (Γ.2.2.1, 12, .inl (t 6))), (a 7, .inl (Γ.2.2.2.2.1, 12, .inr (.inr (.inr (.inr (r7)))))), (a 8, .inl (Γ.2.2.2.2.1, 12, .inr (.inr (.inr (.inr (r8)))))), (a 9, .inl (Γ.2.2.1, m, .inl (t 9))), (a 10, .inl (Γ.2.2.2.1, mj, .inl (t 10))), (a 20, .inl (Γ.2.2.2.1, 12, .inl (t 20))), (a 21, .inl (Γ.2.2.2.1, 12, .inl (t 21))), (a 22, .inl (Γ.2.2.2.1, 12, .inl (t 22))), (a 23, .inl (Γ.2.2.2.1, 12, .inl (t 23))), (a 24, .inl (Γ.2.2.2.1, 12, .inl (t 24))), (a 25, .inl (Γ.2.2.2.1, 12, .inl (t 25))), (a 26, .inl (Γ.2.2.2.1, 12, .inl (t 26))), (a 27, .inl (Γ.2.2.2.1, 12, .inl (t 27))), (a 28, .inl (Γ.2.2.2.1, 12, .inl (t 28))), (a 29, .inl (Γ.2.2.2.1, 12, .inl (t 29))), (a 30, .inl (Γ.2.2.2.1, 12, .inl (t 30))), (a 31, .inl (Γ.2.2.2.1, 12, .inl (t 31))), (a 40, .inl (Γ.2.2.2.1, 12, .inl (t 40))), (a 41, .inl (Γ.2.2.2.1, 12, .inl (t 41))), (a 42, .inl (Γ.2.2.2.1, 12, .inl (t 42))), (a 43, .inl (Γ.2.2.2.1, 12, .inl (t 43))), (a 44, .inl (Γ.2.2.2.1, 12, .inl (t 44))), (a 45, .inl (Γ.2.2.2.1, 12, .inl (t 45))), (a 46, .inl (Γ.2.2.2.1, 12, .inl (t 46))), (a 47, .inl (Γ.2.2.2.1, 12, .inl (t 47))), (a 48, .inl (Γ.2.2.2.1, 12, .inl (t 48))), (a 49, .inl (Γ.2.2.2.1, 12, .inl (t 49))), (a 50, .inl (Γ.2.2.2.1, 12, .inl (t 50))), (a 51, .inl (Γ.2.2.2.1, 12, .inl (t 51)))]
abbrev aR (a : Nat → Nat) (b : Nat) : Nat → Option Nat := fun i => if i < 12 then some (a (b + i)) else none
def sW (Γ : gG) (a : Nat → Nat) (m mj : Nat) (s : gS) (t : gT) : va_W := sWr Γ a m mj s t (aR a 20) (aR a 40)
theorem sW_st (Γ : gG) (a : Nat → Nat) (m mj : Nat) (s : gS) (t : gT) (z : va_W) : ∀ i, i < 12 → (sW Γ a m mj s t ++ z)[6 + i]? = some (a (20 + i), .inl (Γ.2.2.2.1, 12, .inl (t (20 + i))))
  | 0, _ => rfl
  | 1, _ => rfl
  | 2, _ => rfl
  | 3, _ => rfl
  | 4, _ => rfl
  | 5, _ => rfl
  | 6, _ => rfl
  | 7, _ => rfl
  | 8, _ => rfl
  | 9, _ => rfl
  | 10, _ => rfl
  | 11, _ => rfl
  | i + 12, h => absurd h (by omega)
theorem sW_st_set (Γ : gG) (a : Nat → Nat) (m mj : Nat) (s : gS) (t : gT) (z : va_W) (j : Nat) (v : Int32) : ∀ i, i < 12 → (sW Γ a m mj s t ++ z).set (6 + i) (a (20 + i), .inl (Γ.2.2.2.1, 12, .inl (upd (t (20 + i)) j v))) = sW Γ a m mj s (uT t (20 + i) j v) ++ z
  | 0, _ => rfl
  | 1, _ => rfl
  | 2, _ => rfl
  | 3, _ => rfl
  | 4, _ => rfl
  | 5, _ => rfl
  | 6, _ => rfl
  | 7, _ => rfl
  | 8, _ => rfl
  | 9, _ => rfl
  | 10, _ => rfl
  | 11, _ => rfl
  | i + 12, h => absurd h (by omega)
theorem sW_jn (Γ : gG) (a : Nat → Nat) (m mj : Nat) (s : gS) (t : gT) (z : va_W) : ∀ i, i < 12 → (sW Γ a m mj s t ++ z)[18 + i]? = some (a (40 + i), .inl (Γ.2.2.2.1, 12, .inl (t (40 + i))))
  | 0, _ => rfl
  | 1, _ => rfl
  | 2, _ => rfl
  | 3, _ => rfl
  | 4, _ => rfl
  | 5, _ => rfl
  | 6, _ => rfl
  | 7, _ => rfl
  | 8, _ => rfl
  | 9, _ => rfl
  | 10, _ => rfl
  | 11, _ => rfl
  | i + 12, h => absurd h (by omega)
theorem sW_jn_set (Γ : gG) (a : Nat → Nat) (m mj : Nat) (s : gS) (t : gT) (z : va_W) (j : Nat) (v : Int32) : ∀ i, i < 12 → (sW Γ a m mj s t ++ z).set (18 + i) (a (40 + i), .inl (Γ.2.2.2.1, 12, .inl (upd (t (40 + i)) j v))) = sW Γ a m mj s (uT t (40 + i) j v) ++ z
  | 0, _ => rfl
  | 1, _ => rfl
  | 2, _ => rfl
  | 3, _ => rfl
  | 4, _ => rfl
  | 5, _ => rfl
  | 6, _ => rfl
  | 7, _ => rfl
  | 8, _ => rfl
  | 9, _ => rfl
  | 10, _ => rfl
  | 11, _ => rfl
  | i + 12, h => absurd h (by omega)
section JS
variable {E : gE} {cc : ByteArray} {nL : Nat} {own : String} {ws : List Cond} {x : jS} {k n pc : Nat} {lv : List (Nat × Value)} {st : List Value} {a : Nat → Nat} {m mj : Nat} {s : gS} {t : gT} {z : va_W}
/-- a number of a Sim behind the cells F -/
theorem jS_put (C : jC E cc nL own ws x) (F : va_W) (p c : Nat) {idx : Nat} {fs : List Value} {v : Int32} (d : decode cc pc = .ok (.putfield idx, 3)) (hin : ∀ w ∈ wsX10, w ∈ ws) (hk : c < 11) (hw : Cond.fieldLink own idx RX1 (TX1 c).2.1 (TX1 c).2.2.1 ∈ ws) (hT : (TX1 c).1 = RX1) (hf : (TX1 c).2.2.2 = false) (hd : parseFieldDescriptor (TX1 c).2.2.1 = some .int) (he : (F ++ (sW (eG E) a m mj s t ++ z))[p]? = some (a 100, .inr (1, fs))) (hlen : c < fs.length) (hw' : (F ++ (sW (eG E) a m mj s t ++ z)).set p (a 100, .inr (1, fs.set c (.int v))) = F ++ (sW (eG E) a m mj (uS s c v) t ++ z)) (kk : J E k n (pc + 3) lv st (F ++ (sW (eG E) a m mj (uS s c v) t ++ z))) : J E k n pc lv (.int v :: .ref (a 100) :: st) (F ++ (sW (eG E) a m mj s t ++ z)) :=
  j_put C p c d hin hk hw hT hf he hd rfl rfl hlen hw' kk
/-- letters, words (c = 6, 9), joined (c = 10) of a Sim behind the cells F -/
theorem jS_iast (C : jC E cc nL own ws x) (F : va_W) (p c j : Nat) {N : Nat} {i v : Int32} (d : decode cc pc = .ok (.iastore, 1)) (ha : (F ++ (sW (eG E) a m mj s t ++ z))[p]? = some (a c, .inl (jC0 E, N, .inl (t c)))) (he : i = nI j) (hj : j < N) (hN : N < 1000) (hw : (F ++ (sW (eG E) a m mj s t ++ z)).set p (a c, .inl (jC0 E, N, .inl (upd (t c) j v))) = F ++ (sW (eG E) a m mj s (uT t c j v) ++ z)) (kk : J E k n (pc + 1) lv st (F ++ (sW (eG E) a m mj s (uT t c j v) ++ z))) : J E k n pc lv (.int v :: .int i :: .ref (a c) :: st) (F ++ (sW (eG E) a m mj s t ++ z)) := j_iast C p j d ha he hj hN hw kk
theorem jS_zast (C : jC E cc nL own ws x) (F : va_W) (p c j : Nat) {N : Nat} {i v : Int32} (d : decode cc pc = .ok (.bastore, 1)) (ha : (F ++ (sW (eG E) a m mj s t ++ z))[p]? = some (a c, .inl (jC1 E, N, .inl (t c)))) (he : i = nI j) (hj : j < N) (hN : N < 1000) (hv : v = 0 ∨ v = 1) (hw : (F ++ (sW (eG E) a m mj s t ++ z)).set p (a c, .inl (jC1 E, N, .inl (upd (t c) j v))) = F ++ (sW (eG E) a m mj s (uT t c j v) ++ z)) (kk : J E k n (pc + 1) lv st (F ++ (sW (eG E) a m mj s (uT t c j v) ++ z))) : J E k n pc lv (.int v :: .int i :: .ref (a c) :: st) (F ++ (sW (eG E) a m mj s t ++ z)) := j_zast C p j d ha he hj hN hv hw kk
/-- an array in front, behind another one -/
theorem jF_iast (C : jC E cc nL own ws x) (j : Nat) {q N : Nat} {f : Nat → Int32} {i v : Int32} {w : va_W} (d : decode cc pc = .ok (.iastore, 1)) (he : i = nI j) (hj : j < N) (hN : N < 1000) (kk : J E k n (pc + 1) lv st ((q, .inl (jC0 E, N, .inl (upd f j v))) :: w)) : J E k n pc lv (.int v :: .int i :: .ref q :: st) ((q, .inl (jC0 E, N, .inl f)) :: w) := j_iast C 0 j d rfl he hj hN rfl kk
theorem jF_iast1 (C : jC E cc nL own ws x) (j : Nat) {q N : Nat} {f : Nat → Int32} {i v : Int32} {c0 : Nat × va_E} {w : va_W} (d : decode cc pc = .ok (.iastore, 1)) (he : i = nI j) (hj : j < N) (hN : N < 1000) (kk : J E k n (pc + 1) lv st (c0 :: (q, .inl (jC0 E, N, .inl (upd f j v))) :: w)) : J E k n pc lv (.int v :: .int i :: .ref q :: st) (c0 :: (q, .inl (jC0 E, N, .inl f)) :: w) := j_iast C 1 j d rfl he hj hN rfl kk
theorem jF_zast (C : jC E cc nL own ws x) (j : Nat) {q N : Nat} {f : Nat → Int32} {i v : Int32} {w : va_W} (d : decode cc pc = .ok (.bastore, 1)) (he : i = nI j) (hj : j < N) (hN : N < 1000) (hv : v = 0 ∨ v = 1) (kk : J E k n (pc + 1) lv st ((q, .inl (jC1 E, N, .inl (upd f j v))) :: w)) : J E k n pc lv (.int v :: .int i :: .ref q :: st) ((q, .inl (jC1 E, N, .inl f)) :: w) := j_zast C 0 j d rfl he hj hN hv rfl kk
/-- the rows of stand (b = 20, f = 6), of join (b = 40, f = 18) -/
theorem jS_row (C : jC E cc nL own ws x) (p c b i : Nat) {w : va_W} {y : Int32} (d : decode cc pc = .ok (.aaload, 1)) (ha : w[p]? = some (a c, .inl (jC2 E, 12, .inr (.inr (.inr (.inr (fun i => if i < 12 then some (a (b + i)) else none))))))) (he : y = nI i) (hi : i < 12) (kk : J E k n (pc + 1) lv (.ref (a (b + i)) :: st) w) : J E k n pc lv (.int y :: .ref (a c) :: st) w := j_aald C p i d ha he hi (by decide) (if_pos hi) kk
theorem jS_st (C : jC E cc nL own ws x) (F : va_W) (i j : Nat) {y : Int32} (d : decode cc pc = .ok (.baload, 1)) (he : y = nI j) (hi : i < 12) (hj : j < 12) (kk : J E k n (pc + 1) lv (.int (t (20 + i) j) :: st) (F ++ (sW (eG E) a m mj s t ++ z))) : J E k n pc lv (.int y :: .ref (a (20 + i)) :: st) (F ++ (sW (eG E) a m mj s t ++ z)) := j_zald C (F.length + (6 + i)) j d (by rw [List.getElem?_append_right (Nat.le_add_right _ _), Nat.add_sub_cancel_left]; exact sW_st (eG E) a m mj s t z i hi) he hj (by decide) kk
theorem jS_jn (C : jC E cc nL own ws x) (F : va_W) (i j : Nat) {y : Int32} (d : decode cc pc = .ok (.baload, 1)) (he : y = nI j) (hi : i < 12) (hj : j < 12) (kk : J E k n (pc + 1) lv (.int (t (40 + i) j) :: st) (F ++ (sW (eG E) a m mj s t ++ z))) : J E k n pc lv (.int y :: .ref (a (40 + i)) :: st) (F ++ (sW (eG E) a m mj s t ++ z)) := j_zald C (F.length + (18 + i)) j d (by rw [List.getElem?_append_right (Nat.le_add_right _ _), Nat.add_sub_cancel_left]; exact sW_jn (eG E) a m mj s t z i hi) he hj (by decide) kk
theorem jS_set {F W W' : va_W} {q : Nat} {e : Nat × va_E} (h : W.set q e = W') : (F ++ W).set (F.length + q) e = F ++ W' := by
  rw [List.set_append_right _ _ (Nat.le_add_right _ _), Nat.add_sub_cancel_left, h]
theorem jS_stput (C : jC E cc nL own ws x) (F : va_W) (i j : Nat) {y v : Int32} (d : decode cc pc = .ok (.bastore, 1)) (he : y = nI j) (hi : i < 12) (hj : j < 12) (hv : v = 0 ∨ v = 1) (kk : J E k n (pc + 1) lv st (F ++ (sW (eG E) a m mj s (uT t (20 + i) j v) ++ z))) : J E k n pc lv (.int v :: .int y :: .ref (a (20 + i)) :: st) (F ++ (sW (eG E) a m mj s t ++ z)) := j_zast C (F.length + (6 + i)) j d (by rw [List.getElem?_append_right (Nat.le_add_right _ _), Nat.add_sub_cancel_left]; exact sW_st (eG E) a m mj s t z i hi) he hj (by decide) hv (jS_set (sW_st_set (eG E) a m mj s t z j v i hi)) kk
theorem jS_jnput (C : jC E cc nL own ws x) (F : va_W) (i j : Nat) {y v : Int32} (d : decode cc pc = .ok (.bastore, 1)) (he : y = nI j) (hi : i < 12) (hj : j < 12) (hv : v = 0 ∨ v = 1) (kk : J E k n (pc + 1) lv st (F ++ (sW (eG E) a m mj s (uT t (40 + i) j v) ++ z))) : J E k n pc lv (.int v :: .int y :: .ref (a (40 + i)) :: st) (F ++ (sW (eG E) a m mj s t ++ z)) := j_zast C (F.length + (18 + i)) j d (by rw [List.getElem?_append_right (Nat.le_add_right _ _), Nat.add_sub_cancel_left]; exact sW_jn (eG E) a m mj s t z i hi) he hj (by decide) hv (jS_set (sW_jn_set (eG E) a m mj s t z j v i hi)) kk
theorem jT_iast (C : jC E cc nL own ws x) (j : Nat) {q N : Nat} {f : Nat → Int32} {i v : Int32} (d : decode cc pc = .ok (.iastore, 1)) (he : i = nI j) (hj : j < N) (hN : N < 1000) (kk : J E k n (pc + 1) lv st (sW (eG E) a m mj s t ++ ((q, .inl (jC0 E, N, .inl (upd f j v))) :: z))) : J E k n pc lv (.int v :: .int i :: .ref q :: st) (sW (eG E) a m mj s t ++ ((q, .inl (jC0 E, N, .inl f)) :: z)) := j_iast C 30 j d rfl he hj hN rfl kk
theorem jT_iast1 (C : jC E cc nL own ws x) (j : Nat) {q N : Nat} {f : Nat → Int32} {i v : Int32} {c0 : Nat × va_E} (d : decode cc pc = .ok (.iastore, 1)) (he : i = nI j) (hj : j < N) (hN : N < 1000) (kk : J E k n (pc + 1) lv st (sW (eG E) a m mj s t ++ (c0 :: (q, .inl (jC0 E, N, .inl (upd f j v))) :: z))) : J E k n pc lv (.int v :: .int i :: .ref q :: st) (sW (eG E) a m mj s t ++ (c0 :: (q, .inl (jC0 E, N, .inl f)) :: z)) := j_iast C 31 j d rfl he hj hN rfl kk
theorem jT_zast (C : jC E cc nL own ws x) (j : Nat) {q N : Nat} {f : Nat → Int32} {i v : Int32} (d : decode cc pc = .ok (.bastore, 1)) (he : i = nI j) (hj : j < N) (hN : N < 1000) (hv : v = 0 ∨ v = 1) (kk : J E k n (pc + 1) lv st (sW (eG E) a m mj s t ++ ((q, .inl (jC1 E, N, .inl (upd f j v))) :: z))) : J E k n pc lv (.int v :: .int i :: .ref q :: st) (sW (eG E) a m mj s t ++ ((q, .inl (jC1 E, N, .inl f)) :: z)) := j_zast C 30 j d rfl he hj hN hv rfl kk
/-- the cell behind the Sim is forgotten -/
theorem j_drop1 {S c : va_W} {e : Nat × va_E} (kk : J E k n pc lv st (S ++ c)) : J E k n pc lv st (S ++ (e :: c)) := j_swap (a := S) (b := [e]) (c := c) (j_drop kk)
/-- the new cell goes behind the Sim -/
theorem j_behind {S c : va_W} {e : Nat × va_E} (kk : J E k n pc lv st (S ++ (e :: c))) : J E k n pc lv st (e :: (S ++ c)) := j_swap (a := [e]) (b := S) (c := c) kk
def aU (a : Nat → Nat) (c q : Nat) : Nat → Nat := fun x => if x = c then q else a x
/-- sim.word = .., sim.joined = .. -/
theorem aU_row {a : Nat → Nat} {b c q : Nat} (h : c < 20) (hb : 20 ≤ b) : aR (aU a c q) b = aR a b := by
  funext i
  have e : aU a c q (b + i) = a (b + i) := if_neg (show ¬ b + i = c by omega)
  show (if i < 12 then some (aU a c q (b + i)) else none) = _
  rw [e]
theorem jS_word (C : jC E cc nL own ws x) {idx q N : Nat} {f : Nat → Int32} (d : decode cc pc = .ok (.putfield idx, 3)) (hin : ∀ w ∈ wsX10, w ∈ ws) (hw : Cond.fieldLink own idx RX1 (TX1 9).2.1 (TX1 9).2.2.1 ∈ ws) (kk : J E k n (pc + 3) lv st (sW (eG E) (aU a 9 q) N mj s (uA1 t 9 f) ++ z)) : J E k n pc lv (.ref q :: .ref (a 100) :: st) (sW (eG E) a m mj s t ++ ((q, .inl (jC0 E, N, .inl f)) :: z)) := by
  refine j_put C 0 9 (ty := .array .int) d hin (by decide) hw rfl rfl rfl (by decide +kernel) rfl rfl (Nat.le_of_ble_eq_true rfl) rfl ?_
  have e : sW (eG E) (aU a 9 q) N mj s (uA1 t 9 f) = sWr (eG E) (aU a 9 q) N mj s (uA1 t 9 f) (aR a 20) (aR a 40) := by
    unfold sW
    rw [aU_row (c := 9) (by decide) (by decide), aU_row (c := 9) (by decide) (by decide)]
  rw [e] at kk
  exact j_part (X := ((sW (eG E) a m mj s t).set 0 (a 100, .inr (1, [.int (s 0), .int (s 1), .int (s 2), .int (s 3), .int (s 4), .int (s 5), .ref (a 6), .ref (a 7), .ref (a 8), .ref (a 9), .ref (a 10)].set 9 (.ref q)))) ++ [(q, .inl (jC0 E, N, .inl f))]) (cx := sWr (eG E) (aU a 9 q) N mj s (uA1 t 9 f) (aR a 20) (aR a 40)) (pl := z) [0, 1, 2, 3, 30, 5, 6, 7, 8, 9, 10, 11, 12, 13, 14, 15, 16, 17, 18, 19, 20, 21, 22, 23, 24, 25, 26, 27, 28, 29] (by decide) rfl kk
theorem jS_joined (C : jC E cc nL own ws x) {idx q N : Nat} {f : Nat → Int32} (d : decode cc pc = .ok (.putfield idx, 3)) (hin : ∀ w ∈ wsX10, w ∈ ws) (hw : Cond.fieldLink own idx RX1 (TX1 10).2.1 (TX1 10).2.2.1 ∈ ws) (kk : J E k n (pc + 3) lv st (sW (eG E) (aU a 10 q) m N s (uA1 t 10 f) ++ z)) : J E k n pc lv (.ref q :: .ref (a 100) :: st) (sW (eG E) a m mj s t ++ ((q, .inl (jC1 E, N, .inl f)) :: z)) := by
  refine j_put C 0 10 (ty := .array .boolean) d hin (by decide) hw rfl rfl rfl (by decide +kernel) rfl rfl (Nat.le_of_ble_eq_true rfl) rfl ?_
  have e : sW (eG E) (aU a 10 q) m N s (uA1 t 10 f) = sWr (eG E) (aU a 10 q) m N s (uA1 t 10 f) (aR a 20) (aR a 40) := by
    unfold sW
    rw [aU_row (c := 10) (by decide) (by decide), aU_row (c := 10) (by decide) (by decide)]
  rw [e] at kk
  exact j_part (X := ((sW (eG E) a m mj s t).set 0 (a 100, .inr (1, [.int (s 0), .int (s 1), .int (s 2), .int (s 3), .int (s 4), .int (s 5), .ref (a 6), .ref (a 7), .ref (a 8), .ref (a 9), .ref (a 10)].set 10 (.ref q)))) ++ [(q, .inl (jC1 E, N, .inl f))]) (cx := sWr (eG E) (aU a 10 q) m N s (uA1 t 10 f) (aR a 20) (aR a 40)) (pl := z) [0, 1, 2, 3, 4, 30, 6, 7, 8, 9, 10, 11, 12, 13, 14, 15, 16, 17, 18, 19, 20, 21, 22, 23, 24, 25, 26, 27, 28, 29] (by decide) rfl kk
theorem j_dropL (S : va_W) {c : va_W} (kk : J E k n pc lv st c) : J E k n pc lv st (S ++ c) := j_part (X := S) (cx := []) (pl := c) [] rfl rfl kk
end JS
section JCALL2
variable {E : gE} {cc : ByteArray} {nL : Nat} {own : String} {ws : List Cond} {x x' : jS} {k n pc : Nat} {lv : List (Nat × Value)} {st : List Value} {w w1 : va_W}
variable {fr lo mc ms idx maxL na : Nat} {y : MethodName} {bytes : ByteArray} {ret : Option FieldType} {wy wy' : List Cond} {q0 b : Nat} {fs : List Value} {As rest : List Value}
/-- a Sim's method that answers r, the world w1 behind it -/
theorem j_callE {v : Option Value} (C : jC E cc nL own ws x) (d : decode cc pc = .ok (.invokevirtual idx, 3)) (hM : CtJ (eL E) y wy fr lo mc ms (.ref b :: As) (eG E) none w (jE v w1)) (hT : GoodIn ws (wsV own idx RX1 y wy)) (hw : wy = Cond.code y bytes maxL ret :: wy') (hna : As.length = na) (hy : y.cls = RX1 ∧ y.cls ≠ "java/lang/invoke/MethodHandle" ∧ y.cls ≠ "java/lang/invoke/VarHandle" ∧ (parseMethodDescriptor y.desc).map (fun d => d.parameters.length) = some na) (hq : w[q0]? = some (b, .inr (1, fs))) (hst : st = As.reverse ++ .ref b :: rest) (hW : (rest.map fun v => v.category).sum ≤ 8) (hR : fr + 1 ≤ (eR E).frames ∧ 8 + (maxL + 11) + lo ≤ (eR E).locals) (hf : k + mc ≤ (eR E).cells ∧ n + ms ≤ (eR E).slots) (kk : J E (k + mc) (n + ms) (pc + 3) lv (v.toList ++ rest) w1) : J E k n pc lv st w := j_callV C (jX_none C.2.2.2.2.2.2.2.2.2) d hM hT hw hna hy hq rfl hst hW hR hf (fun v' w' h => by
  obtain ⟨rfl, rfl⟩ := h
  exact kk)
theorem j_callP {post : jPost} (C : jC E cc nL own ws x) (d : decode cc pc = .ok (.invokevirtual idx, 3)) (hM : CtJ (eL E) y wy fr lo mc ms (.ref b :: As) (eG E) none w post) (hT : GoodIn ws (wsV own idx RX1 y wy)) (hw : wy = Cond.code y bytes maxL ret :: wy') (hna : As.length = na) (hy : y.cls = RX1 ∧ y.cls ≠ "java/lang/invoke/MethodHandle" ∧ y.cls ≠ "java/lang/invoke/VarHandle" ∧ (parseMethodDescriptor y.desc).map (fun d => d.parameters.length) = some na) (hq : w[q0]? = some (b, .inr (1, fs))) (hst : st = As.reverse ++ .ref b :: rest) (hW : (rest.map fun v => v.category).sum ≤ 8) (hR : fr + 1 ≤ (eR E).frames ∧ 8 + (maxL + 11) + lo ≤ (eR E).locals) (hf : k + mc ≤ (eR E).cells ∧ n + ms ≤ (eR E).slots) (kk : ∀ v w', post v w' → J E (k + mc) (n + ms) (pc + 3) lv (v.toList ++ rest) w') : J E k n pc lv st w := j_callV C (jX_none C.2.2.2.2.2.2.2.2.2) d hM hT hw hna hy hq rfl hst hW hR hf kk
/-- the class's method with the answer v, its world σ1 τ1 behind it -/
theorem j_callXE {v : Option Value} {ad : Nat → Nat} {σ σ1 : gS} {τ τ1 : gT} {o1 : gO} {S z : va_W} (C : jC E cc nL own ws x) (d : decode cc pc = .ok (.invokevirtual idx, 3)) (hM : Ct (eL E) y wy fr lo mc ms (.ref (ad 100) :: As) (jG (eG E) ad (S ++ z)) σ τ zO (pE v σ1 τ1 o1) noX) (hT : GoodIn ws (wsV own idx RX0 y wy)) (hw : wy = Cond.code y bytes maxL ret :: wy') (hna : As.length = na) (hy : y.cls = RX0 ∧ y.cls ≠ "java/lang/invoke/MethodHandle" ∧ y.cls ≠ "java/lang/invoke/VarHandle" ∧ (parseMethodDescriptor y.desc).map (fun d => d.parameters.length) = some na) (hst : st = As.reverse ++ .ref (ad 100) :: rest) (hW : (rest.map fun v => v.category).sum ≤ 8) (hR : fr + 1 ≤ (eR E).frames ∧ 8 + (maxL + 11) + lo ≤ (eR E).locals) (hf : k + mc ≤ (eR E).cells ∧ n + ms ≤ (eR E).slots) (kk : J E (k + mc) (n + ms) (pc + 3) lv (v.toList ++ rest) (S ++ (wX (eG E) ad σ1 τ1 ++ z))) : J E k n pc lv st (S ++ (wX (eG E) ad σ τ ++ z)) := j_callX C d hM hT hw hna hy hst hW hR hf (fun v' σ' τ' o' h => by
  obtain ⟨rfl, rfl, rfl, rfl⟩ := h
  exact kk)
theorem j_callXi {P : Int32 → gS → gT → gO → Prop} {ad : Nat → Nat} {σ : gS} {τ : gT} {S z : va_W} (C : jC E cc nL own ws x) (d : decode cc pc = .ok (.invokevirtual idx, 3)) (hM : Ct (eL E) y wy fr lo mc ms (.ref (ad 100) :: As) (jG (eG E) ad (S ++ z)) σ τ zO (pI P) noX) (hT : GoodIn ws (wsV own idx RX0 y wy)) (hw : wy = Cond.code y bytes maxL ret :: wy') (hna : As.length = na) (hy : y.cls = RX0 ∧ y.cls ≠ "java/lang/invoke/MethodHandle" ∧ y.cls ≠ "java/lang/invoke/VarHandle" ∧ (parseMethodDescriptor y.desc).map (fun d => d.parameters.length) = some na) (hst : st = As.reverse ++ .ref (ad 100) :: rest) (hW : (rest.map fun v => v.category).sum ≤ 8) (hR : fr + 1 ≤ (eR E).frames ∧ 8 + (maxL + 11) + lo ≤ (eR E).locals) (hf : k + mc ≤ (eR E).cells ∧ n + ms ≤ (eR E).slots) (kk : ∀ r σ' τ' o', P r σ' τ' o' → J E (k + mc) (n + ms) (pc + 3) lv (.int r :: rest) (S ++ (wX (eG E) ad σ' τ' ++ z))) : J E k n pc lv st (S ++ (wX (eG E) ad σ τ ++ z)) := j_callX C d hM hT hw hna hy hst hW hR hf (fun v' σ' τ' o' h => by
  obtain ⟨r, rfl, h⟩ := h
  exact kk r σ' τ' o' h)
theorem j_callSE {v : Option Value} (C : jC E cc nL own ws x) (hx : jX x' (eA E) (eS E) (eS E).heap) (d : decode cc pc = .ok (.invokestatic idx, 3)) (hM : CtJ (eL E) y wy fr lo mc ms As (eG E) x' w (jE v w1)) (hT : GoodIn ws (va_wsS own idx y wy)) (hw : wy = Cond.code y bytes maxL ret :: wy') (hna : As.length = na) (hy : y.cls ≠ "java/lang/invoke/MethodHandle" ∧ y.cls ≠ "java/lang/invoke/VarHandle" ∧ (parseMethodDescriptor y.desc).map (fun d => d.parameters.length) = some na) (hst : st = As.reverse ++ rest) (hW : (rest.map fun v => v.category).sum ≤ 8) (hR : fr + 1 ≤ (eR E).frames ∧ 8 + (maxL + 11) + lo ≤ (eR E).locals) (hf : k + mc ≤ (eR E).cells ∧ n + ms ≤ (eR E).slots) (kk : J E (k + mc) (n + ms) (pc + 3) lv (v.toList ++ rest) w1) : J E k n pc lv st w := j_callS C hx d hM hT hw hna hy hst hW hR hf (fun v' w' h => by
  obtain ⟨rfl, rfl⟩ := h
  exact kk)
end JCALL2
end
section
/-! the class's leaves: contracts -/
/-- hasBit -/
def hb (x y : Int32) : Int32 := if (x >>> (y &&& 31)) &&& 1 = 1 then 1 else 0
theorem hb_01 (x y : Int32) : hb x y = 0 ∨ hb x y = 1 := by unfold hb; split <;> simp
/-- countOfLetters -/
def cn (lm L : Int32) : Int32 := (L + lm - 1) / lm
/-- mayHold -/
def mh (nl : Nat) (S Tg : Nat → Int32) (p : Nat) (w : Int32) : Int32 := if p < nl then hb (S (Tg p).toNatClampNeg) w else 0
/-- the least count, where there is a word -/
def al (nl : Nat) (lc x : Int32) : Int32 := if nl = 0 then 0 else if x < lc then lc else x
set_option maxHeartbeats 4000000 in
set_option maxRecDepth 100000 in
theorem c_hasBit {l : Launch} (hl : l.stackTraces = false) (Γ : gG) (σ : gS) (τ : gT) (o : gO) (x y : Int32) : Ct l yX0_hasBit wsX0_hasBit 1 32 0 0 [.int x, .int y] Γ σ τ o (pE (some (.int (hb x y))) σ τ o) (noX) := by
  refine ct_of hl (by decide +kernel) rfl (Nat.le_of_ble_eq_true rfl) ?_
  intro E C F T hΓ hL R
  subst hΓ
  subst hL
  show G E 0 0 0 [(0, .int x), (1, .int y)] [] σ τ o
  refine g_iload_n C dX0_hasBit_0 rfl rfl ?_
  refine g_iload_n C dX0_hasBit_1 rfl rfl ?_
  refine g_ishr C dX0_hasBit_2 ?_
  refine g_iconst (v := 1) C dX0_hasBit_3 (by decide) ?_
  refine g_iand C dX0_hasBit_4 ?_
  refine g_iconst (v := 1) C dX0_hasBit_5 (by decide) ?_
  refine g_icmp_ne (tgt := 13) C dX0_hasBit_6 (by decide) (fun c_6 => ?_) (fun c_6 => ?_)
  · have e : hb x y = 0 := by simp [hb, c_6]
    refine g_iconst (v := 0) C dX0_hasBit_13 (by decide) ?_
    exact g_zret C F dX0_hasBit_14 (by first | exact Or.inl rfl | exact Or.inr rfl) (by decide) (by decide) ⟨by rw [e], rfl, rfl, rfl⟩
  · have e : hb x y = 1 := by simp [hb, c_6]
    refine g_iconst (v := 1) C dX0_hasBit_9 (by decide) ?_
    refine g_goto (tgt := 14) C dX0_hasBit_10 (by decide) ?_
    exact g_zret C F dX0_hasBit_14 (by first | exact Or.inl rfl | exact Or.inr rfl) (by decide) (by decide) ⟨by rw [e], rfl, rfl, rfl⟩
set_option maxRecDepth 100000 in
theorem mwX0_countOfLetters_inX : ∀ w ∈ wsX00, w ∈ wsX0_countOfLetters := by decide +kernel
set_option maxRecDepth 100000 in
theorem mwX0_countOfLetters_f23 : Cond.fieldLink RX0 23 "TelegraphPrices" "limit" "I" ∈ wsX0_countOfLetters := by decide +kernel
set_option maxHeartbeats 4000000 in
set_option maxRecDepth 100000 in
theorem c_cnt {l : Launch} (hl : l.stackTraces = false) (Γ : gG) (σ : gS) (τ : gT) (o : gO) (x : Int32) (h4 : ¬ σ 4 = 0) : Ct l yX0_countOfLetters wsX0_countOfLetters 1 32 0 0 [.ref (Γ.2.1 100), .int x] Γ σ τ o (pE (some (.int (cn (σ 4) x))) σ τ o) (noX) := by
  refine ct_of hl (by decide +kernel) rfl (Nat.le_of_ble_eq_true rfl) ?_
  intro E C F T hΓ hL R
  subst hΓ
  subst hL
  show G E 0 0 0 [(0, .ref ((eG E).2.1 100)), (1, .int x)] [] σ τ o
  refine g_iload_n C dX0_countOfLetters_0 rfl rfl ?_
  refine g_aload_n C dX0_countOfLetters_1 rfl rfl ?_
  refine g_getX C 4 dX0_countOfLetters_2 mwX0_countOfLetters_inX (by decide) mwX0_countOfLetters_f23 rfl rfl ?_
  refine g_iadd C dX0_countOfLetters_5 ?_
  refine g_iconst (v := 1) C dX0_countOfLetters_6 (by decide) ?_
  refine g_isub C dX0_countOfLetters_7 ?_
  refine g_aload_n C dX0_countOfLetters_8 rfl rfl ?_
  refine g_getX C 4 dX0_countOfLetters_9 mwX0_countOfLetters_inX (by decide) mwX0_countOfLetters_f23 rfl rfl ?_
  refine g_idiv C dX0_countOfLetters_12 h4 ?_
  exact g_iret C F dX0_countOfLetters_13 (by decide) (by decide) ⟨rfl, rfl, rfl, rfl⟩
set_option maxRecDepth 100000 in
theorem mwX0_countOfPair_inX : ∀ w ∈ wsX00, w ∈ wsX0_countOfPair := by decide +kernel
set_option maxRecDepth 100000 in
theorem mwX0_countOfPair_f9 : Cond.fieldLink RX0 9 "TelegraphPrices" "letters" "[I" ∈ wsX0_countOfPair := by decide +kernel
set_option maxHeartbeats 4000000 in
set_option maxRecDepth 100000 in
theorem c_cntPair {l : Launch} (hl : l.stackTraces = false) (Γ : gG) (σ : gS) (τ : gT) (o : gO) (x y : Int32) (h4 : ¬ σ 4 = 0) (hx : vp_in x 12) (hy : vp_in y 12) : Ct l yX0_countOfPair wsX0_countOfPair 2 64 0 0 [.ref (Γ.2.1 100), .int x, .int y] Γ σ τ o (pE (some (.int (cn (σ 4) (τ 0 x.toNatClampNeg + τ 0 y.toNatClampNeg)))) σ τ o) (noX) := by
  refine ct_of hl (by decide +kernel) rfl (Nat.le_of_ble_eq_true rfl) ?_
  intro E C F T hΓ hL R
  subst hΓ
  subst hL
  show G E 0 0 0 [(0, .ref ((eG E).2.1 100)), (1, .int x), (2, .int y)] [] σ τ o
  refine g_aload_n C dX0_countOfPair_0 rfl rfl ?_
  refine g_aload_n C dX0_countOfPair_1 rfl rfl ?_
  refine g_getX C 0 dX0_countOfPair_2 mwX0_countOfPair_inX (by decide) mwX0_countOfPair_f9 rfl rfl ?_
  refine g_iload_n C dX0_countOfPair_5 rfl rfl ?_
  refine g_iald C dX0_countOfPair_6 rfl hx ?_
  refine g_aload_n C dX0_countOfPair_7 rfl rfl ?_
  refine g_getX C 0 dX0_countOfPair_8 mwX0_countOfPair_inX (by decide) mwX0_countOfPair_f9 rfl rfl ?_
  refine g_iload_n C dX0_countOfPair_11 rfl rfl ?_
  refine g_iald C dX0_countOfPair_12 rfl hy ?_
  refine g_iadd C dX0_countOfPair_13 ?_
  refine g_callVEi (Cl := RX0) (T := TX0) (N := 18) (ci := 0) (q0 := 0) (na := 1) C dX0_countOfPair_14 (c_cnt hl (eG E) σ τ o _ h4) gX0_countOfPair_X0_countOfLetters rfl rfl (by decide +kernel) rfl rfl rfl (Nat.le_of_ble_eq_true rfl) (by rw [R]; exact ⟨by decide, by decide⟩) (by rw [R]; exact ⟨by decide, by decide⟩) ?_
  exact g_iret C F dX0_countOfPair_17 (by decide) (by decide) ⟨rfl, rfl, rfl, rfl⟩
set_option maxRecDepth 100000 in
theorem mwX0_atLeastTheLeastCount_inX : ∀ w ∈ wsX00, w ∈ wsX0_atLeastTheLeastCount := by decide +kernel
set_option maxRecDepth 100000 in
theorem mwX0_atLeastTheLeastCount_f39 : Cond.fieldLink RX0 39 "TelegraphPrices" "length" "I" ∈ wsX0_atLeastTheLeastCount := by decide +kernel
set_option maxRecDepth 100000 in
theorem mwX0_atLeastTheLeastCount_f26 : Cond.fieldLink RX0 26 "TelegraphPrices" "leastCount" "I" ∈ wsX0_atLeastTheLeastCount := by decide +kernel
set_option maxRecDepth 100000 in
theorem mwX0_atLeastTheLeastCount_l175 : Cond.methodLink RX0 175 Lib.Math.max.name ∈ wsX0_atLeastTheLeastCount := by decide +kernel
set_option maxRecDepth 100000 in
theorem mwX0_atLeastTheLeastCount_smax : Cond.static Lib.Math.max.name ∈ wsX0_atLeastTheLeastCount := by decide +kernel
set_option maxRecDepth 100000 in
theorem mwX0_atLeastTheLeastCount_iMath : Cond.initialized "java/lang/Math" ∈ wsX0_atLeastTheLeastCount := by decide +kernel
set_option maxRecDepth 100000 in
theorem mwX0_atLeastTheLeastCount_kmax : Cond.code Lib.Math.max.name Lib.Math.max.code 2 (some .int) ∈ wsX0_atLeastTheLeastCount := by decide +kernel
set_option maxHeartbeats 4000000 in
set_option maxRecDepth 100000 in
theorem c_alc {l : Launch} (hl : l.stackTraces = false) (Γ : gG) (σ : gS) (τ : gT) (o : gO) (nl : Nat) (x : Int32) (h9 : σ 9 = nI nl) (hn : nl ≤ 16) : Ct l yX0_atLeastTheLeastCount wsX0_atLeastTheLeastCount 1 32 0 0 [.ref (Γ.2.1 100), .int x] Γ σ τ o (pE (some (.int (al nl (σ 5) x))) σ τ o) (noX) := by
  refine ct_of hl (by decide +kernel) rfl (Nat.le_of_ble_eq_true rfl) ?_
  intro E C F T hΓ hL R
  subst hΓ
  subst hL
  show G E 0 0 0 [(0, .ref ((eG E).2.1 100)), (1, .int x)] [] σ τ o
  refine g_aload_n C dX0_atLeastTheLeastCount_0 rfl rfl ?_
  refine g_getX C 9 dX0_atLeastTheLeastCount_1 mwX0_atLeastTheLeastCount_inX (by decide) mwX0_atLeastTheLeastCount_f39 rfl rfl ?_
  refine g_if_ne (tgt := 11) C dX0_atLeastTheLeastCount_4 (by decide) (fun c_4 => ?_) (fun c_4 => ?_)
  · have e : al nl (σ 5) x = (if x < σ 5 then σ 5 else x) := by
      unfold al
      rw [if_neg (fun z => c_4 (by rw [h9, z]; rfl))]
    refine g_iload_n C dX0_atLeastTheLeastCount_11 rfl rfl ?_
    refine g_aload_n C dX0_atLeastTheLeastCount_12 rfl rfl ?_
    refine g_getX C 5 dX0_atLeastTheLeastCount_13 mwX0_atLeastTheLeastCount_inX (by decide) mwX0_atLeastTheLeastCount_f26 rfl rfl ?_
    refine g_mmax C dX0_atLeastTheLeastCount_16 mwX0_atLeastTheLeastCount_l175 mwX0_atLeastTheLeastCount_smax mwX0_atLeastTheLeastCount_iMath mwX0_atLeastTheLeastCount_kmax (by rw [R]; exact ⟨by decide, Nat.le_of_ble_eq_true rfl, by decide, by decide⟩) ?_
    exact g_iret C F dX0_atLeastTheLeastCount_19 (by decide) (by decide) ⟨by rw [e], rfl, rfl, rfl⟩
  · have e : al nl (σ 5) x = 0 := by
      unfold al
      rw [h9] at c_4
      rw [if_pos (by rcases Nat.eq_zero_or_pos nl with z | z
                     · exact z
                     · exact absurd c_4 (nI_ne0 z (by omega)))]
    refine g_iconst (v := 0) C dX0_atLeastTheLeastCount_7 (by decide) ?_
    refine g_goto (tgt := 19) C dX0_atLeastTheLeastCount_8 (by decide) ?_
    exact g_iret C F dX0_atLeastTheLeastCount_19 (by decide) (by decide) ⟨by rw [e], rfl, rfl, rfl⟩
set_option maxRecDepth 100000 in
theorem mwX0_mayHold_inX : ∀ w ∈ wsX00, w ∈ wsX0_mayHold := by decide +kernel
set_option maxRecDepth 100000 in
theorem mwX0_mayHold_f39 : Cond.fieldLink RX0 39 "TelegraphPrices" "length" "I" ∈ wsX0_mayHold := by decide +kernel
set_option maxRecDepth 100000 in
theorem mwX0_mayHold_f13 : Cond.fieldLink RX0 13 "TelegraphPrices" "standIns" "[I" ∈ wsX0_mayHold := by decide +kernel
set_option maxRecDepth 100000 in
theorem mwX0_mayHold_f32 : Cond.fieldLink RX0 32 "TelegraphPrices" "telegram" "[I" ∈ wsX0_mayHold := by decide +kernel
set_option maxHeartbeats 4000000 in
set_option maxRecDepth 100000 in
theorem c_mayHold {l : Launch} (hl : l.stackTraces = false) (Γ : gG) (σ : gS) (τ : gT) (o : gO) (nl p : Nat) (w : Int32) (h9 : σ 9 = nI nl) (hn : nl ≤ 16) (hp : p < 2 ^ 30) (ht : p < nl → vp_in (τ 7 p) 12) : Ct l yX0_mayHold wsX0_mayHold 2 64 0 0 [.ref (Γ.2.1 100), .int (nI p), .int w] Γ σ τ o (pE (some (.int (mh nl (τ 1) (τ 7) p w))) σ τ o) (noX) := by
  refine ct_of hl (by decide +kernel) rfl (Nat.le_of_ble_eq_true rfl) ?_
  intro E C F T hΓ hL R
  subst hΓ
  subst hL
  show G E 0 0 0 [(0, .ref ((eG E).2.1 100)), (1, .int (nI p)), (2, .int w)] [] σ τ o
  refine g_iload_n C dX0_mayHold_0 rfl rfl ?_
  refine g_aload_n C dX0_mayHold_1 rfl rfl ?_
  refine g_getX C 9 dX0_mayHold_2 mwX0_mayHold_inX (by decide) mwX0_mayHold_f39 rfl rfl ?_
  refine g_icmp_ge (tgt := 30) C dX0_mayHold_5 (by decide) (fun c_5 => ?_) (fun c_5 => ?_)
  · have hge : nl ≤ p := by
      rw [h9] at c_5
      exact (nI_leI (by omega) (by omega)).mp c_5
    have e : mh nl (τ 1) (τ 7) p w = 0 := by
      unfold mh
      rw [if_neg (by omega)]
    refine g_iconst (v := 0) C dX0_mayHold_30 (by decide) ?_
    exact g_zret C F dX0_mayHold_31 (by first | exact Or.inl rfl | exact Or.inr rfl) (by decide) (by decide) ⟨by rw [e], rfl, rfl, rfl⟩
  · have hlt : p < nl := by
      rw [h9] at c_5
      exact Nat.not_le.mp (fun q => c_5 ((nI_leI (by omega) (by omega)).mpr q))
    have e0 : mh nl (τ 1) (τ 7) p w = hb (τ 1 (τ 7 p).toNatClampNeg) w := by
      unfold mh
      rw [if_pos hlt]
    refine g_aload_n C dX0_mayHold_8 rfl rfl ?_
    refine g_getX C 1 dX0_mayHold_9 mwX0_mayHold_inX (by decide) mwX0_mayHold_f13 rfl rfl ?_
    refine g_aload_n C dX0_mayHold_12 rfl rfl ?_
    refine g_getX C 7 dX0_mayHold_13 mwX0_mayHold_inX (by decide) mwX0_mayHold_f32 rfl rfl ?_
    refine g_iload_n C dX0_mayHold_16 rfl rfl ?_
    refine g_ialdN C (p) dX0_mayHold_17 rfl rfl (show p < 16 by omega) (by decide) ?_
    refine g_iald C dX0_mayHold_18 rfl (ht hlt) ?_
    refine g_iload_n C dX0_mayHold_19 rfl rfl ?_
    refine g_callSEi (na := 2) C dX0_mayHold_20 (c_hasBit hl (eG E) σ τ o _ _) gX0_mayHold_X0_hasBit rfl rfl (by decide +kernel) rfl (Nat.le_of_ble_eq_true rfl) (by rw [R]; exact ⟨by decide, by decide⟩) (by rw [R]; exact ⟨by decide, by decide⟩) ?_
    refine g_if_eq (tgt := 30) C dX0_mayHold_23 (by decide) (fun c_23 => ?_) (fun c_23 => ?_)
    · have e : mh nl (τ 1) (τ 7) p w = 0 := by rw [e0]; exact c_23
      refine g_iconst (v := 0) C dX0_mayHold_30 (by decide) ?_
      exact g_zret C F dX0_mayHold_31 (by first | exact Or.inl rfl | exact Or.inr rfl) (by decide) (by decide) ⟨by rw [e], rfl, rfl, rfl⟩
    · have e : mh nl (τ 1) (τ 7) p w = 1 := by rw [e0]; exact (hb_01 _ _).resolve_left c_23
      refine g_iconst (v := 1) C dX0_mayHold_26 (by decide) ?_
      refine g_goto (tgt := 31) C dX0_mayHold_27 (by decide) ?_
      exact g_zret C F dX0_mayHold_31 (by first | exact Or.inl rfl | exact Or.inr rfl) (by decide) (by decide) ⟨by rw [e], rfl, rfl, rfl⟩
set_option maxRecDepth 100000 in
theorem mwX0_needWord_inX : ∀ w ∈ wsX00, w ∈ wsX0_needWord := by decide +kernel
set_option maxRecDepth 100000 in
theorem mwX0_needWord_f19 : Cond.fieldLink RX0 19 "TelegraphPrices" "words" "I" ∈ wsX0_needWord := by decide +kernel
set_option maxHeartbeats 4000000 in
set_option maxRecDepth 100000 in
theorem c_needWord {l : Launch} (hl : l.stackTraces = false) (Γ : gG) (σ : gS) (τ : gT) (o : gO) (w : Int32) (h0 : ¬ w < 0) (h1 : w < σ 3) : Ct l yX0_needWord wsX0_needWord 1 32 0 0 [.ref (Γ.2.1 100), .int w] Γ σ τ o (pE (none) σ τ o) (noX) := by
  refine ct_of hl (by decide +kernel) rfl (Nat.le_of_ble_eq_true rfl) ?_
  intro E C F T hΓ hL R
  subst hΓ
  subst hL
  show G E 0 0 0 [(0, .ref ((eG E).2.1 100)), (1, .int w)] [] σ τ o
  refine g_iload_n C dX0_needWord_0 rfl rfl ?_
  refine g_if_lt (tgt := 12) C dX0_needWord_1 (by decide) (fun c_1 => ?_) (fun c_1 => ?_)
  · exact absurd c_1 h0
  · refine g_iload_n C dX0_needWord_4 rfl rfl ?_
    refine g_aload_n C dX0_needWord_5 rfl rfl ?_
    refine g_getX C 3 dX0_needWord_6 mwX0_needWord_inX (by decide) mwX0_needWord_f19 rfl rfl ?_
    refine g_icmp_lt (tgt := 22) C dX0_needWord_9 (by decide) (fun c_9 => ?_) (fun c_9 => ?_)
    · exact g_vret C F dX0_needWord_22 (by decide) (by decide) ⟨rfl, rfl, rfl, rfl⟩
    · exact absurd h1 c_9
set_option maxRecDepth 100000 in
theorem mwX0_needWord_k133 : Cond.classLink RX0 133 "java/lang/IndexOutOfBoundsException" ∈ wsX0_needWord := by decide +kernel
set_option maxRecDepth 100000 in
theorem mwX0_needWord_n133 : Cond.initialized "java/lang/IndexOutOfBoundsException" ∈ wsX0_needWord := by decide +kernel
set_option maxRecDepth 100000 in
theorem mwX0_needWord_a133 : ∀ w ∈ (vx_atS RX0 137 "java/lang/IndexOutOfBoundsException" ["java/lang/RuntimeException", "java/lang/Exception"]).filter goodWord, w ∈ wsX0_needWord := by decide +kernel
set_option maxRecDepth 100000 in
theorem mwX0_needPlace_inX : ∀ w ∈ wsX00, w ∈ wsX0_needPlace := by decide +kernel
set_option maxRecDepth 100000 in
theorem mwX0_needPlace_f39 : Cond.fieldLink RX0 39 "TelegraphPrices" "length" "I" ∈ wsX0_needPlace := by decide +kernel
set_option maxHeartbeats 4000000 in
set_option maxRecDepth 100000 in
theorem c_needPlace {l : Launch} (hl : l.stackTraces = false) (Γ : gG) (σ : gS) (τ : gT) (o : gO) (w : Int32) (h0 : ¬ w < 0) (h1 : w < σ 9) : Ct l yX0_needPlace wsX0_needPlace 1 32 0 0 [.ref (Γ.2.1 100), .int w] Γ σ τ o (pE (none) σ τ o) (noX) := by
  refine ct_of hl (by decide +kernel) rfl (Nat.le_of_ble_eq_true rfl) ?_
  intro E C F T hΓ hL R
  subst hΓ
  subst hL
  show G E 0 0 0 [(0, .ref ((eG E).2.1 100)), (1, .int w)] [] σ τ o
  refine g_iload_n C dX0_needPlace_0 rfl rfl ?_
  refine g_if_lt (tgt := 12) C dX0_needPlace_1 (by decide) (fun c_1 => ?_) (fun c_1 => ?_)
  · exact absurd c_1 h0
  · refine g_iload_n C dX0_needPlace_4 rfl rfl ?_
    refine g_aload_n C dX0_needPlace_5 rfl rfl ?_
    refine g_getX C 9 dX0_needPlace_6 mwX0_needPlace_inX (by decide) mwX0_needPlace_f39 rfl rfl ?_
    refine g_icmp_lt (tgt := 22) C dX0_needPlace_9 (by decide) (fun c_9 => ?_) (fun c_9 => ?_)
    · exact g_vret C F dX0_needPlace_22 (by decide) (by decide) ⟨rfl, rfl, rfl, rfl⟩
    · exact absurd h1 c_9
set_option maxRecDepth 100000 in
theorem mwX0_needPlace_k133 : Cond.classLink RX0 133 "java/lang/IndexOutOfBoundsException" ∈ wsX0_needPlace := by decide +kernel
set_option maxRecDepth 100000 in
theorem mwX0_needPlace_n133 : Cond.initialized "java/lang/IndexOutOfBoundsException" ∈ wsX0_needPlace := by decide +kernel
set_option maxRecDepth 100000 in
theorem mwX0_needPlace_a133 : ∀ w ∈ (vx_atS RX0 137 "java/lang/IndexOutOfBoundsException" ["java/lang/RuntimeException", "java/lang/Exception"]).filter goodWord, w ∈ wsX0_needPlace := by decide +kernel
end
section
/-! the search of the class -/
/-- what stands of a state: words, places, limit; letters, stand-ins, telegram, joined, the cheapest's joined -/
def Iv (nw nl lm : Nat) (a3 a9 a4 : Int32) (L S Tg Jd Cj : Nat → Int32) : Prop :=
  a3 = nI nw ∧ a9 = nI nl ∧ a4 = nI lm ∧ nw ≤ 12 ∧ nl ≤ 16 ∧ 3 ≤ lm ∧ lm ≤ 15 ∧ (∀ i, i < nl → ∃ w, w < nw ∧ Tg i = nI w) ∧ (∀ i, Jd i = 0 ∨ Jd i = 1) ∧ (∀ i, Cj i = 0 ∨ Cj i = 1) ∧ (0 < nl → Jd (nl - 1) = 0) ∧ (∀ w, w < nw → ∃ x, 1 ≤ x ∧ x ≤ 30 ∧ L w = nI x) ∧ (∀ w, w < nw → ∃ x, S w = nI x ∧ x < 2 ^ nw ∧ x.testBit w = true)
def IX (σ : gS) (τ : gT) (nw nl lm : Nat) : Prop := Iv nw nl lm (σ 3) (σ 9) (σ 4) (τ 0) (τ 1) (τ 7) (τ 8) (τ 17)
def IM (σ : gS) (τ : gT) (nw nl lm : Nat) : Prop := Iv nw nl lm (σ 21) (σ 30) (σ 22) (τ 27) (τ 28) (τ 31) (τ 32) (τ 35)
section
variable {nw nl lm : Nat} {a3 a9 a4 : Int32} {L S Tg Jd Cj : Nat → Int32}
theorem Iv_h3 (I : Iv nw nl lm a3 a9 a4 L S Tg Jd Cj) : a3 = nI nw := I.1
theorem Iv_h9 (I : Iv nw nl lm a3 a9 a4 L S Tg Jd Cj) : a9 = nI nl := I.2.1
theorem Iv_h4 (I : Iv nw nl lm a3 a9 a4 L S Tg Jd Cj) : a4 = nI lm := I.2.2.1
theorem Iv_nw (I : Iv nw nl lm a3 a9 a4 L S Tg Jd Cj) : nw ≤ 12 := I.2.2.2.1
theorem Iv_nl (I : Iv nw nl lm a3 a9 a4 L S Tg Jd Cj) : nl ≤ 16 := I.2.2.2.2.1
theorem Iv_lm (I : Iv nw nl lm a3 a9 a4 L S Tg Jd Cj) : 3 ≤ lm ∧ lm ≤ 15 := ⟨I.2.2.2.2.2.1, I.2.2.2.2.2.2.1⟩
theorem Iv_ne (I : Iv nw nl lm a3 a9 a4 L S Tg Jd Cj) : ¬ a4 = 0 := by
  rw [Iv_h4 I]
  have := (Iv_lm I)
  exact nI_ne0 (by omega) (by omega)
theorem Iv_tg (I : Iv nw nl lm a3 a9 a4 L S Tg Jd Cj) : ∀ i, i < nl → ∃ w, w < nw ∧ Tg i = nI w := I.2.2.2.2.2.2.2.1
theorem Iv_tin (I : Iv nw nl lm a3 a9 a4 L S Tg Jd Cj) {i : Nat} (hi : i < nl) : vp_in (Tg i) 12 := by
  obtain ⟨w, hw, e⟩ := Iv_tg I i hi
  have := Iv_nw I
  rw [e]
  exact vp_in_nI (by omega) (by omega)
theorem Iv_jd (I : Iv nw nl lm a3 a9 a4 L S Tg Jd Cj) : ∀ i, Jd i = 0 ∨ Jd i = 1 := I.2.2.2.2.2.2.2.2.1
theorem Iv_cj (I : Iv nw nl lm a3 a9 a4 L S Tg Jd Cj) : ∀ i, Cj i = 0 ∨ Cj i = 1 := I.2.2.2.2.2.2.2.2.2.1
theorem Iv_last (I : Iv nw nl lm a3 a9 a4 L S Tg Jd Cj) : 0 < nl → Jd (nl - 1) = 0 := I.2.2.2.2.2.2.2.2.2.2.1
theorem Iv_lt (I : Iv nw nl lm a3 a9 a4 L S Tg Jd Cj) : ∀ w, w < nw → ∃ x, 1 ≤ x ∧ x ≤ 30 ∧ L w = nI x := I.2.2.2.2.2.2.2.2.2.2.2.1
theorem Iv_st (I : Iv nw nl lm a3 a9 a4 L S Tg Jd Cj) : ∀ w, w < nw → ∃ x, S w = nI x ∧ x < 2 ^ nw ∧ x.testBit w = true := I.2.2.2.2.2.2.2.2.2.2.2.2
end
/-- bestWordAt: word and count behind j words -/
def bw (lm : Int32) (nl : Nat) (L S Tg : Nat → Int32) (p : Nat) : Nat → Int32 × Int32
  | 0 => (Tg p, 1000000)
  | j + 1 => if mh nl S Tg p (nI j) ≠ 0 ∧ cn lm (L j) < (bw lm nl L S Tg p j).2 then (nI j, cn lm (L j)) else bw lm nl L S Tg p j
theorem bw_no {lm : Int32} {nl : Nat} {L S Tg : Nat → Int32} {p j : Nat} (h : ¬ (mh nl S Tg p (nI j) ≠ 0 ∧ cn lm (L j) < (bw lm nl L S Tg p j).2)) : bw lm nl L S Tg p (j + 1) = bw lm nl L S Tg p j := by
  show (if _ then _ else _) = _
  rw [if_neg h]
theorem bw_yes {lm : Int32} {nl : Nat} {L S Tg : Nat → Int32} {p j : Nat} (h : mh nl S Tg p (nI j) ≠ 0 ∧ cn lm (L j) < (bw lm nl L S Tg p j).2) : bw lm nl L S Tg p (j + 1) = (nI j, cn lm (L j)) := by
  show (if _ then _ else _) = _
  rw [if_pos h]
/-- bestPairAt: the inner loop, first word a, behind b second words -/
def bq (lm : Int32) (nl : Nat) (L S J Tg : Nat → Int32) (p a : Nat) (s : Int32 × Int32) : Nat → Int32 × Int32
  | 0 => s
  | b + 1 => if (mh nl S Tg (p + 1) (nI b) ≠ 0 ∧ hb (J a) (nI b) ≠ 0) ∧ cn lm (L a + L b) < (bq lm nl L S J Tg p a s b).2 then (nI a * 100 + nI b, cn lm (L a + L b)) else bq lm nl L S J Tg p a s b
theorem bq_no {lm : Int32} {nl : Nat} {L S J Tg : Nat → Int32} {p a b : Nat} {s : Int32 × Int32} (h : ¬ ((mh nl S Tg (p + 1) (nI b) ≠ 0 ∧ hb (J a) (nI b) ≠ 0) ∧ cn lm (L a + L b) < (bq lm nl L S J Tg p a s b).2)) : bq lm nl L S J Tg p a s (b + 1) = bq lm nl L S J Tg p a s b := by
  show (if _ then _ else _) = _
  rw [if_neg h]
theorem bq_yes {lm : Int32} {nl : Nat} {L S J Tg : Nat → Int32} {p a b : Nat} {s : Int32 × Int32} (h : (mh nl S Tg (p + 1) (nI b) ≠ 0 ∧ hb (J a) (nI b) ≠ 0) ∧ cn lm (L a + L b) < (bq lm nl L S J Tg p a s b).2) : bq lm nl L S J Tg p a s (b + 1) = (nI a * 100 + nI b, cn lm (L a + L b)) := by
  show (if _ then _ else _) = _
  rw [if_pos h]
/-- bestPairAt: behind a first words -/
def bp (lm : Int32) (nw nl : Nat) (L S J Tg : Nat → Int32) (p : Nat) : Nat → Int32 × Int32
  | 0 => (-1, 1000000)
  | a + 1 => if mh nl S Tg p (nI a) ≠ 0 then bq lm nl L S J Tg p a (bp lm nw nl L S J Tg p a) nw else bp lm nw nl L S J Tg p a
theorem bp_no {lm : Int32} {nw nl : Nat} {L S J Tg : Nat → Int32} {p a : Nat} (h : mh nl S Tg p (nI a) = 0) : bp lm nw nl L S J Tg p (a + 1) = bp lm nw nl L S J Tg p a := by
  show (if _ then _ else _) = _
  rw [if_neg (fun q => q h)]
theorem bp_yes {lm : Int32} {nw nl : Nat} {L S J Tg : Nat → Int32} {p a : Nat} (h : mh nl S Tg p (nI a) ≠ 0) : bp lm nw nl L S J Tg p (a + 1) = bq lm nl L S J Tg p a (bp lm nw nl L S J Tg p a) nw := by
  show (if _ then _ else _) = _
  rw [if_pos h]
set_option maxRecDepth 100000 in
theorem mwX0_bestWordAt_inX : ∀ w ∈ wsX00, w ∈ wsX0_bestWordAt := by decide +kernel
set_option maxRecDepth 100000 in
theorem mwX0_bestWordAt_f19 : Cond.fieldLink RX0 19 "TelegraphPrices" "words" "I" ∈ wsX0_bestWordAt := by decide +kernel
set_option maxRecDepth 100000 in
theorem mwX0_bestWordAt_f9 : Cond.fieldLink RX0 9 "TelegraphPrices" "letters" "[I" ∈ wsX0_bestWordAt := by decide +kernel
set_option maxRecDepth 100000 in
theorem mwX0_bestWordAt_f32 : Cond.fieldLink RX0 32 "TelegraphPrices" "telegram" "[I" ∈ wsX0_bestWordAt := by decide +kernel
set_option maxRecDepth 100000 in
theorem mwX0_bestWordAt_c151 : Cond.constant RX0 151 (1000000) ∈ wsX0_bestWordAt := by decide +kernel
set_option maxHeartbeats 4000000 in
set_option maxRecDepth 100000 in
theorem c_bestWordAt {l : Launch} (hl : l.stackTraces = false) (Γ : gG) (σ : gS) (τ : gT) (o : gO) (nw nl lm p : Nat) (I : IX σ τ nw nl lm) (hp : p < nl) : Ct l yX0_bestWordAt wsX0_bestWordAt 3 96 0 0 [.ref (Γ.2.1 100), .int (nI p)] Γ σ τ o (pE (some (.int (bw (σ 4) nl (τ 0) (τ 1) (τ 7) p nw).1)) σ τ o) (noX) := by
  refine ct_of hl (by decide +kernel) rfl (Nat.le_of_ble_eq_true rfl) ?_
  intro E C F T hΓ hL R
  subst hΓ
  subst hL
  show G E 0 0 0 [(0, .ref ((eG E).2.1 100)), (1, .int (nI p))] [] σ τ o
  have hnw := Iv_nw I
  have hnl := Iv_nl I
  have h3 : σ 3 = nI nw := Iv_h3 I
  have h9 : σ 9 = nI nl := Iv_h9 I
  have h4 : ¬ σ 4 = 0 := Iv_ne I
  have loop : ∀ m j : Nat, j + m = nw → G E 0 0 13 [(4, .int (nI j)), (3, .int (bw (σ 4) nl (τ 0) (τ 1) (τ 7) p j).2), (2, .int (bw (σ 4) nl (τ 0) (τ 1) (τ 7) p j).1), (0, .ref ((eG E).2.1 100)), (1, .int (nI p))] [] σ τ o := by
    intro m
    induction m with
    | zero =>
      intro j hj
      refine g_iload C dX0_bestWordAt_13 rfl ?_
      refine g_aload_n C dX0_bestWordAt_15 rfl rfl ?_
      refine g_getX C 3 dX0_bestWordAt_16 mwX0_bestWordAt_inX (by decide) mwX0_bestWordAt_f19 rfl rfl ?_
      refine g_icmp_ge (tgt := 68) C dX0_bestWordAt_19 (by decide) (fun c_19 => ?_) (fun c_19 => ?_)
      · refine g_iload_n C dX0_bestWordAt_68 rfl rfl ?_
        exact g_iret C F dX0_bestWordAt_69 (by decide) (by decide) ⟨by rw [show j = nw by omega], rfl, rfl, rfl⟩
      · exact absurd (by rw [h3]; exact nI_le (by omega) (by omega)) c_19
    | succ m ih =>
      intro j hj
      refine g_iload C dX0_bestWordAt_13 rfl ?_
      refine g_aload_n C dX0_bestWordAt_15 rfl rfl ?_
      refine g_getX C 3 dX0_bestWordAt_16 mwX0_bestWordAt_inX (by decide) mwX0_bestWordAt_f19 rfl rfl ?_
      refine g_icmp_ge (tgt := 68) C dX0_bestWordAt_19 (by decide) (fun c_19 => ?_) (fun c_19 => ?_)
      · exact absurd (by rw [h3] at c_19; exact c_19) (nI_ge (by omega) (by omega))
      · refine g_aload_n C dX0_bestWordAt_22 rfl rfl ?_
        refine g_iload_n C dX0_bestWordAt_23 rfl rfl ?_
        refine g_iload C dX0_bestWordAt_24 rfl ?_
        refine g_callVEi (Cl := RX0) (T := TX0) (N := 18) (ci := 0) (q0 := 0) (na := 2) C dX0_bestWordAt_26 (c_mayHold hl (eG E) σ τ o nl p _ h9 hnl (by omega) (fun h => Iv_tin I h)) gX0_bestWordAt_X0_mayHold rfl rfl (by decide +kernel) rfl rfl rfl (Nat.le_of_ble_eq_true rfl) (by rw [R]; exact ⟨by decide, by decide⟩) (by rw [R]; exact ⟨by decide, by decide⟩) ?_
        refine g_if_eq (tgt := 62) C dX0_bestWordAt_29 (by decide) (fun c_29 => ?_) (fun c_29 => ?_)
        · have e : bw (σ 4) nl (τ 0) (τ 1) (τ 7) p (j + 1) = bw (σ 4) nl (τ 0) (τ 1) (τ 7) p j := bw_no (fun q => q.1 c_29)
          refine g_iinc C 0 [(4, _), (3, _), (2, _), (0, _), (1, _)] dX0_bestWordAt_62 rfl (nI_i1 j) (by decide) rfl ?_
          refine g_goto (tgt := 13) C dX0_bestWordAt_65 (by decide) ?_
          have g := ih (j + 1) (by omega)
          rw [e] at g
          exact g
        · refine g_aload_n C dX0_bestWordAt_32 rfl rfl ?_
          refine g_aload_n C dX0_bestWordAt_33 rfl rfl ?_
          refine g_getX C 0 dX0_bestWordAt_34 mwX0_bestWordAt_inX (by decide) mwX0_bestWordAt_f9 rfl rfl ?_
          refine g_iload C dX0_bestWordAt_37 rfl ?_
          refine g_ialdN C (j) dX0_bestWordAt_39 rfl rfl (show j < 12 by omega) (by decide) ?_
          refine g_callVEi (Cl := RX0) (T := TX0) (N := 18) (ci := 0) (q0 := 0) (na := 1) C dX0_bestWordAt_40 (c_cnt hl (eG E) σ τ o _ h4) gX0_bestWordAt_X0_countOfLetters rfl rfl (by decide +kernel) rfl rfl rfl (Nat.le_of_ble_eq_true rfl) (by rw [R]; exact ⟨by decide, by decide⟩) (by rw [R]; exact ⟨by decide, by decide⟩) ?_
          refine g_iload_n C dX0_bestWordAt_43 rfl rfl ?_
          refine g_icmp_ge (tgt := 62) C dX0_bestWordAt_44 (by decide) (fun c_44 => ?_) (fun c_44 => ?_)
          · have e : bw (σ 4) nl (τ 0) (τ 1) (τ 7) p (j + 1) = bw (σ 4) nl (τ 0) (τ 1) (τ 7) p j := bw_no (fun q => absurd q.2 (Int32.not_lt.mpr c_44))
            refine g_iinc C 0 [(4, _), (3, _), (2, _), (0, _), (1, _)] dX0_bestWordAt_62 rfl (nI_i1 j) (by decide) rfl ?_
            refine g_goto (tgt := 13) C dX0_bestWordAt_65 (by decide) ?_
            have g := ih (j + 1) (by omega)
            rw [e] at g
            exact g
          · have e : bw (σ 4) nl (τ 0) (τ 1) (τ 7) p (j + 1) = (nI j, cn (σ 4) (τ 0 j)) := bw_yes ⟨c_29, Int32.not_le.mp c_44⟩
            refine g_iload C dX0_bestWordAt_47 rfl ?_
            refine g_istore_n C [(2, _), (4, _), (3, _), (0, _), (1, _)] dX0_bestWordAt_49 rfl (by decide) rfl ?_
            refine g_aload_n C dX0_bestWordAt_50 rfl rfl ?_
            refine g_aload_n C dX0_bestWordAt_51 rfl rfl ?_
            refine g_getX C 0 dX0_bestWordAt_52 mwX0_bestWordAt_inX (by decide) mwX0_bestWordAt_f9 rfl rfl ?_
            refine g_iload C dX0_bestWordAt_55 rfl ?_
            refine g_ialdN C (j) dX0_bestWordAt_57 rfl rfl (show j < 12 by omega) (by decide) ?_
            refine g_callVEi (Cl := RX0) (T := TX0) (N := 18) (ci := 0) (q0 := 0) (na := 1) C dX0_bestWordAt_58 (c_cnt hl (eG E) σ τ o _ h4) gX0_bestWordAt_X0_countOfLetters rfl rfl (by decide +kernel) rfl rfl rfl (Nat.le_of_ble_eq_true rfl) (by rw [R]; exact ⟨by decide, by decide⟩) (by rw [R]; exact ⟨by decide, by decide⟩) ?_
            refine g_istore_n C [(3, _), (2, _), (4, _), (0, _), (1, _)] dX0_bestWordAt_61 rfl (by decide) rfl ?_
            refine g_iinc C 2 [(4, _), (3, _), (2, _), (0, _), (1, _)] dX0_bestWordAt_62 rfl (nI_i1 j) (by decide) rfl ?_
            refine g_goto (tgt := 13) C dX0_bestWordAt_65 (by decide) ?_
            have g := ih (j + 1) (by omega)
            rw [e] at g
            exact g
  refine g_aload_n C dX0_bestWordAt_0 rfl rfl ?_
  refine g_getX C 7 dX0_bestWordAt_1 mwX0_bestWordAt_inX (by decide) mwX0_bestWordAt_f32 rfl rfl ?_
  refine g_iload_n C dX0_bestWordAt_4 rfl rfl ?_
  refine g_ialdN C (p) dX0_bestWordAt_5 rfl rfl (show p < 16 by omega) (by decide) ?_
  refine g_istore_n C [(2, _), (0, _), (1, _)] dX0_bestWordAt_6 rfl (by decide) rfl ?_
  refine g_ldc C dX0_bestWordAt_7 mwX0_bestWordAt_c151 ?_
  refine g_istore_n C [(3, _), (2, _), (0, _), (1, _)] dX0_bestWordAt_9 rfl (by decide) rfl ?_
  refine g_iconst (v := 0) C dX0_bestWordAt_10 (by decide) ?_
  refine g_istore C [(4, _), (3, _), (2, _), (0, _), (1, _)] dX0_bestWordAt_11 (by decide) rfl ?_
  exact loop nw 0 (Nat.zero_add _)
set_option maxRecDepth 100000 in
theorem mwX0_bestPairAt_inX : ∀ w ∈ wsX00, w ∈ wsX0_bestPairAt := by decide +kernel
set_option maxRecDepth 100000 in
theorem mwX0_bestPairAt_f19 : Cond.fieldLink RX0 19 "TelegraphPrices" "words" "I" ∈ wsX0_bestPairAt := by decide +kernel
set_option maxRecDepth 100000 in
theorem mwX0_bestPairAt_f16 : Cond.fieldLink RX0 16 "TelegraphPrices" "joins" "[I" ∈ wsX0_bestPairAt := by decide +kernel
set_option maxRecDepth 100000 in
theorem mwX0_bestPairAt_c151 : Cond.constant RX0 151 (1000000) ∈ wsX0_bestPairAt := by decide +kernel
set_option maxHeartbeats 4000000 in
set_option maxRecDepth 100000 in
theorem c_bestPairAt {l : Launch} (hl : l.stackTraces = false) (Γ : gG) (σ : gS) (τ : gT) (o : gO) (nw nl lm p : Nat) (I : IX σ τ nw nl lm) (hp : p < nl) : Ct l yX0_bestPairAt wsX0_bestPairAt 3 96 0 0 [.ref (Γ.2.1 100), .int (nI p)] Γ σ τ o (pE (some (.int (bp (σ 4) nw nl (τ 0) (τ 1) (τ 2) (τ 7) p nw).1)) σ τ o) (noX) := by
  refine ct_of hl (by decide +kernel) rfl (Nat.le_of_ble_eq_true rfl) ?_
  intro E C F T hΓ hL R
  subst hΓ
  subst hL
  show G E 0 0 0 [(0, .ref ((eG E).2.1 100)), (1, .int (nI p))] [] σ τ o
  have hnw := Iv_nw I
  have hnl := Iv_nl I
  have h3 : σ 3 = nI nw := Iv_h3 I
  have h9 : σ 9 = nI nl := Iv_h9 I
  have h4 : ¬ σ 4 = 0 := Iv_ne I
  have loop : ∀ m a : Nat, a + m = nw → G E 0 0 8 [(4, .int (nI a)), (3, .int (bp (σ 4) nw nl (τ 0) (τ 1) (τ 2) (τ 7) p a).2), (2, .int (bp (σ 4) nw nl (τ 0) (τ 1) (τ 2) (τ 7) p a).1), (0, .ref ((eG E).2.1 100)), (1, .int (nI p))] [] σ τ o := by
    intro m
    induction m with
    | zero =>
      intro a ha
      refine g_iload C dX0_bestPairAt_8 rfl ?_
      refine g_aload_n C dX0_bestPairAt_10 rfl rfl ?_
      refine g_getX C 3 dX0_bestPairAt_11 mwX0_bestPairAt_inX (by decide) mwX0_bestPairAt_f19 rfl rfl ?_
      refine g_icmp_ge (tgt := 120) C dX0_bestPairAt_14 (by decide) (fun c_14 => ?_) (fun c_14 => ?_)
      · refine g_iload_n C dX0_bestPairAt_120 rfl rfl ?_
        exact g_iret C F dX0_bestPairAt_121 (by decide) (by decide) ⟨by rw [show a = nw by omega], rfl, rfl, rfl⟩
      · exact absurd (by rw [h3]; exact nI_le (by omega) (by omega)) c_14
    | succ m ih =>
      intro a ha
      have inner : mh nl (τ 1) (τ 7) p (nI a) ≠ 0 → ∀ k b : Nat, b + k = nw → G E 0 0 30 [(5, .int (nI b)), (4, .int (nI a)), (3, .int (bq (σ 4) nl (τ 0) (τ 1) (τ 2) (τ 7) p a (bp (σ 4) nw nl (τ 0) (τ 1) (τ 2) (τ 7) p a) b).2), (2, .int (bq (σ 4) nl (τ 0) (τ 1) (τ 2) (τ 7) p a (bp (σ 4) nw nl (τ 0) (τ 1) (τ 2) (τ 7) p a) b).1), (0, .ref ((eG E).2.1 100)), (1, .int (nI p))] [] σ τ o := by
        intro hm k
        induction k with
        | zero =>
          intro b hb9
          refine g_iload C dX0_bestPairAt_30 rfl ?_
          refine g_aload_n C dX0_bestPairAt_32 rfl rfl ?_
          refine g_getX C 3 dX0_bestPairAt_33 mwX0_bestPairAt_inX (by decide) mwX0_bestPairAt_f19 rfl rfl ?_
          refine g_icmp_ge (tgt := 114) C dX0_bestPairAt_36 (by decide) (fun c_36 => ?_) (fun c_36 => ?_)
          · refine g_iinc C 1 [(4, _), (5, _), (3, _), (2, _), (0, _), (1, _)] dX0_bestPairAt_114 rfl (nI_i1 a) (by decide) rfl ?_
            refine g_goto (tgt := 8) C dX0_bestPairAt_117 (by decide) ?_
            refine g_lv [0, 2, 3, 4, 5] [(4, _), (3, _), (2, _), (0, _), (1, _)] rfl ?_
            have g := ih (a + 1) (by omega)
            rw [bp_yes hm] at g
            rw [show b = nw by omega]
            exact g
          · exact absurd (by rw [h3]; exact nI_le (by omega) (by omega)) c_36
        | succ k ih2 =>
          intro b hb9
          refine g_iload C dX0_bestPairAt_30 rfl ?_
          refine g_aload_n C dX0_bestPairAt_32 rfl rfl ?_
          refine g_getX C 3 dX0_bestPairAt_33 mwX0_bestPairAt_inX (by decide) mwX0_bestPairAt_f19 rfl rfl ?_
          refine g_icmp_ge (tgt := 114) C dX0_bestPairAt_36 (by decide) (fun c_36 => ?_) (fun c_36 => ?_)
          · exact absurd (by rw [h3] at c_36; exact c_36) (nI_ge (by omega) (by omega))
          · refine g_aload_n C dX0_bestPairAt_39 rfl rfl ?_
            refine g_iload_n C dX0_bestPairAt_40 rfl rfl ?_
            refine g_iconst (v := 1) C dX0_bestPairAt_41 (by decide) ?_
            refine g_iadd C dX0_bestPairAt_42 ?_
            refine g_topi (nI_1 p) ?_
            refine g_iload C dX0_bestPairAt_43 rfl ?_
            refine g_callVEi (Cl := RX0) (T := TX0) (N := 18) (ci := 0) (q0 := 0) (na := 2) C dX0_bestPairAt_45 (c_mayHold hl (eG E) σ τ o nl (p + 1) _ h9 hnl (by omega) (fun h => Iv_tin I h)) gX0_bestPairAt_X0_mayHold rfl rfl (by decide +kernel) rfl rfl rfl (Nat.le_of_ble_eq_true rfl) (by rw [R]; exact ⟨by decide, by decide⟩) (by rw [R]; exact ⟨by decide, by decide⟩) ?_
            refine g_if_eq (tgt := 70) C dX0_bestPairAt_48 (by decide) (fun c_48 => ?_) (fun c_48 => ?_)
            · have e : bq (σ 4) nl (τ 0) (τ 1) (τ 2) (τ 7) p a (bp (σ 4) nw nl (τ 0) (τ 1) (τ 2) (τ 7) p a) (b + 1) = bq (σ 4) nl (τ 0) (τ 1) (τ 2) (τ 7) p a (bp (σ 4) nw nl (τ 0) (τ 1) (τ 2) (τ 7) p a) b := bq_no (fun q => q.1.1 c_48)
              refine g_iconst (v := 0) C dX0_bestPairAt_70 (by decide) ?_
              refine g_istore C [(6, _), (5, _), (4, _), (3, _), (2, _), (0, _), (1, _)] dX0_bestPairAt_71 (by decide) rfl ?_
              refine g_iload C dX0_bestPairAt_73 rfl ?_
              refine g_if_eq (tgt := 108) C dX0_bestPairAt_75 (by decide) (fun c_75 => ?_) (fun c_75 => ?_)
              · refine g_iinc C 1 [(5, _), (6, _), (4, _), (3, _), (2, _), (0, _), (1, _)] dX0_bestPairAt_108 rfl (nI_i1 b) (by decide) rfl ?_
                refine g_goto (tgt := 30) C dX0_bestPairAt_111 (by decide) ?_
                refine g_lv [0, 2, 3, 4, 5, 6] [(5, _), (4, _), (3, _), (2, _), (0, _), (1, _)] rfl ?_
                have g := ih2 (b + 1) (by omega)
                rw [e] at g
                exact g
              · exact absurd rfl c_75
            · refine g_aload_n C dX0_bestPairAt_51 rfl rfl ?_
              refine g_getX C 2 dX0_bestPairAt_52 mwX0_bestPairAt_inX (by decide) mwX0_bestPairAt_f16 rfl rfl ?_
              refine g_iload C dX0_bestPairAt_55 rfl ?_
              refine g_ialdN C (a) dX0_bestPairAt_57 rfl rfl (show a < 12 by omega) (by decide) ?_
              refine g_iload C dX0_bestPairAt_58 rfl ?_
              refine g_callSEi (na := 2) C dX0_bestPairAt_60 (c_hasBit hl (eG E) σ τ o _ _) gX0_bestPairAt_X0_hasBit rfl rfl (by decide +kernel) rfl (Nat.le_of_ble_eq_true rfl) (by rw [R]; exact ⟨by decide, by decide⟩) (by rw [R]; exact ⟨by decide, by decide⟩) ?_
              refine g_if_eq (tgt := 70) C dX0_bestPairAt_63 (by decide) (fun c_63 => ?_) (fun c_63 => ?_)
              · have e : bq (σ 4) nl (τ 0) (τ 1) (τ 2) (τ 7) p a (bp (σ 4) nw nl (τ 0) (τ 1) (τ 2) (τ 7) p a) (b + 1) = bq (σ 4) nl (τ 0) (τ 1) (τ 2) (τ 7) p a (bp (σ 4) nw nl (τ 0) (τ 1) (τ 2) (τ 7) p a) b := bq_no (fun q => q.1.2 c_63)
                refine g_iconst (v := 0) C dX0_bestPairAt_70 (by decide) ?_
                refine g_istore C [(6, _), (5, _), (4, _), (3, _), (2, _), (0, _), (1, _)] dX0_bestPairAt_71 (by decide) rfl ?_
                refine g_iload C dX0_bestPairAt_73 rfl ?_
                refine g_if_eq (tgt := 108) C dX0_bestPairAt_75 (by decide) (fun c_75 => ?_) (fun c_75 => ?_)
                · refine g_iinc C 1 [(5, _), (6, _), (4, _), (3, _), (2, _), (0, _), (1, _)] dX0_bestPairAt_108 rfl (nI_i1 b) (by decide) rfl ?_
                  refine g_goto (tgt := 30) C dX0_bestPairAt_111 (by decide) ?_
                  refine g_lv [0, 2, 3, 4, 5, 6] [(5, _), (4, _), (3, _), (2, _), (0, _), (1, _)] rfl ?_
                  have g := ih2 (b + 1) (by omega)
                  rw [e] at g
                  exact g
                · exact absurd rfl c_75
              · refine g_iconst (v := 1) C dX0_bestPairAt_66 (by decide) ?_
                refine g_goto (tgt := 71) C dX0_bestPairAt_67 (by decide) ?_
                refine g_istore C [(6, _), (5, _), (4, _), (3, _), (2, _), (0, _), (1, _)] dX0_bestPairAt_71 (by decide) rfl ?_
                refine g_iload C dX0_bestPairAt_73 rfl ?_
                refine g_if_eq (tgt := 108) C dX0_bestPairAt_75 (by decide) (fun c_75 => ?_) (fun c_75 => ?_)
                · exact absurd c_75 (by decide)
                · refine g_aload_n C dX0_bestPairAt_78 rfl rfl ?_
                  refine g_iload C dX0_bestPairAt_79 rfl ?_
                  refine g_iload C dX0_bestPairAt_81 rfl ?_
                  refine g_callVEi (Cl := RX0) (T := TX0) (N := 18) (ci := 0) (q0 := 0) (na := 2) C dX0_bestPairAt_83 (c_cntPair hl (eG E) σ τ o _ _ h4 (vp_in_nI (show a < 12 by omega) (by decide)) (vp_in_nI (show b < 12 by omega) (by decide))) gX0_bestPairAt_X0_countOfPair rfl rfl (by decide +kernel) rfl rfl rfl (Nat.le_of_ble_eq_true rfl) (by rw [R]; exact ⟨by decide, by decide⟩) (by rw [R]; exact ⟨by decide, by decide⟩) ?_
                  rw [nI_clamp (show a < 2 ^ 31 by omega), nI_clamp (show b < 2 ^ 31 by omega)]
                  refine g_iload_n C dX0_bestPairAt_86 rfl rfl ?_
                  refine g_icmp_ge (tgt := 108) C dX0_bestPairAt_87 (by decide) (fun c_87 => ?_) (fun c_87 => ?_)
                  · have e : bq (σ 4) nl (τ 0) (τ 1) (τ 2) (τ 7) p a (bp (σ 4) nw nl (τ 0) (τ 1) (τ 2) (τ 7) p a) (b + 1) = bq (σ 4) nl (τ 0) (τ 1) (τ 2) (τ 7) p a (bp (σ 4) nw nl (τ 0) (τ 1) (τ 2) (τ 7) p a) b := bq_no (fun q => absurd q.2 (Int32.not_lt.mpr c_87))
                    refine g_iinc C 1 [(5, _), (6, _), (4, _), (3, _), (2, _), (0, _), (1, _)] dX0_bestPairAt_108 rfl (nI_i1 b) (by decide) rfl ?_
                    refine g_goto (tgt := 30) C dX0_bestPairAt_111 (by decide) ?_
                    refine g_lv [0, 2, 3, 4, 5, 6] [(5, _), (4, _), (3, _), (2, _), (0, _), (1, _)] rfl ?_
                    have g := ih2 (b + 1) (by omega)
                    rw [e] at g
                    exact g
                  · have e : bq (σ 4) nl (τ 0) (τ 1) (τ 2) (τ 7) p a (bp (σ 4) nw nl (τ 0) (τ 1) (τ 2) (τ 7) p a) (b + 1) = (nI a * 100 + nI b, cn (σ 4) (τ 0 a + τ 0 b)) := bq_yes ⟨⟨c_48, c_63⟩, Int32.not_le.mp c_87⟩
                    refine g_iload C dX0_bestPairAt_90 rfl ?_
                    refine g_bipush (v := 100) C dX0_bestPairAt_92 (by decide) ?_
                    refine g_imul C dX0_bestPairAt_94 ?_
                    refine g_iload C dX0_bestPairAt_95 rfl ?_
                    refine g_iadd C dX0_bestPairAt_97 ?_
                    refine g_istore_n C [(2, _), (6, _), (5, _), (4, _), (3, _), (0, _), (1, _)] dX0_bestPairAt_98 rfl (by decide) rfl ?_
                    refine g_aload_n C dX0_bestPairAt_99 rfl rfl ?_
                    refine g_iload C dX0_bestPairAt_100 rfl ?_
                    refine g_iload C dX0_bestPairAt_102 rfl ?_
                    refine g_callVEi (Cl := RX0) (T := TX0) (N := 18) (ci := 0) (q0 := 0) (na := 2) C dX0_bestPairAt_104 (c_cntPair hl (eG E) σ τ o _ _ h4 (vp_in_nI (show a < 12 by omega) (by decide)) (vp_in_nI (show b < 12 by omega) (by decide))) gX0_bestPairAt_X0_countOfPair rfl rfl (by decide +kernel) rfl rfl rfl (Nat.le_of_ble_eq_true rfl) (by rw [R]; exact ⟨by decide, by decide⟩) (by rw [R]; exact ⟨by decide, by decide⟩) ?_
                    rw [nI_clamp (show a < 2 ^ 31 by omega), nI_clamp (show b < 2 ^ 31 by omega)]
                    refine g_istore_n C [(3, _), (2, _), (6, _), (5, _), (4, _), (0, _), (1, _)] dX0_bestPairAt_107 rfl (by decide) rfl ?_
                    refine g_iinc C 3 [(5, _), (3, _), (2, _), (6, _), (4, _), (0, _), (1, _)] dX0_bestPairAt_108 rfl (nI_i1 b) (by decide) rfl ?_
                    refine g_goto (tgt := 30) C dX0_bestPairAt_111 (by decide) ?_
                    refine g_lv [0, 4, 1, 2, 5, 6] [(5, _), (4, _), (3, _), (2, _), (0, _), (1, _)] rfl ?_
                    have g := ih2 (b + 1) (by omega)
                    rw [e] at g
                    exact g
      refine g_iload C dX0_bestPairAt_8 rfl ?_
      refine g_aload_n C dX0_bestPairAt_10 rfl rfl ?_
      refine g_getX C 3 dX0_bestPairAt_11 mwX0_bestPairAt_inX (by decide) mwX0_bestPairAt_f19 rfl rfl ?_
      refine g_icmp_ge (tgt := 120) C dX0_bestPairAt_14 (by decide) (fun c_14 => ?_) (fun c_14 => ?_)
      · exact absurd (by rw [h3] at c_14; exact c_14) (nI_ge (by omega) (by omega))
      · refine g_aload_n C dX0_bestPairAt_17 rfl rfl ?_
        refine g_iload_n C dX0_bestPairAt_18 rfl rfl ?_
        refine g_iload C dX0_bestPairAt_19 rfl ?_
        refine g_callVEi (Cl := RX0) (T := TX0) (N := 18) (ci := 0) (q0 := 0) (na := 2) C dX0_bestPairAt_21 (c_mayHold hl (eG E) σ τ o nl p _ h9 hnl (by omega) (fun h => Iv_tin I h)) gX0_bestPairAt_X0_mayHold rfl rfl (by decide +kernel) rfl rfl rfl (Nat.le_of_ble_eq_true rfl) (by rw [R]; exact ⟨by decide, by decide⟩) (by rw [R]; exact ⟨by decide, by decide⟩) ?_
        refine g_if_eq (tgt := 114) C dX0_bestPairAt_24 (by decide) (fun c_24 => ?_) (fun c_24 => ?_)
        · refine g_iinc C 0 [(4, _), (3, _), (2, _), (0, _), (1, _)] dX0_bestPairAt_114 rfl (nI_i1 a) (by decide) rfl ?_
          refine g_goto (tgt := 8) C dX0_bestPairAt_117 (by decide) ?_
          have g := ih (a + 1) (by omega)
          rw [bp_no c_24] at g
          exact g
        · refine g_iconst (v := 0) C dX0_bestPairAt_27 (by decide) ?_
          refine g_istore C [(5, _), (4, _), (3, _), (2, _), (0, _), (1, _)] dX0_bestPairAt_28 (by decide) rfl ?_
          exact inner c_24 nw 0 (Nat.zero_add _)
  refine g_iconst (v := (-1)) C dX0_bestPairAt_0 (by decide) ?_
  refine g_istore_n C [(2, _), (0, _), (1, _)] dX0_bestPairAt_1 rfl (by decide) rfl ?_
  refine g_ldc C dX0_bestPairAt_2 mwX0_bestPairAt_c151 ?_
  refine g_istore_n C [(3, _), (2, _), (0, _), (1, _)] dX0_bestPairAt_4 rfl (by decide) rfl ?_
  refine g_iconst (v := 0) C dX0_bestPairAt_5 (by decide) ?_
  refine g_istore C [(4, _), (3, _), (2, _), (0, _), (1, _)] dX0_bestPairAt_6 (by decide) rfl ?_
  exact loop nw 0 (Nat.zero_add _)
end
section
/-! plain facts: the order of ints, counts, bits, the first least one -/
theorem i_rf (a : Int32) : a ≤ a := by rw [Int32.le_iff_toInt_le]; omega
theorem i_tr {a b c : Int32} (h : a ≤ b) (h2 : b ≤ c) : a ≤ c := by
  rw [Int32.le_iff_toInt_le] at *
  omega
theorem i_ltle {a b c : Int32} (h : a < b) (h2 : b ≤ c) : a < c := by
  rw [Int32.lt_iff_toInt_lt] at *
  rw [Int32.le_iff_toInt_le] at *
  omega
theorem i_lelt {a b c : Int32} (h : a ≤ b) (h2 : b < c) : a < c := by
  rw [Int32.lt_iff_toInt_lt] at *
  rw [Int32.le_iff_toInt_le] at *
  omega
theorem i_le {a b : Int32} (h : a < b) : a ≤ b := by
  rw [Int32.lt_iff_toInt_lt] at h
  rw [Int32.le_iff_toInt_le]
  omega
theorem i_nlt {a b : Int32} (h : ¬ a < b) : b ≤ a := Int32.not_lt.mp h
theorem i_nle {a b : Int32} (h : ¬ a ≤ b) : b < a := Int32.not_le.mp h
theorem i_ng {a b : Int32} (h : a ≤ b) : ¬ b < a := Int32.not_lt.mpr h
theorem i_irr {a : Int32} (h : a < a) : False := by
  rw [Int32.lt_iff_toInt_lt] at h
  omega
theorem i_anti {a b : Int32} (h : a ≤ b) (h2 : b ≤ a) : a = b := by
  rw [Int32.le_iff_toInt_le] at *
  exact Int32.toInt_inj.mp (by omega)
theorem i_eqor {a b : Int32} (h : a ≤ b) : a < b ∨ a = b := by
  by_cases q : a < b
  · exact Or.inl q
  · exact Or.inr (i_anti h (i_nlt q))
theorem cn_nI {lm x : Nat} (h1 : 3 ≤ lm) (h2 : lm ≤ 15) (hx : x ≤ 60) : cn (nI lm) (nI x) = nI ((x + lm - 1) / lm) := by
  unfold cn
  rw [nI_add, show (1 : Int32) = nI 1 from rfl, pk_sub (by omega), pk_div (by omega) (by omega) (by omega)]
theorem cn_b {lm x : Nat} (h1 : 3 ≤ lm) (h2 : lm ≤ 15) (hx : x ≤ 60) : ∃ c, c ≤ 60 ∧ cn (nI lm) (nI x) = nI c := by
  refine ⟨(x + lm - 1) / lm, ?_, cn_nI h1 h2 hx⟩
  have e1 : (x + lm - 1) / lm ≤ (x + lm - 1) / 3 := Nat.div_le_div_left h1 (by omega)
  omega
theorem nM : (1000000 : Int32) = nI 1000000 := rfl
theorem cn_lt {lm x : Nat} (h1 : 3 ≤ lm) (h2 : lm ≤ 15) (hx : x ≤ 60) : cn (nI lm) (nI x) < 1000000 := by
  obtain ⟨c, hc, e⟩ := cn_b h1 h2 hx
  rw [e, nM]
  exact (nI_ltI (by omega) (by omega)).mpr (by omega)
theorem smod_l : ∀ n, n < 32 → ((nI n &&& 31).toBitVec.smod 32).toNat = n := by decide +kernel
theorem hb_div {x w : Nat} (hx : x < 2 ^ 31) (hw : w < 32) : hb (nI x) (nI w) = if x / 2 ^ w % 2 = 1 then 1 else 0 := by
  unfold hb
  rw [pk_shrN hx (nI w &&& 31) w (smod_l w hw)]
  have h1 : x / 2 ^ w < 2 ^ 32 := Nat.lt_of_le_of_lt (Nat.div_le_self _ _) (by omega)
  rw [pk_andN h1 (m := 1) 1 (by decide)]
  have h2 : x / 2 ^ w % 2 ^ 1 < 2 := Nat.mod_lt _ (by decide)
  rw [show (2 : Nat) ^ 1 = 2 from rfl] at h2 ⊢
  by_cases q : x / 2 ^ w % 2 = 1
  · rw [if_pos q, q]
    rfl
  · rw [if_neg q, show x / 2 ^ w % 2 = 0 by omega]
    rfl
theorem hb_tb {x w : Nat} (hx : x < 2 ^ 31) (hw : w < 32) : hb (nI x) (nI w) ≠ 0 ↔ x.testBit w = true := by
  rw [hb_div hx hw, Nat.testBit_eq_decide_div_mod_eq, decide_eq_true_eq]
  by_cases q : x / 2 ^ w % 2 = 1
  · rw [if_pos q]
    exact ⟨fun _ => q, fun _ => by decide⟩
  · rw [if_neg q]
    exact ⟨fun h => absurd rfl h, fun h => absurd h q⟩
theorem lt12 {n x : Nat} (h : n ≤ 12) (hx : x < 2 ^ n) : x < 4096 := Nat.lt_of_lt_of_le hx (Nat.pow_le_pow_right (by decide) h)
/-- of what holds P below n, a is the first of those with the least f -/
def isFst (P : Nat → Prop) (f : Nat → Int32) (n a : Nat) : Prop := a < n ∧ P a ∧ (∀ b, b < n → P b → f a ≤ f b) ∧ ∀ b, b < a → P b → f a < f b
theorem bw_spec {n : Nat} {lm : Int32} {nl : Nat} {L S Tg : Nat → Int32} {p : Nat} (hf : ∀ a, a < n → cn lm (L a) < 1000000) : ∀ j, j ≤ n → ((∀ a, a < j → mh nl S Tg p (nI a) = 0) ∧ bw lm nl L S Tg p j = (Tg p, 1000000)) ∨ ∃ a, isFst (fun a => mh nl S Tg p (nI a) ≠ 0) (fun a => cn lm (L a)) j a ∧ bw lm nl L S Tg p j = (nI a, cn lm (L a)) := by
  intro j
  induction j with
  | zero => exact fun _ => Or.inl ⟨fun a h => absurd h (Nat.not_lt_zero a), rfl⟩
  | succ j ih =>
    intro hj
    rcases ih (by omega) with ⟨h1, h2⟩ | ⟨a, ⟨a1, a2, a3, a4⟩, h2⟩
    · by_cases hm : mh nl S Tg p (nI j) = 0
      · refine Or.inl ⟨fun a ha => ?_, ?_⟩
        · rcases (show a < j ∨ a = j by omega) with q | q
          · exact h1 a q
          · rw [q]; exact hm
        · rw [bw_no (fun q => q.1 hm), h2]
      · refine Or.inr ⟨j, ⟨Nat.lt_succ_self j, hm, fun b hb hpb => ?_, fun b hb hpb => absurd (h1 b hb) hpb⟩, bw_yes ⟨hm, by rw [h2]; exact hf j (by omega)⟩⟩
        rcases (show b < j ∨ b = j by omega) with q | q
        · exact absurd (h1 b q) hpb
        · rw [q]; exact i_rf _
    · by_cases hc : mh nl S Tg p (nI j) ≠ 0 ∧ cn lm (L j) < cn lm (L a)
      · refine Or.inr ⟨j, ⟨Nat.lt_succ_self j, hc.1, fun b hb hpb => ?_, fun b hb hpb => ?_⟩, bw_yes ⟨hc.1, by rw [h2]; exact hc.2⟩⟩
        · rcases (show b < j ∨ b = j by omega) with q | q
          · exact i_tr (i_le hc.2) (a3 b q hpb)
          · rw [q]; exact i_rf _
        · exact i_ltle hc.2 (a3 b hb hpb)
      · refine Or.inr ⟨a, ⟨by omega, a2, fun b hb hpb => ?_, a4⟩, ?_⟩
        · rcases (show b < j ∨ b = j by omega) with q | q
          · exact a3 b q hpb
          · subst q
            exact i_nlt (fun z => hc ⟨hpb, z⟩)
        · rw [bw_no (fun q => hc ⟨q.1, by rw [h2] at q; exact q.2⟩), h2]
/-- (a', b') ahead of (a, b), row by row, n to a row -/
def lexB (n a b a' b' : Nat) : Prop := (a' < a ∧ b' < n) ∨ (a' = a ∧ b' < b)
def isFst2 (P : Nat → Nat → Prop) (f : Nat → Nat → Int32) (n a b a0 b0 : Nat) : Prop := lexB n a b a0 b0 ∧ P a0 b0 ∧ (∀ a' b', lexB n a b a' b' → P a' b' → f a0 b0 ≤ f a' b') ∧ ∀ a' b', lexB n a0 b0 a' b' → P a' b' → f a0 b0 < f a' b'
def St2 (P : Nat → Nat → Prop) (f : Nat → Nat → Int32) (n a b : Nat) (s : Int32 × Int32) : Prop :=
  ((∀ a' b', lexB n a b a' b' → ¬ P a' b') ∧ s = (-1, 1000000)) ∨ ∃ a0 b0, isFst2 P f n a b a0 b0 ∧ s = (nI a0 * 100 + nI b0, f a0 b0)
theorem lexB_s {n a b a' b' : Nat} (h : lexB n a (b + 1) a' b') : lexB n a b a' b' ∨ (a' = a ∧ b' = b) := by
  unfold lexB at *
  omega
theorem lexB_m {n a b a' b' : Nat} (h : lexB n a b a' b') : lexB n a (b + 1) a' b' := by
  unfold lexB at *
  omega
theorem lexB_r {n a a' b' : Nat} (h : lexB n (a + 1) 0 a' b') : lexB n a n a' b' := by
  unfold lexB at *
  omega
theorem lexB_r2 {n a a' b' : Nat} (h : lexB n a n a' b') : lexB n (a + 1) 0 a' b' := by
  unfold lexB at *
  omega
theorem St2_yes {P : Nat → Nat → Prop} {f : Nat → Nat → Int32} {n a b : Nat} {s : Int32 × Int32} (h : St2 P f n a b s) (hp : P a b) (hl : f a b < s.2) : St2 P f n a (b + 1) (nI a * 100 + nI b, f a b) := by
  refine Or.inr ⟨a, b, ⟨Or.inr ⟨rfl, Nat.lt_succ_self b⟩, hp, fun a' b' h1 h2 => ?_, fun a' b' h1 h2 => ?_⟩, rfl⟩
  · rcases lexB_s h1 with q | ⟨rfl, rfl⟩
    · rcases h with ⟨g1, -⟩ | ⟨a0, b0, ⟨-, -, g3, -⟩, g⟩
      · exact absurd h2 (g1 a' b' q)
      · rw [g] at hl
        exact i_tr (i_le hl) (g3 a' b' q h2)
    · exact i_rf _
  · rcases h with ⟨g1, -⟩ | ⟨a0, b0, ⟨-, -, g3, -⟩, g⟩
    · exact absurd h2 (g1 a' b' h1)
    · rw [g] at hl
      exact i_ltle hl (g3 a' b' h1 h2)
theorem St2_no {P : Nat → Nat → Prop} {f : Nat → Nat → Int32} {n a b : Nat} {s : Int32 × Int32} (h : St2 P f n a b s) (hf : f a b < 1000000) (hn : ¬ (P a b ∧ f a b < s.2)) : St2 P f n a (b + 1) s := by
  rcases h with ⟨g1, g2⟩ | ⟨a0, b0, ⟨g0, g1, g3, g4⟩, g⟩
  · refine Or.inl ⟨fun a' b' h1 => ?_, g2⟩
    rcases lexB_s h1 with q | ⟨rfl, rfl⟩
    · exact g1 a' b' q
    · exact fun z => hn ⟨z, by rw [g2]; exact hf⟩
  · refine Or.inr ⟨a0, b0, ⟨lexB_m g0, g1, fun a' b' h1 h2 => ?_, g4⟩, g⟩
    rcases lexB_s h1 with q | ⟨rfl, rfl⟩
    · exact g3 a' b' q h2
    · exact i_nlt (fun z => hn ⟨h2, by rw [g]; exact z⟩)
theorem St2_row {P : Nat → Nat → Prop} {f : Nat → Nat → Int32} {n a : Nat} {s : Int32 × Int32} (h : St2 P f n a n s) : St2 P f n (a + 1) 0 s := by
  rcases h with ⟨g1, g2⟩ | ⟨a0, b0, ⟨g0, g1, g3, g4⟩, g⟩
  · exact Or.inl ⟨fun a' b' h1 => g1 a' b' (lexB_r h1), g2⟩
  · exact Or.inr ⟨a0, b0, ⟨lexB_r2 g0, g1, fun a' b' h1 h2 => g3 a' b' (lexB_r h1) h2, g4⟩, g⟩
theorem St2_skip {P : Nat → Nat → Prop} {f : Nat → Nat → Int32} {n a : Nat} {s : Int32 × Int32} (h : St2 P f n a 0 s) (hs : ∀ b, ¬ P a b) : St2 P f n (a + 1) 0 s := by
  have key : ∀ a' b', lexB n (a + 1) 0 a' b' → P a' b' → lexB n a 0 a' b' := fun a' b' h1 h2 => by
    rcases lexB_r h1 with q | ⟨rfl, -⟩
    · exact Or.inl q
    · exact absurd h2 (hs b')
  rcases h with ⟨g1, g2⟩ | ⟨a0, b0, ⟨g0, g1, g3, g4⟩, g⟩
  · exact Or.inl ⟨fun a' b' h1 h2 => g1 a' b' (key a' b' h1 h2) h2, g2⟩
  · exact Or.inr ⟨a0, b0, ⟨lexB_r2 (by unfold lexB at *; omega), g1, fun a' b' h1 h2 => g3 a' b' (key a' b' h1 h2) h2, g4⟩, g⟩
/-- a pair that may stand at p and behind, and may be joined -/
def pq (nl : Nat) (S J Tg : Nat → Int32) (p a b : Nat) : Prop := mh nl S Tg p (nI a) ≠ 0 ∧ mh nl S Tg (p + 1) (nI b) ≠ 0 ∧ hb (J a) (nI b) ≠ 0
theorem bp_spec {lm : Int32} {nw nl : Nat} {L S J Tg : Nat → Int32} {p : Nat} (hf : ∀ a b, a < nw → b < nw → cn lm (L a + L b) < 1000000) : ∀ a, a ≤ nw → St2 (pq nl S J Tg p) (fun a b => cn lm (L a + L b)) nw a 0 (bp lm nw nl L S J Tg p a) := by
  intro a
  induction a with
  | zero => exact fun _ => Or.inl ⟨fun a' b' h => by unfold lexB at h; omega, rfl⟩
  | succ a ih =>
    intro ha
    have h := ih (by omega)
    by_cases hm : mh nl S Tg p (nI a) = 0
    · rw [bp_no hm]
      exact St2_skip h (fun b z => z.1 hm)
    · rw [bp_yes hm]
      refine St2_row ?_
      have key : ∀ b, b ≤ nw → St2 (pq nl S J Tg p) (fun a b => cn lm (L a + L b)) nw a b (bq lm nl L S J Tg p a (bp lm nw nl L S J Tg p a) b) := by
        intro b
        induction b with
        | zero => exact fun _ => h
        | succ b ih2 =>
          intro hb9
          have g := ih2 (by omega)
          by_cases hc : (mh nl S Tg (p + 1) (nI b) ≠ 0 ∧ hb (J a) (nI b) ≠ 0) ∧ cn lm (L a + L b) < (bq lm nl L S J Tg p a (bp lm nw nl L S J Tg p a) b).2
          · rw [bq_yes hc]
            exact St2_yes g ⟨hm, hc.1.1, hc.1.2⟩ hc.2
          · rw [bq_no hc]
            exact St2_no g (hf a b (by omega) (by omega)) (fun z => hc ⟨⟨z.1.2.1, z.1.2.2⟩, z.2⟩)
      exact key nw (Nat.le_refl _)
section
variable {nw nl lm : Nat} {a3 a9 a4 : Int32} {L S J Tg Jd Cj : Nat → Int32} {p : Nat}
theorem Iv_cn (I : Iv nw nl lm a3 a9 a4 L S Tg Jd Cj) {a : Nat} (ha : a < nw) : ∃ c, c ≤ 60 ∧ cn a4 (L a) = nI c := by
  obtain ⟨x, h1, h2, e⟩ := Iv_lt I a ha
  rw [Iv_h4 I, e]
  exact cn_b (Iv_lm I).1 (Iv_lm I).2 (by omega)
theorem Iv_cn2 (I : Iv nw nl lm a3 a9 a4 L S Tg Jd Cj) {a b : Nat} (ha : a < nw) (hb : b < nw) : ∃ c, c ≤ 60 ∧ cn a4 (L a + L b) = nI c := by
  obtain ⟨x, h1, h2, e⟩ := Iv_lt I a ha
  obtain ⟨y, h3, h4, e2⟩ := Iv_lt I b hb
  rw [Iv_h4 I, e, e2, nI_add]
  exact cn_b (Iv_lm I).1 (Iv_lm I).2 (by omega)
theorem nI_60 {x : Int32} (h : ∃ c, c ≤ 60 ∧ x = nI c) : x < 1000000 := by
  obtain ⟨c, hc, rfl⟩ := h
  rw [nM]
  exact (nI_ltI (by omega) (by omega)).mpr (by omega)
/-- the word itself may stand at its place -/
theorem Iv_own (I : Iv nw nl lm a3 a9 a4 L S Tg Jd Cj) (hp : p < nl) : ∃ w, w < nw ∧ Tg p = nI w ∧ mh nl S Tg p (nI w) ≠ 0 := by
  obtain ⟨w, hw, e⟩ := Iv_tg I p hp
  obtain ⟨x, e2, hx, ht⟩ := Iv_st I w hw
  have h12 := Iv_nw I
  refine ⟨w, hw, e, ?_⟩
  unfold mh
  rw [if_pos hp, e, nI_clamp (by omega), e2]
  exact (hb_tb (Nat.lt_trans (lt12 h12 hx) (by decide)) (by omega)).mpr ht
/-- the best word at a place is there -/
theorem bw_fin (I : Iv nw nl lm a3 a9 a4 L S Tg Jd Cj) (hp : p < nl) : ∃ a, isFst (fun a => mh nl S Tg p (nI a) ≠ 0) (fun a => cn a4 (L a)) nw a ∧ bw a4 nl L S Tg p nw = (nI a, cn a4 (L a)) := by
  rcases bw_spec (n := nw) (lm := a4) (nl := nl) (L := L) (S := S) (Tg := Tg) (p := p) (fun a ha => nI_60 (Iv_cn I ha)) nw (Nat.le_refl _) with ⟨h1, -⟩ | h
  · obtain ⟨w, hw, -, hm⟩ := Iv_own I hp
    exact absurd (h1 w hw) hm
  · exact h
theorem bp_fin (I : Iv nw nl lm a3 a9 a4 L S Tg Jd Cj) : ((∀ a b, a < nw → b < nw → ¬ pq nl S J Tg p a b) ∧ bp a4 nw nl L S J Tg p nw = (-1, 1000000)) ∨ ∃ a b, a < nw ∧ b < nw ∧ pq nl S J Tg p a b ∧ (∀ a' b', a' < nw → b' < nw → pq nl S J Tg p a' b' → cn a4 (L a + L b) ≤ cn a4 (L a' + L b')) ∧ (∀ a' b', lexB nw a b a' b' → pq nl S J Tg p a' b' → cn a4 (L a + L b) < cn a4 (L a' + L b')) ∧ bp a4 nw nl L S J Tg p nw = (nI (a * 100 + b), cn a4 (L a + L b)) := by
  have h12 := Iv_nw I
  rcases bp_spec (lm := a4) (nw := nw) (nl := nl) (L := L) (S := S) (J := J) (Tg := Tg) (p := p) (fun a b ha hb => nI_60 (Iv_cn2 I ha hb)) nw (Nat.le_refl _) with ⟨h1, h2⟩ | ⟨a, b, ⟨h0, h1, h2, h3⟩, h4⟩
  · exact Or.inl ⟨fun a b ha hb => h1 a b (Or.inl ⟨ha, hb⟩), h2⟩
  · have hab : a < nw ∧ b < nw := by unfold lexB at h0; omega
    refine Or.inr ⟨a, b, hab.1, hab.2, h1, fun a' b' ha hb hq => h2 a' b' (Or.inl ⟨ha, hb⟩) hq, h3, ?_⟩
    rw [h4, show (100 : Int32) = nI 100 from rfl, pk_mul, nI_add]
end
end
section
/-! the class's search, behind the best words and pairs -/
theorem uT_ne {τ : gT} {c i a : Nat} {x : Int32} (h : a ≠ c) : uT τ c i x a = τ a := by
  unfold uT
  rw [if_neg h]
theorem uT_eq {τ : gT} {c i : Nat} {x : Int32} : uT τ c i x c = upd (τ c) i x := by
  unfold uT
  rw [if_pos rfl]
theorem upd_eq {f : Nat → Int32} {k : Nat} {x : Int32} : upd f k x k = x := pk_us
theorem upd_ne {f : Nat → Int32} {k j : Nat} {x : Int32} (h : j ≠ k) : upd f k x j = f j := pk_un h
/-- all but the search's own rows -/
def XS (τ τ' : gT) : Prop := ∀ c, (c < 12 ∨ 17 < c) → τ' c = τ c
theorem XS_rf (τ : gT) : XS τ τ := fun _ _ => rfl
theorem XS_tr {τ τ' τ'' : gT} (h : XS τ τ') (h2 : XS τ' τ'') : XS τ τ'' := fun c hc => (h2 c hc).trans (h c hc)
theorem XS_u {τ : gT} {c i : Nat} {x : Int32} (h : 12 ≤ c) (h2 : c ≤ 17) : XS τ (uT τ c i x) := fun a ha => uT_ne (by omega)
theorem IX_cong {σ : gS} {τ τ' : gT} {nw nl lm : Nat} (I : IX σ τ nw nl lm) (h : XS τ τ') (h17 : ∀ i, τ' 17 i = 0 ∨ τ' 17 i = 1) : IX σ τ' nw nl lm := by
  unfold IX at *
  rw [h 0 (by decide), h 1 (by decide), h 7 (by decide), h 8 (by decide)]
  obtain ⟨x1, x2, x3, x4, x5, x6, x7, x8, x9, x10, x11, x12, x13⟩ := I
  exact ⟨x1, x2, x3, x4, x5, x6, x7, x8, x9, h17, x11, x12, x13⟩
/-- what the class notes of a place: alone, joined -/
def LAx (σ : gS) (τ : gT) (nw nl p : Nat) : Int32 := (bw (σ 4) nl (τ 0) (τ 1) (τ 7) p nw).2
def LJx (σ : gS) (τ : gT) (nw nl p : Nat) : Int32 := (bp (σ 4) nw nl (τ 0) (τ 1) (τ 2) (τ 7) p nw).2
theorem LAx_s {σ : gS} {τ τ' : gT} {nw nl p : Nat} (h : XS τ τ') : LAx σ τ' nw nl p = LAx σ τ nw nl p := by
  unfold LAx
  rw [h 0 (by decide), h 1 (by decide), h 7 (by decide)]
theorem LJx_s {σ : gS} {τ τ' : gT} {nw nl p : Nat} (h : XS τ τ') : LJx σ τ' nw nl p = LJx σ τ nw nl p := by
  unfold LJx
  rw [h 0 (by decide), h 1 (by decide), h 2 (by decide), h 7 (by decide)]
def NL (σ : gS) (τ : gT) (nw nl p : Nat) (τ' : gT) : Prop := (∀ c, c ≠ 12 → c ≠ 13 → τ' c = τ c) ∧ ∀ q, q < p → τ' 12 q = LAx σ τ nw nl q ∧ τ' 13 q = LJx σ τ nw nl q
theorem NL_s {σ : gS} {τ τ' : gT} {nw nl p : Nat} (h : NL σ τ nw nl p τ') : XS τ τ' := fun c hc => h.1 c (by omega) (by omega)
theorem NL_next {σ : gS} {τ τ' : gT} {nw nl p : Nat} {x y : Int32} (h : NL σ τ nw nl p τ') (hx : x = LAx σ τ nw nl p) (hy : y = LJx σ τ nw nl p) : NL σ τ nw nl (p + 1) (uT (uT τ' 12 p x) 13 p y) := by
  refine ⟨fun c h1 h2 => by rw [uT_ne h2, uT_ne h1, h.1 c h1 h2], fun q hq => ?_⟩
  rw [uT_ne (show (12 : Nat) ≠ 13 by decide), uT_eq, uT_eq, uT_ne (show (13 : Nat) ≠ 12 by decide)]
  by_cases e : q = p
  · subst e
    rw [upd_eq, upd_eq]
    exact ⟨hx, hy⟩
  · rw [upd_ne e, upd_ne e]
    exact h.2 q (by omega)
/-- a / 100 and a % 100 of a pair's number -/
theorem pr_div {a b : Nat} (ha : a < 12) (hb : b < 12) : nI (a * 100 + b) / 100 = nI a := by
  rw [show (100 : Int32) = nI 100 from rfl, pk_div (by omega) (by omega) (by omega)]
  congr 1
  omega
theorem pr_rem {a b : Nat} (ha : a < 12) (hb : b < 12) : nI (a * 100 + b) - nI (a * 100 + b) / 100 * 100 = nI b := by
  rw [show (100 : Int32) = nI 100 from rfl, pk_rem (by omega) (by omega) (by omega)]
  congr 1
  omega
theorem pr_ne {a b : Nat} (ha : a < 12) (hb : b < 12) : ¬ nI (a * 100 + b) = -1 := by
  intro h
  have := congrArg Int32.toInt h
  rw [nI_toInt (by omega)] at this
  have e : (-1 : Int32).toInt = -1 := by decide
  omega
set_option maxRecDepth 100000 in
theorem mwX0_noteLeastCounts_inX : ∀ w ∈ wsX00, w ∈ wsX0_noteLeastCounts := by decide +kernel
set_option maxRecDepth 100000 in
theorem mwX0_noteLeastCounts_f39 : Cond.fieldLink RX0 39 "TelegraphPrices" "length" "I" ∈ wsX0_noteLeastCounts := by decide +kernel
set_option maxRecDepth 100000 in
theorem mwX0_noteLeastCounts_f48 : Cond.fieldLink RX0 48 "TelegraphPrices" "leastAlone" "[I" ∈ wsX0_noteLeastCounts := by decide +kernel
set_option maxRecDepth 100000 in
theorem mwX0_noteLeastCounts_f9 : Cond.fieldLink RX0 9 "TelegraphPrices" "letters" "[I" ∈ wsX0_noteLeastCounts := by decide +kernel
set_option maxRecDepth 100000 in
theorem mwX0_noteLeastCounts_f51 : Cond.fieldLink RX0 51 "TelegraphPrices" "leastJoined" "[I" ∈ wsX0_noteLeastCounts := by decide +kernel
set_option maxRecDepth 100000 in
theorem mwX0_noteLeastCounts_c151 : Cond.constant RX0 151 (1000000) ∈ wsX0_noteLeastCounts := by decide +kernel
set_option maxHeartbeats 4000000 in
set_option maxRecDepth 100000 in
theorem c_noteLeast {l : Launch} (hl : l.stackTraces = false) (Γ : gG) (σ : gS) (τ : gT) (o : gO) (nw nl lm : Nat) (I : IX σ τ nw nl lm) : Ct l yX0_noteLeastCounts wsX0_noteLeastCounts 4 128 0 0 [.ref (Γ.2.1 100)] Γ σ τ o (pV (fun σ' τ' o' => σ' = σ ∧ o' = o ∧ NL σ τ nw nl nl τ')) (noX) := by
  refine ct_of hl (by decide +kernel) rfl (Nat.le_of_ble_eq_true rfl) ?_
  intro E C F T hΓ hL R
  subst hΓ
  subst hL
  show G E 0 0 0 [(0, .ref ((eG E).2.1 100))] [] σ τ o
  have hnw := Iv_nw I
  have hnl := Iv_nl I
  have h3 : σ 3 = nI nw := Iv_h3 I
  have h9 : σ 9 = nI nl := Iv_h9 I
  have h4 : ¬ σ 4 = 0 := Iv_ne I
  have loop : ∀ m p : Nat, ∀ τ' : gT, p + m = nl → NL σ τ nw nl p τ' → G E 0 0 2 [(1, .int (nI p)), (0, .ref ((eG E).2.1 100))] [] σ τ' o := by
    intro m
    induction m with
    | zero =>
      intro p τ' hp hN
      refine g_iload_n C dX0_noteLeastCounts_2 rfl rfl ?_
      refine g_aload_n C dX0_noteLeastCounts_3 rfl rfl ?_
      refine g_getX C 9 dX0_noteLeastCounts_4 mwX0_noteLeastCounts_inX (by decide) mwX0_noteLeastCounts_f39 rfl rfl ?_
      refine g_icmp_ge (tgt := 70) C dX0_noteLeastCounts_7 (by decide) (fun c_7 => ?_) (fun c_7 => ?_)
      · exact g_vret C F dX0_noteLeastCounts_70 (by decide) (by decide) ⟨rfl, rfl, rfl, by rw [show p = nl by omega] at hN; exact hN⟩
      · exact absurd (by rw [h9]; exact nI_le (by omega) (by omega)) c_7
    | succ m ih =>
      intro p τ' hp hN
      have hpl : p < nl := by omega
      have I1 : IX σ τ' nw nl lm := IX_cong I (NL_s hN) (fun i => by rw [hN.1 17 (by decide) (by decide)]; exact Iv_cj I i)
      obtain ⟨a, ha, e1⟩ := bw_fin I1 hpl
      have eA : cn (σ 4) (τ' 0 a) = LAx σ τ nw nl p := by
        rw [← LAx_s (NL_s hN)]
        unfold LAx
        rw [e1]
      have hX2 : XS τ' (uT τ' 12 p (cn (σ 4) (τ' 0 a))) := XS_u (by decide) (by decide)
      have I2 : IX σ (uT τ' 12 p (cn (σ 4) (τ' 0 a))) nw nl lm := IX_cong I1 hX2 (fun i => Iv_cj I1 i)
      refine g_iload_n C dX0_noteLeastCounts_2 rfl rfl ?_
      refine g_aload_n C dX0_noteLeastCounts_3 rfl rfl ?_
      refine g_getX C 9 dX0_noteLeastCounts_4 mwX0_noteLeastCounts_inX (by decide) mwX0_noteLeastCounts_f39 rfl rfl ?_
      refine g_icmp_ge (tgt := 70) C dX0_noteLeastCounts_7 (by decide) (fun c_7 => ?_) (fun c_7 => ?_)
      · exact absurd (by rw [h9] at c_7; exact c_7) (nI_ge (by omega) (by omega))
      · refine g_aload_n C dX0_noteLeastCounts_10 rfl rfl ?_
        refine g_getX C 12 dX0_noteLeastCounts_11 mwX0_noteLeastCounts_inX (by decide) mwX0_noteLeastCounts_f48 rfl rfl ?_
        refine g_iload_n C dX0_noteLeastCounts_14 rfl rfl ?_
        refine g_aload_n C dX0_noteLeastCounts_15 rfl rfl ?_
        refine g_aload_n C dX0_noteLeastCounts_16 rfl rfl ?_
        refine g_getX C 0 dX0_noteLeastCounts_17 mwX0_noteLeastCounts_inX (by decide) mwX0_noteLeastCounts_f9 rfl rfl ?_
        refine g_aload_n C dX0_noteLeastCounts_20 rfl rfl ?_
        refine g_iload_n C dX0_noteLeastCounts_21 rfl rfl ?_
        refine g_callVEi (Cl := RX0) (T := TX0) (N := 18) (ci := 0) (q0 := 0) (na := 1) C dX0_noteLeastCounts_22 (c_bestWordAt hl (eG E) σ τ' o nw nl lm p I1 hpl) gX0_noteLeastCounts_X0_bestWordAt rfl rfl (by decide +kernel) rfl rfl rfl (Nat.le_of_ble_eq_true rfl) (by rw [R]; exact ⟨by decide, by decide⟩) (by rw [R]; exact ⟨by decide, by decide⟩) ?_
        refine g_topi (show _ = nI a by rw [e1]) ?_
        refine g_ialdN C (a) dX0_noteLeastCounts_25 rfl rfl (show a < 12 by have := ha.1; omega) (by decide) ?_
        refine g_callVEi (Cl := RX0) (T := TX0) (N := 18) (ci := 0) (q0 := 0) (na := 1) C dX0_noteLeastCounts_26 (c_cnt hl (eG E) σ τ' o _ h4) gX0_noteLeastCounts_X0_countOfLetters rfl rfl (by decide +kernel) rfl rfl rfl (Nat.le_of_ble_eq_true rfl) (by rw [R]; exact ⟨by decide, by decide⟩) (by rw [R]; exact ⟨by decide, by decide⟩) ?_
        refine g_iastN C (p) dX0_noteLeastCounts_29 rfl rfl (show p < 16 by omega) (by decide) rfl ?_
        refine g_aload_n C dX0_noteLeastCounts_30 rfl rfl ?_
        refine g_iload_n C dX0_noteLeastCounts_31 rfl rfl ?_
        refine g_callVEi (Cl := RX0) (T := TX0) (N := 18) (ci := 0) (q0 := 0) (na := 1) C dX0_noteLeastCounts_32 (c_bestPairAt hl (eG E) σ (uT τ' 12 p (cn (σ 4) (τ' 0 a))) o nw nl lm p I2 hpl) gX0_noteLeastCounts_X0_bestPairAt rfl rfl (by decide +kernel) rfl rfl rfl (Nat.le_of_ble_eq_true rfl) (by rw [R]; exact ⟨by decide, by decide⟩) (by rw [R]; exact ⟨by decide, by decide⟩) ?_
        rcases bp_fin (p := p) (J := (uT τ' 12 p (cn (σ 4) (τ' 0 a))) 2) I2 with ⟨-, e2⟩ | ⟨a2, b2, ha2, hb2, -, -, -, e2⟩
        · refine g_topi (show _ = (-1 : Int32) by rw [e2]) ?_
          refine g_istore_n C [(2, _), (1, _), (0, _)] dX0_noteLeastCounts_35 rfl (by decide) rfl ?_
          refine g_aload_n C dX0_noteLeastCounts_36 rfl rfl ?_
          refine g_getX C 13 dX0_noteLeastCounts_37 mwX0_noteLeastCounts_inX (by decide) mwX0_noteLeastCounts_f51 rfl rfl ?_
          refine g_iload_n C dX0_noteLeastCounts_40 rfl rfl ?_
          refine g_iload_n C dX0_noteLeastCounts_41 rfl rfl ?_
          refine g_iconst (v := (-1)) C dX0_noteLeastCounts_42 (by decide) ?_
          refine g_icmp_ne (tgt := 51) C dX0_noteLeastCounts_43 (by decide) (fun c_43 => ?_) (fun c_43 => ?_)
          · exact absurd rfl c_43
          · have eJ : (1000000 : Int32) = LJx σ τ nw nl p := by
              rw [← LJx_s (XS_tr (NL_s hN) hX2)]
              unfold LJx
              rw [e2]
            refine g_ldc C dX0_noteLeastCounts_46 mwX0_noteLeastCounts_c151 ?_
            refine g_goto (tgt := 63) C dX0_noteLeastCounts_48 (by decide) ?_
            refine g_iastN C (p) dX0_noteLeastCounts_63 rfl rfl (show p < 16 by omega) (by decide) rfl ?_
            refine g_iinc C 1 [(1, _), (2, _), (0, _)] dX0_noteLeastCounts_64 rfl (nI_i1 p) (by decide) rfl ?_
            refine g_goto (tgt := 2) C dX0_noteLeastCounts_67 (by decide) ?_
            refine g_lv [0, 2] [(1, _), (0, _)] rfl ?_
            exact ih (p + 1) _ (by omega) (NL_next hN eA eJ)
        · refine g_topi (show _ = nI (a2 * 100 + b2) by rw [e2]) ?_
          refine g_istore_n C [(2, _), (1, _), (0, _)] dX0_noteLeastCounts_35 rfl (by decide) rfl ?_
          refine g_aload_n C dX0_noteLeastCounts_36 rfl rfl ?_
          refine g_getX C 13 dX0_noteLeastCounts_37 mwX0_noteLeastCounts_inX (by decide) mwX0_noteLeastCounts_f51 rfl rfl ?_
          refine g_iload_n C dX0_noteLeastCounts_40 rfl rfl ?_
          refine g_iload_n C dX0_noteLeastCounts_41 rfl rfl ?_
          refine g_iconst (v := (-1)) C dX0_noteLeastCounts_42 (by decide) ?_
          refine g_icmp_ne (tgt := 51) C dX0_noteLeastCounts_43 (by decide) (fun c_43 => ?_) (fun c_43 => ?_)
          · have eJ : cn (σ 4) ((uT τ' 12 p (cn (σ 4) (τ' 0 a))) 0 a2 + (uT τ' 12 p (cn (σ 4) (τ' 0 a))) 0 b2) = LJx σ τ nw nl p := by
              rw [← LJx_s (XS_tr (NL_s hN) hX2)]
              unfold LJx
              rw [e2]
            refine g_aload_n C dX0_noteLeastCounts_51 rfl rfl ?_
            refine g_iload_n C dX0_noteLeastCounts_52 rfl rfl ?_
            refine g_bipush (v := 100) C dX0_noteLeastCounts_53 (by decide) ?_
            refine g_idiv C dX0_noteLeastCounts_55 (by decide) ?_
            refine g_topi (pr_div (show a2 < 12 by omega) (show b2 < 12 by omega)) ?_
            refine g_iload_n C dX0_noteLeastCounts_56 rfl rfl ?_
            refine g_bipush (v := 100) C dX0_noteLeastCounts_57 (by decide) ?_
            refine g_irem C dX0_noteLeastCounts_59 (by decide) ?_
            refine g_topi (pr_rem (show a2 < 12 by omega) (show b2 < 12 by omega)) ?_
            refine g_callVEi (Cl := RX0) (T := TX0) (N := 18) (ci := 0) (q0 := 0) (na := 2) C dX0_noteLeastCounts_60 (c_cntPair hl (eG E) σ (uT τ' 12 p (cn (σ 4) (τ' 0 a))) o _ _ h4 (vp_in_nI (show a2 < 12 by omega) (by decide)) (vp_in_nI (show b2 < 12 by omega) (by decide))) gX0_noteLeastCounts_X0_countOfPair rfl rfl (by decide +kernel) rfl rfl rfl (Nat.le_of_ble_eq_true rfl) (by rw [R]; exact ⟨by decide, by decide⟩) (by rw [R]; exact ⟨by decide, by decide⟩) ?_
            rw [nI_clamp (show a2 < 2 ^ 31 by omega), nI_clamp (show b2 < 2 ^ 31 by omega)]
            refine g_iastN C (p) dX0_noteLeastCounts_63 rfl rfl (show p < 16 by omega) (by decide) rfl ?_
            refine g_iinc C 1 [(1, _), (2, _), (0, _)] dX0_noteLeastCounts_64 rfl (nI_i1 p) (by decide) rfl ?_
            refine g_goto (tgt := 2) C dX0_noteLeastCounts_67 (by decide) ?_
            refine g_lv [0, 2] [(1, _), (0, _)] rfl ?_
            exact ih (p + 1) _ (by omega) (NL_next hN eA eJ)
          · exact absurd c_43 (pr_ne (by omega) (by omega))
  refine g_iconst (v := 0) C dX0_noteLeastCounts_0 (by decide) ?_
  refine g_istore_n C [(1, _), (0, _)] dX0_noteLeastCounts_1 rfl (by decide) rfl ?_
  exact loop nl 0 τ (Nat.zero_add _) ⟨fun _ _ _ => rfl, fun q hq => absurd hq (Nat.not_lt_zero q)⟩
/-- what counts the least from a place on: m places from the end, and one less -/
def fw (A J : Nat → Int32) (nl : Nat) : Nat → Int32 × Int32
  | 0 => (0, 0)
  | m + 1 => (if J (nl - (m + 1)) + (fw A J nl m).2 < A (nl - (m + 1)) + (fw A J nl m).1 then J (nl - (m + 1)) + (fw A J nl m).2 else A (nl - (m + 1)) + (fw A J nl m).1, (fw A J nl m).1)
theorem fw_2 (A J : Nat → Int32) (nl m : Nat) : (fw A J nl (m + 1)).2 = (fw A J nl m).1 := rfl
def LI (τ : gT) (k nl r : Nat) (τ' : gT) : Prop := (∀ c, c ≠ 15 → τ' c = τ c) ∧ τ' 15 r = (fw (τ 12) (τ k) nl (nl - r)).1 ∧ τ' 15 (r + 1) = (fw (τ 12) (τ k) nl (nl - r)).2 ∧ ∀ q, r ≤ q → q ≤ nl → τ' 15 q = (fw (τ 12) (τ k) nl (nl - q)).1
theorem nI_pm (r : Nat) : nI (r + 1) - 1 + Int32.ofInt (-1) = nI r - 1 := by
  rw [nI_pred]
  cases r with
  | zero => decide
  | succ r => rw [nI_pred]; exact pk_m1 r
theorem nI_p1 (r : Nat) : nI (r + 1) - 1 + 1 = nI (r + 1) := by rw [nI_pred, nI_1]
theorem nI_p2 (r : Nat) : nI (r + 1) - 1 + 2 = nI (r + 2) := by
  rw [nI_pred, show (2 : Int32) = nI 2 from rfl, nI_add]
theorem LI_next {τ τ' : gT} {k nl r : Nat} (hk : k ≠ 15) (h : LI τ k nl (r + 1) τ') (hr : r + 1 ≤ nl) : LI τ k nl r (uT τ' 15 r (if τ' k r + τ' 15 (r + 2) < τ' 12 r + τ' 15 (r + 1) then τ' k r + τ' 15 (r + 2) else τ' 12 r + τ' 15 (r + 1))) := by
  obtain ⟨h1, h2, h3, h4⟩ := h
  have e : nl - r = (nl - (r + 1)) + 1 := by omega
  have e2 : nl - ((nl - (r + 1)) + 1) = r := by omega
  have key : (fw (τ 12) (τ k) nl (nl - r)).1 = (if τ' k r + τ' 15 (r + 2) < τ' 12 r + τ' 15 (r + 1) then τ' k r + τ' 15 (r + 2) else τ' 12 r + τ' 15 (r + 1)) := by
    rw [h1 k hk, h1 12 (by decide), h2, h3, e]
    show (if τ k (nl - ((nl - (r + 1)) + 1)) + _ < _ then _ else _) = _
    rw [e2]
  refine ⟨fun c hc => by rw [uT_ne hc, h1 c hc], ?_, ?_, fun q hq1 hq2 => ?_⟩
  · rw [uT_eq, upd_eq, key]
  · rw [uT_eq, upd_ne (by omega), h2, e, fw_2]
  · by_cases z : q = r
    · subst z
      rw [uT_eq, upd_eq, key]
    · rw [uT_eq, upd_ne z]
      exact h4 q (by omega) hq2
set_option maxRecDepth 100000 in
theorem mwX0_leastInAll_inX : ∀ w ∈ wsX00, w ∈ wsX0_leastInAll := by decide +kernel
set_option maxRecDepth 100000 in
theorem mwX0_leastInAll_f57 : Cond.fieldLink RX0 57 "TelegraphPrices" "leastFrom" "[I" ∈ wsX0_leastInAll := by decide +kernel
set_option maxRecDepth 100000 in
theorem mwX0_leastInAll_f48 : Cond.fieldLink RX0 48 "TelegraphPrices" "leastAlone" "[I" ∈ wsX0_leastInAll := by decide +kernel
set_option maxRecDepth 100000 in
theorem mwX0_leastInAll_l152 : Cond.methodLink RX0 152 Lib.Math.min.name ∈ wsX0_leastInAll := by decide +kernel
set_option maxRecDepth 100000 in
theorem mwX0_leastInAll_smin : Cond.static Lib.Math.min.name ∈ wsX0_leastInAll := by decide +kernel
set_option maxRecDepth 100000 in
theorem mwX0_leastInAll_iMath : Cond.initialized "java/lang/Math" ∈ wsX0_leastInAll := by decide +kernel
set_option maxRecDepth 100000 in
theorem mwX0_leastInAll_kmin : Cond.code Lib.Math.min.name Lib.Math.min.code 2 (some .int) ∈ wsX0_leastInAll := by decide +kernel
set_option maxRecDepth 100000 in
theorem mwX0_leastInAll_f39 : Cond.fieldLink RX0 39 "TelegraphPrices" "length" "I" ∈ wsX0_leastInAll := by decide +kernel
set_option maxHeartbeats 4000000 in
set_option maxRecDepth 100000 in
theorem c_leastInJ {l : Launch} (hl : l.stackTraces = false) (Γ : gG) (σ : gS) (τ : gT) (o : gO) (nl : Nat) (h9 : σ 9 = nI nl) (hnl : nl ≤ 16) : Ct l yX0_leastInAll wsX0_leastInAll 1 32 0 0 [.ref (Γ.2.1 100), .ref (Γ.2.1 13)] Γ σ τ o (pI (fun r σ' τ' o' => r = (fw (τ 12) (τ 13) nl (nl - 0)).1 ∧ σ' = σ ∧ o' = o ∧ (∀ c, c ≠ 15 → τ' c = τ c) ∧ ∀ q, q ≤ nl → τ' 15 q = (fw (τ 12) (τ 13) nl (nl - q)).1)) (noX) := by
  refine ct_of hl (by decide +kernel) rfl (Nat.le_of_ble_eq_true rfl) ?_
  intro E C F T hΓ hL R
  subst hΓ
  subst hL
  show G E 0 0 0 [(0, .ref ((eG E).2.1 100)), (1, .ref ((eG E).2.1 13))] [] σ τ o
  have loop : ∀ r : Nat, ∀ τ' : gT, r ≤ nl → LI τ 13 nl r τ' → G E 0 0 29 [(2, .int (nI r - 1)), (0, .ref ((eG E).2.1 100)), (1, .ref ((eG E).2.1 13))] [] σ τ' o := by
    intro r
    induction r with
    | zero =>
      intro τ' hr hN
      refine g_iload_n C dX0_leastInAll_29 rfl rfl ?_
      refine g_if_lt (tgt := 77) C dX0_leastInAll_30 (by decide) (fun c_30 => ?_) (fun c_30 => ?_)
      · refine g_aload_n C dX0_leastInAll_77 rfl rfl ?_
        refine g_getX C 15 dX0_leastInAll_78 mwX0_leastInAll_inX (by decide) mwX0_leastInAll_f57 rfl rfl ?_
        refine g_iconst (v := 0) C dX0_leastInAll_81 (by decide) ?_
        refine g_ialdN C (0) dX0_leastInAll_82 rfl rfl (show 0 < 18 by decide) (by decide) ?_
        exact g_iret C F dX0_leastInAll_83 (by decide) (by decide) ⟨_, rfl, hN.2.1, rfl, rfl, hN.1, fun q hq => hN.2.2.2 q (Nat.zero_le _) hq⟩
      · exact absurd (by decide) c_30
    | succ r ih =>
      intro τ' hr hN
      refine g_iload_n C dX0_leastInAll_29 rfl rfl ?_
      refine g_if_lt (tgt := 77) C dX0_leastInAll_30 (by decide) (fun c_30 => ?_) (fun c_30 => ?_)
      · exact absurd (by rw [nI_pred] at c_30; exact c_30) (nI_pos (by omega))
      · refine g_aload_n C dX0_leastInAll_33 rfl rfl ?_
        refine g_getX C 12 dX0_leastInAll_34 mwX0_leastInAll_inX (by decide) mwX0_leastInAll_f48 rfl rfl ?_
        refine g_iload_n C dX0_leastInAll_37 rfl rfl ?_
        refine g_ialdN C (r) dX0_leastInAll_38 rfl (nI_pred r) (show r < 16 by omega) (by decide) ?_
        refine g_aload_n C dX0_leastInAll_39 rfl rfl ?_
        refine g_getX C 15 dX0_leastInAll_40 mwX0_leastInAll_inX (by decide) mwX0_leastInAll_f57 rfl rfl ?_
        refine g_iload_n C dX0_leastInAll_43 rfl rfl ?_
        refine g_iconst (v := 1) C dX0_leastInAll_44 (by decide) ?_
        refine g_iadd C dX0_leastInAll_45 ?_
        refine g_ialdN C (r + 1) dX0_leastInAll_46 rfl (nI_p1 r) (show r + 1 < 18 by omega) (by decide) ?_
        refine g_iadd C dX0_leastInAll_47 ?_
        refine g_istore_n C [(3, _), (2, _), (0, _), (1, _)] dX0_leastInAll_48 rfl (by decide) rfl ?_
        refine g_aload_n C dX0_leastInAll_49 rfl rfl ?_
        refine g_getX C 15 dX0_leastInAll_50 mwX0_leastInAll_inX (by decide) mwX0_leastInAll_f57 rfl rfl ?_
        refine g_iload_n C dX0_leastInAll_53 rfl rfl ?_
        refine g_iload_n C dX0_leastInAll_54 rfl rfl ?_
        refine g_aload_n C dX0_leastInAll_55 rfl rfl ?_
        refine g_iload_n C dX0_leastInAll_56 rfl rfl ?_
        refine g_ialdN C (r) dX0_leastInAll_57 rfl (nI_pred r) (show r < 16 by omega) (by decide) ?_
        refine g_aload_n C dX0_leastInAll_58 rfl rfl ?_
        refine g_getX C 15 dX0_leastInAll_59 mwX0_leastInAll_inX (by decide) mwX0_leastInAll_f57 rfl rfl ?_
        refine g_iload_n C dX0_leastInAll_62 rfl rfl ?_
        refine g_iconst (v := 2) C dX0_leastInAll_63 (by decide) ?_
        refine g_iadd C dX0_leastInAll_64 ?_
        refine g_ialdN C (r + 2) dX0_leastInAll_65 rfl (nI_p2 r) (show r + 2 < 18 by omega) (by decide) ?_
        refine g_iadd C dX0_leastInAll_66 ?_
        refine g_mmin C dX0_leastInAll_67 mwX0_leastInAll_l152 mwX0_leastInAll_smin mwX0_leastInAll_iMath mwX0_leastInAll_kmin (by rw [R]; exact ⟨by decide, Nat.le_of_ble_eq_true rfl, by decide, by decide⟩) ?_
        refine g_iastN C (r) dX0_leastInAll_70 rfl (nI_pred r) (show r < 18 by omega) (by decide) rfl ?_
        refine g_iinc C 1 [(2, _), (3, _), (0, _), (1, _)] dX0_leastInAll_71 rfl (nI_pm r) (by decide) rfl ?_
        refine g_goto (tgt := 29) C dX0_leastInAll_74 (by decide) ?_
        refine g_lv [0, 2, 3] [(2, _), (0, _), (1, _)] rfl ?_
        exact ih _ (by omega) (LI_next (by decide) hN hr)
  refine g_aload_n C dX0_leastInAll_0 rfl rfl ?_
  refine g_getX C 15 dX0_leastInAll_1 mwX0_leastInAll_inX (by decide) mwX0_leastInAll_f57 rfl rfl ?_
  refine g_aload_n C dX0_leastInAll_4 rfl rfl ?_
  refine g_getX C 9 dX0_leastInAll_5 mwX0_leastInAll_inX (by decide) mwX0_leastInAll_f39 rfl rfl ?_
  refine g_iconst (v := 0) C dX0_leastInAll_8 (by decide) ?_
  refine g_iastN C (nl) dX0_leastInAll_9 rfl h9 (show nl < 18 by omega) (by decide) rfl ?_
  refine g_aload_n C dX0_leastInAll_10 rfl rfl ?_
  refine g_getX C 15 dX0_leastInAll_11 mwX0_leastInAll_inX (by decide) mwX0_leastInAll_f57 rfl rfl ?_
  refine g_aload_n C dX0_leastInAll_14 rfl rfl ?_
  refine g_getX C 9 dX0_leastInAll_15 mwX0_leastInAll_inX (by decide) mwX0_leastInAll_f39 rfl rfl ?_
  refine g_iconst (v := 1) C dX0_leastInAll_18 (by decide) ?_
  refine g_iadd C dX0_leastInAll_19 ?_
  refine g_iconst (v := 0) C dX0_leastInAll_20 (by decide) ?_
  refine g_iastN C (nl + 1) dX0_leastInAll_21 rfl (by rw [h9]; exact nI_1 nl) (show nl + 1 < 18 by omega) (by decide) rfl ?_
  refine g_aload_n C dX0_leastInAll_22 rfl rfl ?_
  refine g_getX C 9 dX0_leastInAll_23 mwX0_leastInAll_inX (by decide) mwX0_leastInAll_f39 rfl rfl ?_
  refine g_iconst (v := 1) C dX0_leastInAll_26 (by decide) ?_
  refine g_isub C dX0_leastInAll_27 ?_
  refine g_topi (show _ = nI nl - 1 by rw [h9]) ?_
  refine g_istore_n C [(2, _), (0, _), (1, _)] dX0_leastInAll_28 rfl (by decide) rfl ?_
  refine loop nl _ (Nat.le_refl _) ⟨fun c hc => by rw [uT_ne hc, uT_ne hc], ?_, ?_, fun q hq1 hq2 => ?_⟩
  · rw [Nat.sub_self, uT_eq, uT_eq, upd_ne (by omega), upd_eq]
    rfl
  · rw [Nat.sub_self, uT_eq, upd_eq]
    rfl
  · rw [show q = nl by omega, Nat.sub_self, uT_eq, uT_eq, upd_ne (by omega), upd_eq]
    rfl
set_option maxHeartbeats 4000000 in
set_option maxRecDepth 100000 in
theorem c_leastInT {l : Launch} (hl : l.stackTraces = false) (Γ : gG) (σ : gS) (τ : gT) (o : gO) (nl : Nat) (h9 : σ 9 = nI nl) (hnl : nl ≤ 16) : Ct l yX0_leastInAll wsX0_leastInAll 1 32 0 0 [.ref (Γ.2.1 100), .ref (Γ.2.1 14)] Γ σ τ o (pI (fun r σ' τ' o' => r = (fw (τ 12) (τ 14) nl (nl - 0)).1 ∧ σ' = σ ∧ o' = o ∧ (∀ c, c ≠ 15 → τ' c = τ c) ∧ ∀ q, q ≤ nl → τ' 15 q = (fw (τ 12) (τ 14) nl (nl - q)).1)) (noX) := by
  refine ct_of hl (by decide +kernel) rfl (Nat.le_of_ble_eq_true rfl) ?_
  intro E C F T hΓ hL R
  subst hΓ
  subst hL
  show G E 0 0 0 [(0, .ref ((eG E).2.1 100)), (1, .ref ((eG E).2.1 14))] [] σ τ o
  have loop : ∀ r : Nat, ∀ τ' : gT, r ≤ nl → LI τ 14 nl r τ' → G E 0 0 29 [(2, .int (nI r - 1)), (0, .ref ((eG E).2.1 100)), (1, .ref ((eG E).2.1 14))] [] σ τ' o := by
    intro r
    induction r with
    | zero =>
      intro τ' hr hN
      refine g_iload_n C dX0_leastInAll_29 rfl rfl ?_
      refine g_if_lt (tgt := 77) C dX0_leastInAll_30 (by decide) (fun c_30 => ?_) (fun c_30 => ?_)
      · refine g_aload_n C dX0_leastInAll_77 rfl rfl ?_
        refine g_getX C 15 dX0_leastInAll_78 mwX0_leastInAll_inX (by decide) mwX0_leastInAll_f57 rfl rfl ?_
        refine g_iconst (v := 0) C dX0_leastInAll_81 (by decide) ?_
        refine g_ialdN C (0) dX0_leastInAll_82 rfl rfl (show 0 < 18 by decide) (by decide) ?_
        exact g_iret C F dX0_leastInAll_83 (by decide) (by decide) ⟨_, rfl, hN.2.1, rfl, rfl, hN.1, fun q hq => hN.2.2.2 q (Nat.zero_le _) hq⟩
      · exact absurd (by decide) c_30
    | succ r ih =>
      intro τ' hr hN
      refine g_iload_n C dX0_leastInAll_29 rfl rfl ?_
      refine g_if_lt (tgt := 77) C dX0_leastInAll_30 (by decide) (fun c_30 => ?_) (fun c_30 => ?_)
      · exact absurd (by rw [nI_pred] at c_30; exact c_30) (nI_pos (by omega))
      · refine g_aload_n C dX0_leastInAll_33 rfl rfl ?_
        refine g_getX C 12 dX0_leastInAll_34 mwX0_leastInAll_inX (by decide) mwX0_leastInAll_f48 rfl rfl ?_
        refine g_iload_n C dX0_leastInAll_37 rfl rfl ?_
        refine g_ialdN C (r) dX0_leastInAll_38 rfl (nI_pred r) (show r < 16 by omega) (by decide) ?_
        refine g_aload_n C dX0_leastInAll_39 rfl rfl ?_
        refine g_getX C 15 dX0_leastInAll_40 mwX0_leastInAll_inX (by decide) mwX0_leastInAll_f57 rfl rfl ?_
        refine g_iload_n C dX0_leastInAll_43 rfl rfl ?_
        refine g_iconst (v := 1) C dX0_leastInAll_44 (by decide) ?_
        refine g_iadd C dX0_leastInAll_45 ?_
        refine g_ialdN C (r + 1) dX0_leastInAll_46 rfl (nI_p1 r) (show r + 1 < 18 by omega) (by decide) ?_
        refine g_iadd C dX0_leastInAll_47 ?_
        refine g_istore_n C [(3, _), (2, _), (0, _), (1, _)] dX0_leastInAll_48 rfl (by decide) rfl ?_
        refine g_aload_n C dX0_leastInAll_49 rfl rfl ?_
        refine g_getX C 15 dX0_leastInAll_50 mwX0_leastInAll_inX (by decide) mwX0_leastInAll_f57 rfl rfl ?_
        refine g_iload_n C dX0_leastInAll_53 rfl rfl ?_
        refine g_iload_n C dX0_leastInAll_54 rfl rfl ?_
        refine g_aload_n C dX0_leastInAll_55 rfl rfl ?_
        refine g_iload_n C dX0_leastInAll_56 rfl rfl ?_
        refine g_ialdN C (r) dX0_leastInAll_57 rfl (nI_pred r) (show r < 16 by omega) (by decide) ?_
        refine g_aload_n C dX0_leastInAll_58 rfl rfl ?_
        refine g_getX C 15 dX0_leastInAll_59 mwX0_leastInAll_inX (by decide) mwX0_leastInAll_f57 rfl rfl ?_
        refine g_iload_n C dX0_leastInAll_62 rfl rfl ?_
        refine g_iconst (v := 2) C dX0_leastInAll_63 (by decide) ?_
        refine g_iadd C dX0_leastInAll_64 ?_
        refine g_ialdN C (r + 2) dX0_leastInAll_65 rfl (nI_p2 r) (show r + 2 < 18 by omega) (by decide) ?_
        refine g_iadd C dX0_leastInAll_66 ?_
        refine g_mmin C dX0_leastInAll_67 mwX0_leastInAll_l152 mwX0_leastInAll_smin mwX0_leastInAll_iMath mwX0_leastInAll_kmin (by rw [R]; exact ⟨by decide, Nat.le_of_ble_eq_true rfl, by decide, by decide⟩) ?_
        refine g_iastN C (r) dX0_leastInAll_70 rfl (nI_pred r) (show r < 18 by omega) (by decide) rfl ?_
        refine g_iinc C 1 [(2, _), (3, _), (0, _), (1, _)] dX0_leastInAll_71 rfl (nI_pm r) (by decide) rfl ?_
        refine g_goto (tgt := 29) C dX0_leastInAll_74 (by decide) ?_
        refine g_lv [0, 2, 3] [(2, _), (0, _), (1, _)] rfl ?_
        exact ih _ (by omega) (LI_next (by decide) hN hr)
  refine g_aload_n C dX0_leastInAll_0 rfl rfl ?_
  refine g_getX C 15 dX0_leastInAll_1 mwX0_leastInAll_inX (by decide) mwX0_leastInAll_f57 rfl rfl ?_
  refine g_aload_n C dX0_leastInAll_4 rfl rfl ?_
  refine g_getX C 9 dX0_leastInAll_5 mwX0_leastInAll_inX (by decide) mwX0_leastInAll_f39 rfl rfl ?_
  refine g_iconst (v := 0) C dX0_leastInAll_8 (by decide) ?_
  refine g_iastN C (nl) dX0_leastInAll_9 rfl h9 (show nl < 18 by omega) (by decide) rfl ?_
  refine g_aload_n C dX0_leastInAll_10 rfl rfl ?_
  refine g_getX C 15 dX0_leastInAll_11 mwX0_leastInAll_inX (by decide) mwX0_leastInAll_f57 rfl rfl ?_
  refine g_aload_n C dX0_leastInAll_14 rfl rfl ?_
  refine g_getX C 9 dX0_leastInAll_15 mwX0_leastInAll_inX (by decide) mwX0_leastInAll_f39 rfl rfl ?_
  refine g_iconst (v := 1) C dX0_leastInAll_18 (by decide) ?_
  refine g_iadd C dX0_leastInAll_19 ?_
  refine g_iconst (v := 0) C dX0_leastInAll_20 (by decide) ?_
  refine g_iastN C (nl + 1) dX0_leastInAll_21 rfl (by rw [h9]; exact nI_1 nl) (show nl + 1 < 18 by omega) (by decide) rfl ?_
  refine g_aload_n C dX0_leastInAll_22 rfl rfl ?_
  refine g_getX C 9 dX0_leastInAll_23 mwX0_leastInAll_inX (by decide) mwX0_leastInAll_f39 rfl rfl ?_
  refine g_iconst (v := 1) C dX0_leastInAll_26 (by decide) ?_
  refine g_isub C dX0_leastInAll_27 ?_
  refine g_topi (show _ = nI nl - 1 by rw [h9]) ?_
  refine g_istore_n C [(2, _), (0, _), (1, _)] dX0_leastInAll_28 rfl (by decide) rfl ?_
  refine loop nl _ (Nat.le_refl _) ⟨fun c hc => by rw [uT_ne hc, uT_ne hc], ?_, ?_, fun q hq1 hq2 => ?_⟩
  · rw [Nat.sub_self, uT_eq, uT_eq, upd_ne (by omega), upd_eq]
    rfl
  · rw [Nat.sub_self, uT_eq, upd_eq]
    rfl
  · rw [show q = nl by omega, Nat.sub_self, uT_eq, uT_eq, upd_ne (by omega), upd_eq]
    rfl
set_option maxRecDepth 100000 in
theorem mwX0_noteCheapestAt_inX : ∀ w ∈ wsX00, w ∈ wsX0_noteCheapestAt := by decide +kernel
set_option maxRecDepth 100000 in
theorem mwX0_noteCheapestAt_f60 : Cond.fieldLink RX0 60 "TelegraphPrices" "cheapestWords" "[I" ∈ wsX0_noteCheapestAt := by decide +kernel
set_option maxRecDepth 100000 in
theorem mwX0_noteCheapestAt_f63 : Cond.fieldLink RX0 63 "TelegraphPrices" "cheapestJoined" "[Z" ∈ wsX0_noteCheapestAt := by decide +kernel
set_option maxHeartbeats 4000000 in
set_option maxRecDepth 100000 in
theorem c_noteAt {l : Launch} (hl : l.stackTraces = false) (Γ : gG) (σ : gS) (τ : gT) (o : gO) (p : Nat) (w x : Int32) (hp : p < 16) (hx : x = 0 ∨ x = 1) : Ct l yX0_noteCheapestAt wsX0_noteCheapestAt 1 32 0 0 [.ref (Γ.2.1 100), .int (nI p), .int w, .int x] Γ σ τ o (pE none σ (uT (uT τ 16 p w) 17 p x) o) (noX) := by
  refine ct_of hl (by decide +kernel) rfl (Nat.le_of_ble_eq_true rfl) ?_
  intro E C F T hΓ hL R
  subst hΓ
  subst hL
  show G E 0 0 0 [(0, .ref ((eG E).2.1 100)), (1, .int (nI p)), (2, .int w), (3, .int x)] [] σ τ o
  refine g_aload_n C dX0_noteCheapestAt_0 rfl rfl ?_
  refine g_getX C 16 dX0_noteCheapestAt_1 mwX0_noteCheapestAt_inX (by decide) mwX0_noteCheapestAt_f60 rfl rfl ?_
  refine g_iload_n C dX0_noteCheapestAt_4 rfl rfl ?_
  refine g_iload_n C dX0_noteCheapestAt_5 rfl rfl ?_
  refine g_iastN C (p) dX0_noteCheapestAt_6 rfl rfl hp (by decide) rfl ?_
  refine g_aload_n C dX0_noteCheapestAt_7 rfl rfl ?_
  refine g_getX C 17 dX0_noteCheapestAt_8 mwX0_noteCheapestAt_inX (by decide) mwX0_noteCheapestAt_f63 rfl rfl ?_
  refine g_iload_n C dX0_noteCheapestAt_11 rfl rfl ?_
  refine g_iload_n C dX0_noteCheapestAt_12 rfl rfl ?_
  refine g_zastN C (p) dX0_noteCheapestAt_13 rfl rfl hp (by decide) hx rfl ?_
  exact g_vret C F dX0_noteCheapestAt_14 (by decide) (by decide) ⟨rfl, rfl, rfl, rfl⟩
end
section
/-! the cheapest wording of the class -/
theorem fw_cong {A A' J J' : Nat → Int32} {nl : Nat} (hA : ∀ q, q < nl → A q = A' q) (hJ : ∀ q, q < nl → J q = J' q) : ∀ m, m ≤ nl → fw A J nl m = fw A' J' nl m := by
  intro m
  induction m with
  | zero => exact fun _ => rfl
  | succ m ih =>
    intro hm
    have e := ih (by omega)
    unfold fw
    rw [e, hA (nl - (m + 1)) (by omega), hJ (nl - (m + 1)) (by omega)]
def FX (σ : gS) (τ : gT) (nw nl m : Nat) : Int32 := (fw (LAx σ τ nw nl) (LJx σ τ nw nl) nl m).1
/-- which places are the second of a pair; what stands at a place, whether it is joined -/
def isSec (pr : Nat → Bool) : Nat → Bool
  | 0 => false
  | q + 1 => !isSec pr q && pr q
def cwd (pr : Nat → Bool) (S A B : Nat → Int32) (q : Nat) : Int32 := if isSec pr q = true then B (q - 1) else if pr q = true then A q else S q
def cjd (pr : Nat → Bool) (q : Nat) : Int32 := if isSec pr (q + 1) = true then 1 else 0
theorem cw_S {pr : Nat → Bool} {S A B : Nat → Int32} {p : Nat} (h1 : isSec pr p = false) (h2 : pr p = false) : cwd pr S A B p = S p ∧ cjd pr p = 0 ∧ isSec pr (p + 1) = false := by simp [cwd, cjd, isSec, h1, h2]
theorem cw_P {pr : Nat → Bool} {S A B : Nat → Int32} {p : Nat} (h1 : isSec pr p = false) (h2 : pr p = true) : cwd pr S A B p = A p ∧ cjd pr p = 1 ∧ cwd pr S A B (p + 1) = B p ∧ cjd pr (p + 1) = 0 ∧ isSec pr (p + 2) = false := by simp [cwd, cjd, isSec, h1, h2]
def bpx (σ : gS) (τ : gT) (nw nl p : Nat) : Int32 := (bp (σ 4) nw nl (τ 0) (τ 1) (τ 2) (τ 7) p nw).1
def Sx (σ : gS) (τ : gT) (nw nl p : Nat) : Int32 := (bw (σ 4) nl (τ 0) (τ 1) (τ 7) p nw).1
def Ax (σ : gS) (τ : gT) (nw nl p : Nat) : Int32 := bpx σ τ nw nl p / 100
def Bx (σ : gS) (τ : gT) (nw nl p : Nat) : Int32 := bpx σ τ nw nl p - bpx σ τ nw nl p / 100 * 100
def prx (σ : gS) (τ : gT) (nw nl p : Nat) : Bool := decide (¬ (bpx σ τ nw nl p = -1 ∨ LAx σ τ nw nl p + FX σ τ nw nl (nl - (p + 1)) = FX σ τ nw nl (nl - p)))
theorem bpx_s {σ : gS} {τ τ' : gT} {nw nl p : Nat} (h : XS τ τ') : bpx σ τ' nw nl p = bpx σ τ nw nl p := by
  unfold bpx
  rw [h 0 (by decide), h 1 (by decide), h 2 (by decide), h 7 (by decide)]
theorem Sx_s {σ : gS} {τ τ' : gT} {nw nl p : Nat} (h : XS τ τ') : Sx σ τ' nw nl p = Sx σ τ nw nl p := by
  unfold Sx
  rw [h 0 (by decide), h 1 (by decide), h 7 (by decide)]
def CH (σ : gS) (τ : gT) (nw nl p : Nat) (τ' : gT) : Prop := (∀ c, (c < 12 ∨ c = 14 ∨ 17 < c) → τ' c = τ c) ∧ (∀ q, q < nl → τ' 12 q = LAx σ τ nw nl q ∧ τ' 13 q = LJx σ τ nw nl q) ∧ (∀ q, q ≤ nl → τ' 15 q = FX σ τ nw nl (nl - q)) ∧ (∀ i, τ' 17 i = 0 ∨ τ' 17 i = 1) ∧
  ∀ q, q < p → τ' 16 q = cwd (prx σ τ nw nl) (Sx σ τ nw nl) (Ax σ τ nw nl) (Bx σ τ nw nl) q ∧ τ' 17 q = cjd (prx σ τ nw nl) q
theorem CH_xs {σ : gS} {τ τ' : gT} {nw nl p : Nat} (h : CH σ τ nw nl p τ') : XS τ τ' := fun c hc => h.1 c (by omega)
theorem CH_put {σ : gS} {τ τ' : gT} {nw nl p : Nat} {w x : Int32} (h : CH σ τ nw nl p τ') (hw : w = cwd (prx σ τ nw nl) (Sx σ τ nw nl) (Ax σ τ nw nl) (Bx σ τ nw nl) p) (hx : x = cjd (prx σ τ nw nl) p) : CH σ τ nw nl (p + 1) (uT (uT τ' 16 p w) 17 p x) := by
  obtain ⟨h1, h2, h3, h4, h5⟩ := h
  refine ⟨fun c hc => by rw [uT_ne (by omega), uT_ne (by omega), h1 c hc], fun q hq => by rw [uT_ne (by omega), uT_ne (by omega), uT_ne (by omega), uT_ne (by omega)]; exact h2 q hq, fun q hq => by rw [uT_ne (by omega), uT_ne (by omega)]; exact h3 q hq, fun i => ?_, fun q hq => ?_⟩
  · rw [uT_eq, uT_ne (show (17 : Nat) ≠ 16 by decide)]
    by_cases e : i = p
    · subst e
      rw [upd_eq, hx]
      unfold cjd
      split
      · exact Or.inr rfl
      · exact Or.inl rfl
    · rw [upd_ne e]
      exact h4 i
  · rw [uT_ne (show (16 : Nat) ≠ 17 by decide), uT_eq, uT_eq, uT_ne (show (17 : Nat) ≠ 16 by decide)]
    by_cases e : q = p
    · subst e
      rw [upd_eq, upd_eq]
      exact ⟨hw, hx⟩
    · rw [upd_ne e, upd_ne e]
      exact h5 q (by omega)
set_option maxRecDepth 100000 in
theorem mwX0_noteCheapestWording_inX : ∀ w ∈ wsX00, w ∈ wsX0_noteCheapestWording := by decide +kernel
set_option maxRecDepth 100000 in
theorem mwX0_noteCheapestWording_f39 : Cond.fieldLink RX0 39 "TelegraphPrices" "length" "I" ∈ wsX0_noteCheapestWording := by decide +kernel
set_option maxRecDepth 100000 in
theorem mwX0_noteCheapestWording_f48 : Cond.fieldLink RX0 48 "TelegraphPrices" "leastAlone" "[I" ∈ wsX0_noteCheapestWording := by decide +kernel
set_option maxRecDepth 100000 in
theorem mwX0_noteCheapestWording_f57 : Cond.fieldLink RX0 57 "TelegraphPrices" "leastFrom" "[I" ∈ wsX0_noteCheapestWording := by decide +kernel
set_option maxRecDepth 100000 in
theorem mwX0_noteCheapestWording_f51 : Cond.fieldLink RX0 51 "TelegraphPrices" "leastJoined" "[I" ∈ wsX0_noteCheapestWording := by decide +kernel
set_option maxHeartbeats 4000000 in
set_option maxRecDepth 100000 in
theorem c_noteWording {l : Launch} (hl : l.stackTraces = false) (Γ : gG) (σ : gS) (τ : gT) (o : gO) (nw nl lm : Nat) (I : IX σ τ nw nl lm) : Ct l yX0_noteCheapestWording wsX0_noteCheapestWording 5 160 0 0 [.ref (Γ.2.1 100)] Γ σ τ o (pV (fun σ' τ' o' => σ' = σ ∧ o' = o ∧ CH σ τ nw nl nl τ')) (noX) := by
  refine ct_of hl (by decide +kernel) rfl (Nat.le_of_ble_eq_true rfl) ?_
  intro E C F T hΓ hL R
  subst hΓ
  subst hL
  show G E 0 0 0 [(0, .ref ((eG E).2.1 100))] [] σ τ o
  have hnw := Iv_nw I
  have hnl := Iv_nl I
  have h3 : σ 3 = nI nw := Iv_h3 I
  have h9 : σ 9 = nI nl := Iv_h9 I
  have h4 : ¬ σ 4 = 0 := Iv_ne I
  have fin : ∀ τ' : gT, CH σ τ nw nl nl τ' → G E (0 + 0 + 0) (0 + 0 + 0) 15 [(1, .int (nI nl)), (0, .ref ((eG E).2.1 100))] [] σ τ' o := by
    intro τ' hN
    refine g_iload_n C dX0_noteCheapestWording_15 rfl rfl ?_
    refine g_aload_n C dX0_noteCheapestWording_16 rfl rfl ?_
    refine g_getX C 9 dX0_noteCheapestWording_17 mwX0_noteCheapestWording_inX (by decide) mwX0_noteCheapestWording_f39 rfl rfl ?_
    refine g_icmp_ge (tgt := 103) C dX0_noteCheapestWording_20 (by decide) (fun c_20 => ?_) (fun c_20 => ?_)
    · exact g_vret C F dX0_noteCheapestWording_103 (by decide) (by decide) ⟨rfl, rfl, rfl, hN⟩
    · exact absurd (by rw [h9]; exact i_rf _) c_20
  have loop : ∀ m p : Nat, ∀ τ' : gT, p ≤ nl → nl - p ≤ m → isSec (prx σ τ nw nl) p = false → CH σ τ nw nl p τ' → G E (0 + 0 + 0) (0 + 0 + 0) 15 [(1, .int (nI p)), (0, .ref ((eG E).2.1 100))] [] σ τ' o := by
    intro m
    induction m with
    | zero =>
      intro p τ' hp hm hs hN
      have e : p = nl := by omega
      subst e
      exact fin τ' hN
    | succ m ih =>
      intro p τ' hp hm hs hN
      rcases Nat.lt_or_ge p nl with hpl | hpl
      rotate_left
      · have e : p = nl := by omega
        subst e
        exact fin τ' hN
      have I1 : IX σ τ' nw nl lm := IX_cong I (CH_xs hN) hN.2.2.2.1
      refine g_iload_n C dX0_noteCheapestWording_15 rfl rfl ?_
      refine g_aload_n C dX0_noteCheapestWording_16 rfl rfl ?_
      refine g_getX C 9 dX0_noteCheapestWording_17 mwX0_noteCheapestWording_inX (by decide) mwX0_noteCheapestWording_f39 rfl rfl ?_
      refine g_icmp_ge (tgt := 103) C dX0_noteCheapestWording_20 (by decide) (fun c_20 => ?_) (fun c_20 => ?_)
      · exact absurd (by rw [h9] at c_20; exact c_20) (nI_ge (by omega) (by omega))
      · refine g_aload_n C dX0_noteCheapestWording_23 rfl rfl ?_
        refine g_iload_n C dX0_noteCheapestWording_24 rfl rfl ?_
        refine g_callVEi (Cl := RX0) (T := TX0) (N := 18) (ci := 0) (q0 := 0) (na := 1) C dX0_noteCheapestWording_25 (c_bestPairAt hl (eG E) σ τ' o nw nl lm p I1 hpl) gX0_noteCheapestWording_X0_bestPairAt rfl rfl (by decide +kernel) rfl rfl rfl (Nat.le_of_ble_eq_true rfl) (by rw [R]; exact ⟨by decide, by decide⟩) (by rw [R]; exact ⟨by decide, by decide⟩) ?_
        refine g_topi (show _ = bpx σ τ nw nl p from bpx_s (CH_xs hN)) ?_
        refine g_istore_n C [(2, _), (1, _), (0, _)] dX0_noteCheapestWording_28 rfl (by decide) rfl ?_
        refine g_iload_n C dX0_noteCheapestWording_29 rfl rfl ?_
        refine g_iconst (v := (-1)) C dX0_noteCheapestWording_30 (by decide) ?_
        refine g_icmp_eq (tgt := 58) C dX0_noteCheapestWording_31 (by decide) (fun c_31 => ?_) (fun c_31 => ?_)
        · have hpr : prx σ τ nw nl p = false := decide_eq_false (fun z => z (Or.inl c_31))
          refine g_aload_n C dX0_noteCheapestWording_58 rfl rfl ?_
          refine g_iload_n C dX0_noteCheapestWording_59 rfl rfl ?_
          refine g_aload_n C dX0_noteCheapestWording_60 rfl rfl ?_
          refine g_iload_n C dX0_noteCheapestWording_61 rfl rfl ?_
          refine g_callVEi (Cl := RX0) (T := TX0) (N := 18) (ci := 0) (q0 := 0) (na := 1) C dX0_noteCheapestWording_62 (c_bestWordAt hl (eG E) σ τ' o nw nl lm p I1 hpl) gX0_noteCheapestWording_X0_bestWordAt rfl rfl (by decide +kernel) rfl rfl rfl (Nat.le_of_ble_eq_true rfl) (by rw [R]; exact ⟨by decide, by decide⟩) (by rw [R]; exact ⟨by decide, by decide⟩) ?_
          refine g_topi (show _ = Sx σ τ nw nl p from Sx_s (CH_xs hN)) ?_
          refine g_iconst (v := 0) C dX0_noteCheapestWording_65 (by decide) ?_
          refine g_callVEv (Cl := RX0) (T := TX0) (N := 18) (ci := 0) (q0 := 0) (na := 3) C dX0_noteCheapestWording_66 (c_noteAt hl (eG E) σ τ' o p (Sx σ τ nw nl p) 0 (by omega) (Or.inl rfl)) gX0_noteCheapestWording_X0_noteCheapestAt rfl rfl (by decide +kernel) rfl rfl rfl (Nat.le_of_ble_eq_true rfl) (by rw [R]; exact ⟨by decide, by decide⟩) (by rw [R]; exact ⟨by decide, by decide⟩) ?_
          refine g_iinc C 1 [(1, _), (2, _), (0, _)] dX0_noteCheapestWording_69 rfl (nI_i1 p) (by decide) rfl ?_
          refine g_goto (tgt := 100) C dX0_noteCheapestWording_72 (by decide) ?_
          refine g_goto (tgt := 15) C dX0_noteCheapestWording_100 (by decide) ?_
          refine g_lv [0, 2] [(1, _), (0, _)] rfl ?_
          obtain ⟨g1, g2, g3⟩ := cw_S (S := Sx σ τ nw nl) (A := Ax σ τ nw nl) (B := Bx σ τ nw nl) hs hpr
          exact ih (p + 1) _ (by omega) (by omega) g3 (CH_put hN g1.symm g2.symm)
        · refine g_aload_n C dX0_noteCheapestWording_34 rfl rfl ?_
          refine g_getX C 12 dX0_noteCheapestWording_35 mwX0_noteCheapestWording_inX (by decide) mwX0_noteCheapestWording_f48 rfl rfl ?_
          refine g_iload_n C dX0_noteCheapestWording_38 rfl rfl ?_
          refine g_ialdN C (p) dX0_noteCheapestWording_39 rfl rfl (show p < 16 by omega) (by decide) ?_
          refine g_aload_n C dX0_noteCheapestWording_40 rfl rfl ?_
          refine g_getX C 15 dX0_noteCheapestWording_41 mwX0_noteCheapestWording_inX (by decide) mwX0_noteCheapestWording_f57 rfl rfl ?_
          refine g_iload_n C dX0_noteCheapestWording_44 rfl rfl ?_
          refine g_iconst (v := 1) C dX0_noteCheapestWording_45 (by decide) ?_
          refine g_iadd C dX0_noteCheapestWording_46 ?_
          refine g_ialdN C (p + 1) dX0_noteCheapestWording_47 rfl (nI_1 p) (show p + 1 < 18 by omega) (by decide) ?_
          refine g_iadd C dX0_noteCheapestWording_48 ?_
          refine g_aload_n C dX0_noteCheapestWording_49 rfl rfl ?_
          refine g_getX C 15 dX0_noteCheapestWording_50 mwX0_noteCheapestWording_inX (by decide) mwX0_noteCheapestWording_f57 rfl rfl ?_
          refine g_iload_n C dX0_noteCheapestWording_53 rfl rfl ?_
          refine g_ialdN C (p) dX0_noteCheapestWording_54 rfl rfl (show p < 18 by omega) (by decide) ?_
          rw [(hN.2.1 p hpl).1, hN.2.2.1 (p + 1) (by omega), hN.2.2.1 p hp]
          refine g_icmp_ne (tgt := 75) C dX0_noteCheapestWording_55 (by decide) (fun c_55 => ?_) (fun c_55 => ?_)
          · have hpr : prx σ τ nw nl p = true := decide_eq_true (fun z => z.elim c_31 c_55)
            obtain ⟨g1, g2, g3, g4, g5⟩ := cw_P (S := Sx σ τ nw nl) (A := Ax σ τ nw nl) (B := Bx σ τ nw nl) hs hpr
            have hp1 : p + 1 < nl := by
              rcases bp_fin (p := p) (J := τ 2) I with ⟨-, e⟩ | ⟨a, b, -, -, hq, -⟩
              · exact absurd (by unfold bpx; rw [e]) c_31
              · have z := hq.2.1
                unfold mh at z
                by_cases y : p + 1 < nl
                · exact y
                · rw [if_neg y] at z; exact absurd rfl z
            refine g_aload_n C dX0_noteCheapestWording_75 rfl rfl ?_
            refine g_iload_n C dX0_noteCheapestWording_76 rfl rfl ?_
            refine g_iload_n C dX0_noteCheapestWording_77 rfl rfl ?_
            refine g_bipush (v := 100) C dX0_noteCheapestWording_78 (by decide) ?_
            refine g_idiv C dX0_noteCheapestWording_80 (by decide) ?_
            refine g_iconst (v := 1) C dX0_noteCheapestWording_81 (by decide) ?_
            refine g_callVEv (Cl := RX0) (T := TX0) (N := 18) (ci := 0) (q0 := 0) (na := 3) C dX0_noteCheapestWording_82 (c_noteAt hl (eG E) σ τ' o p (Ax σ τ nw nl p) 1 (by omega) (Or.inr rfl)) gX0_noteCheapestWording_X0_noteCheapestAt rfl rfl (by decide +kernel) rfl rfl rfl (Nat.le_of_ble_eq_true rfl) (by rw [R]; exact ⟨by decide, by decide⟩) (by rw [R]; exact ⟨by decide, by decide⟩) ?_
            refine g_aload_n C dX0_noteCheapestWording_85 rfl rfl ?_
            refine g_iload_n C dX0_noteCheapestWording_86 rfl rfl ?_
            refine g_iconst (v := 1) C dX0_noteCheapestWording_87 (by decide) ?_
            refine g_iadd C dX0_noteCheapestWording_88 ?_
            refine g_topi (nI_1 p) ?_
            refine g_iload_n C dX0_noteCheapestWording_89 rfl rfl ?_
            refine g_bipush (v := 100) C dX0_noteCheapestWording_90 (by decide) ?_
            refine g_irem C dX0_noteCheapestWording_92 (by decide) ?_
            refine g_iconst (v := 0) C dX0_noteCheapestWording_93 (by decide) ?_
            refine g_callVEv (Cl := RX0) (T := TX0) (N := 18) (ci := 0) (q0 := 0) (na := 3) C dX0_noteCheapestWording_94 (c_noteAt hl (eG E) σ (uT (uT τ' 16 p (Ax σ τ nw nl p)) 17 p 1) o (p + 1) (Bx σ τ nw nl p) 0 (by omega) (Or.inl rfl)) gX0_noteCheapestWording_X0_noteCheapestAt rfl rfl (by decide +kernel) rfl rfl rfl (Nat.le_of_ble_eq_true rfl) (by rw [R]; exact ⟨by decide, by decide⟩) (by rw [R]; exact ⟨by decide, by decide⟩) ?_
            refine g_iinc C 1 [(1, _), (2, _), (0, _)] dX0_noteCheapestWording_97 rfl (nI_i2 p) (by decide) rfl ?_
            refine g_goto (tgt := 15) C dX0_noteCheapestWording_100 (by decide) ?_
            refine g_lv [0, 2] [(1, _), (0, _)] rfl ?_
            exact ih (p + 2) _ (by omega) (by omega) g5 (CH_put (CH_put hN g1.symm g2.symm) g3.symm g4.symm)
          · have hpr : prx σ τ nw nl p = false := decide_eq_false (fun z => z (Or.inr c_55))
            refine g_aload_n C dX0_noteCheapestWording_58 rfl rfl ?_
            refine g_iload_n C dX0_noteCheapestWording_59 rfl rfl ?_
            refine g_aload_n C dX0_noteCheapestWording_60 rfl rfl ?_
            refine g_iload_n C dX0_noteCheapestWording_61 rfl rfl ?_
            refine g_callVEi (Cl := RX0) (T := TX0) (N := 18) (ci := 0) (q0 := 0) (na := 1) C dX0_noteCheapestWording_62 (c_bestWordAt hl (eG E) σ τ' o nw nl lm p I1 hpl) gX0_noteCheapestWording_X0_bestWordAt rfl rfl (by decide +kernel) rfl rfl rfl (Nat.le_of_ble_eq_true rfl) (by rw [R]; exact ⟨by decide, by decide⟩) (by rw [R]; exact ⟨by decide, by decide⟩) ?_
            refine g_topi (show _ = Sx σ τ nw nl p from Sx_s (CH_xs hN)) ?_
            refine g_iconst (v := 0) C dX0_noteCheapestWording_65 (by decide) ?_
            refine g_callVEv (Cl := RX0) (T := TX0) (N := 18) (ci := 0) (q0 := 0) (na := 3) C dX0_noteCheapestWording_66 (c_noteAt hl (eG E) σ τ' o p (Sx σ τ nw nl p) 0 (by omega) (Or.inl rfl)) gX0_noteCheapestWording_X0_noteCheapestAt rfl rfl (by decide +kernel) rfl rfl rfl (Nat.le_of_ble_eq_true rfl) (by rw [R]; exact ⟨by decide, by decide⟩) (by rw [R]; exact ⟨by decide, by decide⟩) ?_
            refine g_iinc C 1 [(1, _), (2, _), (0, _)] dX0_noteCheapestWording_69 rfl (nI_i1 p) (by decide) rfl ?_
            refine g_goto (tgt := 100) C dX0_noteCheapestWording_72 (by decide) ?_
            refine g_goto (tgt := 15) C dX0_noteCheapestWording_100 (by decide) ?_
            refine g_lv [0, 2] [(1, _), (0, _)] rfl ?_
            obtain ⟨g1, g2, g3⟩ := cw_S (S := Sx σ τ nw nl) (A := Ax σ τ nw nl) (B := Bx σ τ nw nl) hs hpr
            exact ih (p + 1) _ (by omega) (by omega) g3 (CH_put hN g1.symm g2.symm)
  refine g_aload_n C dX0_noteCheapestWording_0 rfl rfl ?_
  refine g_callVv (Cl := RX0) (T := TX0) (N := 18) (ci := 0) (q0 := 0) (na := 0) C dX0_noteCheapestWording_1 (c_noteLeast hl (eG E) σ τ o nw nl lm I) gX0_noteCheapestWording_X0_noteLeastCounts rfl rfl (by decide +kernel) rfl rfl rfl (Nat.le_of_ble_eq_true rfl) (by rw [R]; exact ⟨by decide, by decide⟩) (by rw [R]; exact ⟨by decide, by decide⟩) noX_kx (fun σ1 τ1 o1 hN1 => ?_)
  obtain ⟨e1, e2, hN⟩ := hN1
  rw [e1, e2]
  refine g_aload_n C dX0_noteCheapestWording_4 rfl rfl ?_
  refine g_aload_n C dX0_noteCheapestWording_5 rfl rfl ?_
  refine g_getX C 13 dX0_noteCheapestWording_6 mwX0_noteCheapestWording_inX (by decide) mwX0_noteCheapestWording_f51 rfl rfl ?_
  refine g_callVi (Cl := RX0) (T := TX0) (N := 18) (ci := 0) (q0 := 0) (na := 1) C dX0_noteCheapestWording_9 (c_leastInJ hl (eG E) σ τ1 o nl h9 hnl) gX0_noteCheapestWording_X0_leastInAll rfl rfl (by decide +kernel) rfl rfl rfl (Nat.le_of_ble_eq_true rfl) (by rw [R]; exact ⟨by decide, by decide⟩) (by rw [R]; exact ⟨by decide, by decide⟩) noX_kx (fun r2 σ2 τ2 o2 hN2 => ?_)
  obtain ⟨-, e3, e4, e5, e6⟩ := hN2
  rw [e3, e4]
  refine g_pop C dX0_noteCheapestWording_12 rfl ?_
  refine g_iconst (v := 0) C dX0_noteCheapestWording_13 (by decide) ?_
  refine g_istore_n C [(1, _), (0, _)] dX0_noteCheapestWording_14 rfl (by decide) rfl ?_
  refine loop nl 0 τ2 (Nat.zero_le _) (by omega) rfl ⟨fun c hc => by rw [e5 c (by omega), hN.1 c (by omega) (by omega)], fun q hq => by rw [e5 12 (by decide), e5 13 (by decide)]; exact hN.2 q hq, fun q hq => ?_, fun i => by rw [e5 17 (by decide), hN.1 17 (by decide) (by decide)]; exact Iv_cj I i, fun q hq => absurd hq (Nat.not_lt_zero q)⟩
  rw [e6 q hq, fw_cong (fun q hq => (hN.2 q hq).1) (fun q hq => (hN.2 q hq).2) (nl - q) (by omega)]
  rfl
set_option maxRecDepth 100000 in
theorem mwX0_cheapestCount_inX : ∀ w ∈ wsX00, w ∈ wsX0_cheapestCount := by decide +kernel
set_option maxRecDepth 100000 in
theorem mwX0_cheapestCount_f51 : Cond.fieldLink RX0 51 "TelegraphPrices" "leastJoined" "[I" ∈ wsX0_cheapestCount := by decide +kernel
set_option maxHeartbeats 4000000 in
set_option maxRecDepth 100000 in
theorem c_cheapestCount {l : Launch} (hl : l.stackTraces = false) (Γ : gG) (σ : gS) (τ : gT) (o : gO) (nw nl lm : Nat) (I : IX σ τ nw nl lm) : Ct l yX0_cheapestCount wsX0_cheapestCount 5 160 0 0 [.ref (Γ.2.1 100)] Γ σ τ o (pI (fun r σ' τ' o' => r = al nl (σ 5) (FX σ τ nw nl nl) ∧ σ' = σ ∧ o' = o ∧ (∀ c, c ≠ 12 → c ≠ 13 → c ≠ 15 → τ' c = τ c) ∧ ∀ q, q < nl → τ' 12 q = LAx σ τ nw nl q ∧ τ' 13 q = LJx σ τ nw nl q)) (noX) := by
  refine ct_of hl (by decide +kernel) rfl (Nat.le_of_ble_eq_true rfl) ?_
  intro E C F T hΓ hL R
  subst hΓ
  subst hL
  show G E 0 0 0 [(0, .ref ((eG E).2.1 100))] [] σ τ o
  have hnw := Iv_nw I
  have hnl := Iv_nl I
  have h3 : σ 3 = nI nw := Iv_h3 I
  have h9 : σ 9 = nI nl := Iv_h9 I
  have h4 : ¬ σ 4 = 0 := Iv_ne I
  refine g_aload_n C dX0_cheapestCount_0 rfl rfl ?_
  refine g_callVv (Cl := RX0) (T := TX0) (N := 18) (ci := 0) (q0 := 0) (na := 0) C dX0_cheapestCount_1 (c_noteLeast hl (eG E) σ τ o nw nl lm I) gX0_cheapestCount_X0_noteLeastCounts rfl rfl (by decide +kernel) rfl rfl rfl (Nat.le_of_ble_eq_true rfl) (by rw [R]; exact ⟨by decide, by decide⟩) (by rw [R]; exact ⟨by decide, by decide⟩) noX_kx (fun σ1 τ1 o1 hN1 => ?_)
  obtain ⟨e1, e2, hN⟩ := hN1
  rw [e1, e2]
  refine g_aload_n C dX0_cheapestCount_4 rfl rfl ?_
  refine g_aload_n C dX0_cheapestCount_5 rfl rfl ?_
  refine g_aload_n C dX0_cheapestCount_6 rfl rfl ?_
  refine g_getX C 13 dX0_cheapestCount_7 mwX0_cheapestCount_inX (by decide) mwX0_cheapestCount_f51 rfl rfl ?_
  refine g_callVi (Cl := RX0) (T := TX0) (N := 18) (ci := 0) (q0 := 0) (na := 1) C dX0_cheapestCount_10 (c_leastInJ hl (eG E) σ τ1 o nl h9 hnl) gX0_cheapestCount_X0_leastInAll rfl rfl (by decide +kernel) rfl rfl rfl (Nat.le_of_ble_eq_true rfl) (by rw [R]; exact ⟨by decide, by decide⟩) (by rw [R]; exact ⟨by decide, by decide⟩) noX_kx (fun r2 σ2 τ2 o2 hN2 => ?_)
  obtain ⟨e7, e3, e4, e5, e6⟩ := hN2
  rw [e3, e4]
  refine g_topi (y := FX σ τ nw nl nl) (by rw [e7, fw_cong (fun q hq => (hN.2 q hq).1) (fun q hq => (hN.2 q hq).2) (nl - 0) (by omega)]; rfl) ?_
  refine g_callVEi (Cl := RX0) (T := TX0) (N := 18) (ci := 0) (q0 := 0) (na := 1) C dX0_cheapestCount_13 (c_alc hl (eG E) σ τ2 o nl _ h9 hnl) gX0_cheapestCount_X0_atLeastTheLeastCount rfl rfl (by decide +kernel) rfl rfl rfl (Nat.le_of_ble_eq_true rfl) (by rw [R]; exact ⟨by decide, by decide⟩) (by rw [R]; exact ⟨by decide, by decide⟩) ?_
  exact g_iret C F dX0_cheapestCount_16 (by decide) (by decide) ⟨_, rfl, rfl, rfl, rfl, fun c h1 h2 h3 => by rw [e5 c h3, hN.1 c h1 h2], fun q hq => by rw [e5 12 (by decide), e5 13 (by decide)]; exact hN.2 q hq⟩
/-- the row with a join more: does the pair fit at the place -/
def ft (nl : Nat) (S Tg : Nat → Int32) (a b p : Nat) : Prop := mh nl S Tg p (nI a) ≠ 0 ∧ mh nl S Tg (p + 1) (nI b) ≠ 0
def mn (x y : Int32) : Int32 := if x < y then x else y
noncomputable def LTx (σ : gS) (τ : gT) (nw nl a b p : Nat) : Int32 := haveI := Classical.propDecidable; if ft nl (τ 1) (τ 7) a b p then mn (cn (σ 4) (τ 0 a + τ 0 b)) (LJx σ τ nw nl p) else LJx σ τ nw nl p
theorem LTx_y {σ : gS} {τ : gT} {nw nl a b p : Nat} (h : ft nl (τ 1) (τ 7) a b p) : LTx σ τ nw nl a b p = (if cn (σ 4) (τ 0 a + τ 0 b) < LJx σ τ nw nl p then cn (σ 4) (τ 0 a + τ 0 b) else LJx σ τ nw nl p) := by
  unfold LTx
  rw [if_pos h]
  rfl
theorem LTx_n {σ : gS} {τ : gT} {nw nl a b p : Nat} (h : ¬ ft nl (τ 1) (τ 7) a b p) : LTx σ τ nw nl a b p = LJx σ τ nw nl p := by
  unfold LTx
  rw [if_neg h]
noncomputable def FT (σ : gS) (τ : gT) (nw nl a b : Nat) : Int32 := (fw (LAx σ τ nw nl) (LTx σ τ nw nl a b) nl nl).1
/-- the search's rows 12, 13 are noted; 14 up to p -/
def TR (σ : gS) (τ : gT) (nw nl a b p : Nat) (τ' : gT) : Prop := (∀ c, c ≠ 12 → c ≠ 13 → c ≠ 14 → c ≠ 15 → τ' c = τ c) ∧ (∀ q, q < nl → τ' 12 q = LAx σ τ nw nl q ∧ τ' 13 q = LJx σ τ nw nl q) ∧ ∀ q, q < p → τ' 14 q = LTx σ τ nw nl a b q
theorem TR_put {σ : gS} {τ τ' : gT} {nw nl a b p : Nat} {x : Int32} (h : TR σ τ nw nl a b p τ') (hx : x = LTx σ τ nw nl a b p) : TR σ τ nw nl a b (p + 1) (uT τ' 14 p x) := by
  obtain ⟨h1, h2, h3⟩ := h
  refine ⟨fun c c1 c2 c3 c4 => by rw [uT_ne c3, h1 c c1 c2 c3 c4], fun q hq => by rw [uT_ne (by decide), uT_ne (by decide)]; exact h2 q hq, fun q hq => ?_⟩
  rw [uT_eq]
  by_cases e : q = p
  · subst e
    rw [upd_eq, hx]
  · rw [upd_ne e]
    exact h3 q (by omega)
theorem TR_xs {σ : gS} {τ τ' : gT} {nw nl a b p : Nat} (h : TR σ τ nw nl a b p τ') : XS τ τ' := fun c hc => h.1 c (by omega) (by omega) (by omega) (by omega)
end
section
/-! bestJoin, count and what stands on it -/
/-- the pair whose join would count the least: first word a, behind b second words; J says which may be joined already, c what it would count -/
def bj2 (J : Nat → Int32) (c : Nat → Nat → Int32) (a : Nat) (s : Int32 × Int32) : Nat → Int32 × Int32
  | 0 => s
  | b + 1 => if hb (J a) (nI b) = 0 ∧ c a b < (bj2 J c a s b).2 then (nI a * 100 + nI b, c a b) else bj2 J c a s b
theorem bj2_no {J : Nat → Int32} {c : Nat → Nat → Int32} {a b : Nat} {s : Int32 × Int32} (h : ¬ (hb (J a) (nI b) = 0 ∧ c a b < (bj2 J c a s b).2)) : bj2 J c a s (b + 1) = bj2 J c a s b := by
  show (if _ then _ else _) = _
  rw [if_neg h]
theorem bj2_yes {J : Nat → Int32} {c : Nat → Nat → Int32} {a b : Nat} {s : Int32 × Int32} (h : hb (J a) (nI b) = 0 ∧ c a b < (bj2 J c a s b).2) : bj2 J c a s (b + 1) = (nI a * 100 + nI b, c a b) := by
  show (if _ then _ else _) = _
  rw [if_pos h]
def bj (nw : Nat) (J : Nat → Int32) (c : Nat → Nat → Int32) (s0 : Int32 × Int32) : Nat → Int32 × Int32
  | 0 => s0
  | a + 1 => bj2 J c a (bj nw J c s0 a) nw
theorem bj2_cong {J J' : Nat → Int32} {c c' : Nat → Nat → Int32} {a nw : Nat} {s : Int32 × Int32} (hJ : J a = J' a) (hc : ∀ b, b < nw → hb (J a) (nI b) = 0 → c a b = c' a b) : ∀ b, b ≤ nw → bj2 J c a s b = bj2 J' c' a s b := by
  intro b
  induction b with
  | zero => exact fun _ => rfl
  | succ b ih =>
    intro hb9
    have e := ih (by omega)
    by_cases h : hb (J a) (nI b) = 0 ∧ c a b < (bj2 J c a s b).2
    · rw [bj2_yes h, bj2_yes (by rw [← e, ← hJ, ← hc b (by omega) h.1]; exact h), hc b (by omega) h.1]
    · rw [bj2_no h, bj2_no (fun z => h (by
        rw [← e, ← hJ] at z
        exact ⟨z.1, by rw [hc b (by omega) z.1]; exact z.2⟩)), e]
theorem bj_cong {J J' : Nat → Int32} {c c' : Nat → Nat → Int32} {nw : Nat} {s : Int32 × Int32} (hJ : ∀ a, a < nw → J a = J' a) (hc : ∀ a b, a < nw → b < nw → hb (J a) (nI b) = 0 → c a b = c' a b) : ∀ a, a ≤ nw → bj nw J c s a = bj nw J' c' s a := by
  intro a
  induction a with
  | zero => exact fun _ => rfl
  | succ a ih =>
    intro ha
    show bj2 J c a (bj nw J c s a) nw = bj2 J' c' a (bj nw J' c' s a) nw
    rw [ih (by omega)]
    exact bj2_cong (hJ a (by omega)) (fun b hb9 => hc a b (by omega) hb9) nw (Nat.le_refl _)
/-- what would count so much with the join -/
noncomputable def CJ (σ : gS) (τ : gT) (nw nl a b : Nat) : Int32 := al nl (σ 5) (FT σ τ nw nl a b)
def CC0 (σ : gS) (τ : gT) (nw nl : Nat) : Int32 := al nl (σ 5) (FX σ τ nw nl nl)
def H0 (σ : gS) (τ : gT) (nw nl : Nat) (τ0 : gT) : Prop := (∀ c, c ≠ 12 → c ≠ 13 → c ≠ 14 → c ≠ 15 → τ0 c = τ c) ∧ ∀ q, q < nl → τ0 12 q = LAx σ τ nw nl q ∧ τ0 13 q = LJx σ τ nw nl q
/-- the telegram's count from place p on, s before it -/
def ct (lm : Int32) (nl : Nat) (L Tg Jd : Nat → Int32) : Nat → Nat → Int32 → Int32
  | 0, _, s => s
  | f + 1, p, s => if p < nl then (if Jd p ≠ 0 then ct lm nl L Tg Jd f (p + 2) (s + cn lm (L (Tg p).toNatClampNeg + L (Tg (p + 1)).toNatClampNeg)) else ct lm nl L Tg Jd f (p + 1) (s + cn lm (L (Tg p).toNatClampNeg))) else s
theorem ct_e {lm : Int32} {nl f : Nat} {L Tg Jd : Nat → Int32} {s : Int32} : ct lm nl L Tg Jd f nl s = s := by
  cases f with
  | zero => rfl
  | succ f =>
    show (if _ then _ else _) = _
    rw [if_neg (Nat.lt_irrefl _)]
theorem ct_2 {lm : Int32} {nl f p : Nat} {L Tg Jd : Nat → Int32} {s : Int32} (h : p < nl) (h2 : Jd p ≠ 0) : ct lm nl L Tg Jd (f + 1) p s = ct lm nl L Tg Jd f (p + 2) (s + cn lm (L (Tg p).toNatClampNeg + L (Tg (p + 1)).toNatClampNeg)) := by
  show (if _ then _ else _) = _
  rw [if_pos h, if_pos h2]
theorem ct_1 {lm : Int32} {nl f p : Nat} {L Tg Jd : Nat → Int32} {s : Int32} (h : p < nl) (h2 : Jd p = 0) : ct lm nl L Tg Jd (f + 1) p s = ct lm nl L Tg Jd f (p + 1) (s + cn lm (L (Tg p).toNatClampNeg)) := by
  show (if _ then _ else _) = _
  rw [if_pos h, if_neg (fun z => z h2)]
def CTx (σ : gS) (τ : gT) (nl : Nat) : Int32 := al nl (σ 5) (ct (σ 4) nl (τ 0) (τ 7) (τ 8) nl 0 0)
/-- a joined place isn't the last one -/
theorem Iv_jl {nw nl lm : Nat} {a3 a9 a4 : Int32} {L S Tg Jd Cj : Nat → Int32} (I : Iv nw nl lm a3 a9 a4 L S Tg Jd Cj) {p : Nat} (hp : p < nl) (h : Jd p ≠ 0) : p + 1 < nl := by
  rcases Nat.lt_or_ge (p + 1) nl with q | q
  · exact q
  · exact absurd (by rw [show p = nl - 1 by omega]; exact Iv_last I (by omega)) h
set_option maxRecDepth 100000 in
theorem mwX0_count_inX : ∀ w ∈ wsX00, w ∈ wsX0_count := by decide +kernel
set_option maxRecDepth 100000 in
theorem mwX0_count_f39 : Cond.fieldLink RX0 39 "TelegraphPrices" "length" "I" ∈ wsX0_count := by decide +kernel
set_option maxRecDepth 100000 in
theorem mwX0_count_f35 : Cond.fieldLink RX0 35 "TelegraphPrices" "joined" "[Z" ∈ wsX0_count := by decide +kernel
set_option maxRecDepth 100000 in
theorem mwX0_count_f9 : Cond.fieldLink RX0 9 "TelegraphPrices" "letters" "[I" ∈ wsX0_count := by decide +kernel
set_option maxRecDepth 100000 in
theorem mwX0_count_f32 : Cond.fieldLink RX0 32 "TelegraphPrices" "telegram" "[I" ∈ wsX0_count := by decide +kernel
set_option maxHeartbeats 4000000 in
set_option maxRecDepth 100000 in
theorem c_count {l : Launch} (hl : l.stackTraces = false) (Γ : gG) (σ : gS) (τ : gT) (o : gO) (nw nl lm : Nat) (I : IX σ τ nw nl lm) : Ct l yX0_count wsX0_count 3 96 0 0 [.ref (Γ.2.1 100)] Γ σ τ o (pE (some (.int (CTx σ τ nl))) σ τ o) (noX) := by
  refine ct_of hl (by decide +kernel) rfl (Nat.le_of_ble_eq_true rfl) ?_
  intro E C F T hΓ hL R
  subst hΓ
  subst hL
  show G E 0 0 0 [(0, .ref ((eG E).2.1 100))] [] σ τ o
  have hnw := Iv_nw I
  have hnl := Iv_nl I
  have h3 : σ 3 = nI nw := Iv_h3 I
  have h9 : σ 9 = nI nl := Iv_h9 I
  have h4 : ¬ σ 4 = 0 := Iv_ne I
  have fin : ∀ f : Nat, ∀ s : Int32, ct (σ 4) nl (τ 0) (τ 7) (τ 8) nl 0 0 = ct (σ 4) nl (τ 0) (τ 7) (τ 8) f nl s → G E 0 0 4 [(2, .int (nI nl)), (1, .int s), (0, .ref ((eG E).2.1 100))] [] σ τ o := by
    intro f s e
    rw [ct_e] at e
    refine g_iload_n C dX0_count_4 rfl rfl ?_
    refine g_aload_n C dX0_count_5 rfl rfl ?_
    refine g_getX C 9 dX0_count_6 mwX0_count_inX (by decide) mwX0_count_f39 rfl rfl ?_
    refine g_icmp_ge (tgt := 82) C dX0_count_9 (by decide) (fun c_9 => ?_) (fun c_9 => ?_)
    · refine g_aload_n C dX0_count_82 rfl rfl ?_
      refine g_iload_n C dX0_count_83 rfl rfl ?_
      refine g_callVEi (Cl := RX0) (T := TX0) (N := 18) (ci := 0) (q0 := 0) (na := 1) C dX0_count_84 (c_alc hl (eG E) σ τ o nl _ h9 hnl) gX0_count_X0_atLeastTheLeastCount rfl rfl (by decide +kernel) rfl rfl rfl (Nat.le_of_ble_eq_true rfl) (by rw [R]; exact ⟨by decide, by decide⟩) (by rw [R]; exact ⟨by decide, by decide⟩) ?_
      exact g_iret C F dX0_count_87 (by decide) (by decide) ⟨by rw [← e]; rfl, rfl, rfl, rfl⟩
    · exact absurd (by rw [h9]; exact i_rf _) c_9
  have loop : ∀ f p : Nat, ∀ s : Int32, p ≤ nl → nl - p ≤ f → ct (σ 4) nl (τ 0) (τ 7) (τ 8) nl 0 0 = ct (σ 4) nl (τ 0) (τ 7) (τ 8) f p s → G E 0 0 4 [(2, .int (nI p)), (1, .int s), (0, .ref ((eG E).2.1 100))] [] σ τ o := by
    intro f
    induction f with
    | zero =>
      intro p s hp hf e
      have e1 : p = nl := by omega
      subst e1
      exact fin 0 s e
    | succ f ih =>
      intro p s hp hf e
      rcases Nat.lt_or_ge p nl with hpl | hpl
      rotate_left
      · have e1 : p = nl := by omega
        subst e1
        exact fin (f + 1) s e
      refine g_iload_n C dX0_count_4 rfl rfl ?_
      refine g_aload_n C dX0_count_5 rfl rfl ?_
      refine g_getX C 9 dX0_count_6 mwX0_count_inX (by decide) mwX0_count_f39 rfl rfl ?_
      refine g_icmp_ge (tgt := 82) C dX0_count_9 (by decide) (fun c_9 => ?_) (fun c_9 => ?_)
      · exact absurd (by rw [h9] at c_9; exact c_9) (nI_ge (by omega) (by omega))
      · refine g_aload_n C dX0_count_12 rfl rfl ?_
        refine g_getX C 8 dX0_count_13 mwX0_count_inX (by decide) mwX0_count_f35 rfl rfl ?_
        refine g_iload_n C dX0_count_16 rfl rfl ?_
        refine g_zaldN C (p) dX0_count_17 rfl rfl (show p < 16 by omega) (by decide) ?_
        refine g_if_eq (tgt := 58) C dX0_count_18 (by decide) (fun c_18 => ?_) (fun c_18 => ?_)
        · refine g_iload_n C dX0_count_58 rfl rfl ?_
          refine g_aload_n C dX0_count_59 rfl rfl ?_
          refine g_aload_n C dX0_count_60 rfl rfl ?_
          refine g_getX C 0 dX0_count_61 mwX0_count_inX (by decide) mwX0_count_f9 rfl rfl ?_
          refine g_aload_n C dX0_count_64 rfl rfl ?_
          refine g_getX C 7 dX0_count_65 mwX0_count_inX (by decide) mwX0_count_f32 rfl rfl ?_
          refine g_iload_n C dX0_count_68 rfl rfl ?_
          refine g_ialdN C (p) dX0_count_69 rfl rfl (show p < 16 by omega) (by decide) ?_
          refine g_iald C dX0_count_70 rfl (Iv_tin I hpl) ?_
          refine g_callVEi (Cl := RX0) (T := TX0) (N := 18) (ci := 0) (q0 := 0) (na := 1) C dX0_count_71 (c_cnt hl (eG E) σ τ o _ h4) gX0_count_X0_countOfLetters rfl rfl (by decide +kernel) rfl rfl rfl (Nat.le_of_ble_eq_true rfl) (by rw [R]; exact ⟨by decide, by decide⟩) (by rw [R]; exact ⟨by decide, by decide⟩) ?_
          refine g_iadd C dX0_count_74 ?_
          refine g_istore_n C [(1, _), (2, _), (0, _)] dX0_count_75 rfl (by decide) rfl ?_
          refine g_iinc C 1 [(2, _), (1, _), (0, _)] dX0_count_76 rfl (nI_i1 p) (by decide) rfl ?_
          refine g_goto (tgt := 4) C dX0_count_79 (by decide) ?_
          exact ih (p + 1) _ (by omega) (by omega) (by rw [← ct_1 hpl c_18]; exact e)
        · have hp1 := Iv_jl I hpl c_18
          refine g_iload_n C dX0_count_21 rfl rfl ?_
          refine g_iconst (v := 1) C dX0_count_22 (by decide) ?_
          refine g_iadd C dX0_count_23 ?_
          refine g_aload_n C dX0_count_24 rfl rfl ?_
          refine g_getX C 9 dX0_count_25 mwX0_count_inX (by decide) mwX0_count_f39 rfl rfl ?_
          refine g_icmp_ge (tgt := 58) C dX0_count_28 (by decide) (fun c_28 => ?_) (fun c_28 => ?_)
          · exact absurd (by rw [nI_1, h9] at c_28; exact c_28) (nI_ge (by omega) (by omega))
          · refine g_iload_n C dX0_count_31 rfl rfl ?_
            refine g_aload_n C dX0_count_32 rfl rfl ?_
            refine g_aload_n C dX0_count_33 rfl rfl ?_
            refine g_getX C 7 dX0_count_34 mwX0_count_inX (by decide) mwX0_count_f32 rfl rfl ?_
            refine g_iload_n C dX0_count_37 rfl rfl ?_
            refine g_ialdN C (p) dX0_count_38 rfl rfl (show p < 16 by omega) (by decide) ?_
            refine g_aload_n C dX0_count_39 rfl rfl ?_
            refine g_getX C 7 dX0_count_40 mwX0_count_inX (by decide) mwX0_count_f32 rfl rfl ?_
            refine g_iload_n C dX0_count_43 rfl rfl ?_
            refine g_iconst (v := 1) C dX0_count_44 (by decide) ?_
            refine g_iadd C dX0_count_45 ?_
            refine g_ialdN C (p + 1) dX0_count_46 rfl (nI_1 p) (show p + 1 < 16 by omega) (by decide) ?_
            refine g_callVEi (Cl := RX0) (T := TX0) (N := 18) (ci := 0) (q0 := 0) (na := 2) C dX0_count_47 (c_cntPair hl (eG E) σ τ o _ _ h4 (Iv_tin I hpl) (Iv_tin I hp1)) gX0_count_X0_countOfPair rfl rfl (by decide +kernel) rfl rfl rfl (Nat.le_of_ble_eq_true rfl) (by rw [R]; exact ⟨by decide, by decide⟩) (by rw [R]; exact ⟨by decide, by decide⟩) ?_
            refine g_iadd C dX0_count_50 ?_
            refine g_istore_n C [(1, _), (2, _), (0, _)] dX0_count_51 rfl (by decide) rfl ?_
            refine g_iinc C 1 [(2, _), (1, _), (0, _)] dX0_count_52 rfl (nI_i2 p) (by decide) rfl ?_
            refine g_goto (tgt := 4) C dX0_count_55 (by decide) ?_
            exact ih (p + 2) _ (by omega) (by omega) (by rw [← ct_2 hpl c_18]; exact e)
  refine g_iconst (v := 0) C dX0_count_0 (by decide) ?_
  refine g_istore_n C [(1, _), (0, _)] dX0_count_1 rfl (by decide) rfl ?_
  refine g_iconst (v := 0) C dX0_count_2 (by decide) ?_
  refine g_istore_n C [(2, _), (1, _), (0, _)] dX0_count_3 rfl (by decide) rfl ?_
  exact loop nl 0 0 (Nat.zero_le _) (Nat.sub_le _ _) rfl
set_option maxRecDepth 100000 in
theorem mwX0_price_inX : ∀ w ∈ wsX00, w ∈ wsX0_price := by decide +kernel
set_option maxRecDepth 100000 in
theorem mwX0_price_f29 : Cond.fieldLink RX0 29 "TelegraphPrices" "coins" "I" ∈ wsX0_price := by decide +kernel
set_option maxHeartbeats 4000000 in
set_option maxRecDepth 100000 in
theorem c_price {l : Launch} (hl : l.stackTraces = false) (Γ : gG) (σ : gS) (τ : gT) (o : gO) (nw nl lm : Nat) (I : IX σ τ nw nl lm) : Ct l yX0_price wsX0_price 4 128 0 0 [.ref (Γ.2.1 100)] Γ σ τ o (pE (some (.int (CTx σ τ nl * σ 6))) σ τ o) (noX) := by
  refine ct_of hl (by decide +kernel) rfl (Nat.le_of_ble_eq_true rfl) ?_
  intro E C F T hΓ hL R
  subst hΓ
  subst hL
  show G E 0 0 0 [(0, .ref ((eG E).2.1 100))] [] σ τ o
  have hnw := Iv_nw I
  have hnl := Iv_nl I
  have h3 : σ 3 = nI nw := Iv_h3 I
  have h9 : σ 9 = nI nl := Iv_h9 I
  have h4 : ¬ σ 4 = 0 := Iv_ne I
  refine g_aload_n C dX0_price_0 rfl rfl ?_
  refine g_callVEi (Cl := RX0) (T := TX0) (N := 18) (ci := 0) (q0 := 0) (na := 0) C dX0_price_1 (c_count hl (eG E) σ τ o nw nl lm I) gX0_price_X0_count rfl rfl (by decide +kernel) rfl rfl rfl (Nat.le_of_ble_eq_true rfl) (by rw [R]; exact ⟨by decide, by decide⟩) (by rw [R]; exact ⟨by decide, by decide⟩) ?_
  refine g_aload_n C dX0_price_4 rfl rfl ?_
  refine g_getX C 6 dX0_price_5 mwX0_price_inX (by decide) mwX0_price_f29 rfl rfl ?_
  refine g_imul C dX0_price_8 ?_
  exact g_iret C F dX0_price_9 (by decide) (by decide) ⟨rfl, rfl, rfl, rfl⟩
set_option maxHeartbeats 4000000 in
set_option maxRecDepth 100000 in
theorem c_priceTo {l : Launch} (hl : l.stackTraces = false) (Γ : gG) (σ : gS) (τ : gT) (o : gO) (nw nl lm : Nat) (z : Int32) (I : IX σ τ nw nl lm) (hz : ¬ z < 0 ∧ z < 4) : Ct l yX0_priceTo wsX0_priceTo 5 160 0 0 [.ref (Γ.2.1 100), .int z] Γ σ τ o (pE (some (.int (CTx σ τ nl * σ 6 * (z + 2) / 2))) σ τ o) (noX) := by
  refine ct_of hl (by decide +kernel) rfl (Nat.le_of_ble_eq_true rfl) ?_
  intro E C F T hΓ hL R
  subst hΓ
  subst hL
  show G E 0 0 0 [(0, .ref ((eG E).2.1 100)), (1, .int z)] [] σ τ o
  have hnw := Iv_nw I
  have hnl := Iv_nl I
  have h3 : σ 3 = nI nw := Iv_h3 I
  have h9 : σ 9 = nI nl := Iv_h9 I
  have h4 : ¬ σ 4 = 0 := Iv_ne I
  refine g_iload_n C dX0_priceTo_0 rfl rfl ?_
  refine g_if_lt (tgt := 9) C dX0_priceTo_1 (by decide) (fun c_1 => ?_) (fun c_1 => ?_)
  · exact absurd c_1 hz.1
  · refine g_iload_n C dX0_priceTo_4 rfl rfl ?_
    refine g_iconst (v := 4) C dX0_priceTo_5 (by decide) ?_
    refine g_icmp_lt (tgt := 19) C dX0_priceTo_6 (by decide) (fun c_6 => ?_) (fun c_6 => ?_)
    · refine g_aload_n C dX0_priceTo_19 rfl rfl ?_
      refine g_callVEi (Cl := RX0) (T := TX0) (N := 18) (ci := 0) (q0 := 0) (na := 0) C dX0_priceTo_20 (c_price hl (eG E) σ τ o nw nl lm I) gX0_priceTo_X0_price rfl rfl (by decide +kernel) rfl rfl rfl (Nat.le_of_ble_eq_true rfl) (by rw [R]; exact ⟨by decide, by decide⟩) (by rw [R]; exact ⟨by decide, by decide⟩) ?_
      refine g_iload_n C dX0_priceTo_23 rfl rfl ?_
      refine g_iconst (v := 2) C dX0_priceTo_24 (by decide) ?_
      refine g_iadd C dX0_priceTo_25 ?_
      refine g_imul C dX0_priceTo_26 ?_
      refine g_iconst (v := 2) C dX0_priceTo_27 (by decide) ?_
      refine g_idiv C dX0_priceTo_28 (by decide) ?_
      exact g_iret C F dX0_priceTo_29 (by decide) (by decide) ⟨rfl, rfl, rfl, rfl⟩
    · exact absurd hz.2 c_6
set_option maxRecDepth 100000 in
theorem mwX0_priceTo_k133 : Cond.classLink RX0 133 "java/lang/IndexOutOfBoundsException" ∈ wsX0_priceTo := by decide +kernel
set_option maxRecDepth 100000 in
theorem mwX0_priceTo_n133 : Cond.initialized "java/lang/IndexOutOfBoundsException" ∈ wsX0_priceTo := by decide +kernel
set_option maxRecDepth 100000 in
theorem mwX0_priceTo_a133 : ∀ w ∈ (vx_atS RX0 137 "java/lang/IndexOutOfBoundsException" ["java/lang/RuntimeException", "java/lang/Exception"]).filter goodWord, w ∈ wsX0_priceTo := by decide +kernel
set_option maxRecDepth 100000 in
theorem mwX0_saves_inX : ∀ w ∈ wsX00, w ∈ wsX0_saves := by decide +kernel
set_option maxRecDepth 100000 in
theorem mwX0_saves_f29 : Cond.fieldLink RX0 29 "TelegraphPrices" "coins" "I" ∈ wsX0_saves := by decide +kernel
set_option maxHeartbeats 4000000 in
set_option maxRecDepth 100000 in
theorem c_saves {l : Launch} (hl : l.stackTraces = false) (Γ : gG) (σ : gS) (τ : gT) (o : gO) (nw nl lm : Nat) (I : IX σ τ nw nl lm) : Ct l yX0_saves wsX0_saves 6 192 0 0 [.ref (Γ.2.1 100)] Γ σ τ o (pI (fun r σ' τ' o' => r = CTx σ τ nl * σ 6 - CC0 σ τ nw nl * σ 6 ∧ σ' = σ ∧ o' = o ∧ (∀ c, c ≠ 12 → c ≠ 13 → c ≠ 14 → c ≠ 15 → τ' c = τ c))) (noX) := by
  refine ct_of hl (by decide +kernel) rfl (Nat.le_of_ble_eq_true rfl) ?_
  intro E C F T hΓ hL R
  subst hΓ
  subst hL
  show G E 0 0 0 [(0, .ref ((eG E).2.1 100))] [] σ τ o
  have hnw := Iv_nw I
  have hnl := Iv_nl I
  have h3 : σ 3 = nI nw := Iv_h3 I
  have h9 : σ 9 = nI nl := Iv_h9 I
  have h4 : ¬ σ 4 = 0 := Iv_ne I
  refine g_aload_n C dX0_saves_0 rfl rfl ?_
  refine g_callVEi (Cl := RX0) (T := TX0) (N := 18) (ci := 0) (q0 := 0) (na := 0) C dX0_saves_1 (c_price hl (eG E) σ τ o nw nl lm I) gX0_saves_X0_price rfl rfl (by decide +kernel) rfl rfl rfl (Nat.le_of_ble_eq_true rfl) (by rw [R]; exact ⟨by decide, by decide⟩) (by rw [R]; exact ⟨by decide, by decide⟩) ?_
  refine g_aload_n C dX0_saves_4 rfl rfl ?_
  refine g_callVi (Cl := RX0) (T := TX0) (N := 18) (ci := 0) (q0 := 0) (na := 0) C dX0_saves_5 (c_cheapestCount hl (eG E) σ τ o nw nl lm I) gX0_saves_X0_cheapestCount rfl rfl (by decide +kernel) rfl rfl rfl (Nat.le_of_ble_eq_true rfl) (by rw [R]; exact ⟨by decide, by decide⟩) (by rw [R]; exact ⟨by decide, by decide⟩) noX_kx (fun r1 σ1 τ1 o1 hN1 => ?_)
  obtain ⟨e0, e1, e2, hN⟩ := hN1
  rw [e0, e1, e2]
  refine g_aload_n C dX0_saves_8 rfl rfl ?_
  refine g_getX C 6 dX0_saves_9 mwX0_saves_inX (by decide) mwX0_saves_f29 rfl rfl ?_
  refine g_imul C dX0_saves_12 ?_
  refine g_isub C dX0_saves_13 ?_
  exact g_iret C F dX0_saves_14 (by decide) (by decide) ⟨_, rfl, rfl, rfl, rfl, fun c h1 h2 _ h4 => hN.1 c h1 h2 h4⟩
end
section
/-! the class's calls: book, telegram, what there is -/
/-- bitCount, as the JDK reckons it -/
def ush (x y : Int32) : Int32 := (x.toUInt32 >>> (y.toUInt32 &&& Int32.toUInt32 31)).toInt32
def bc1 (x : Int32) : Int32 := x - (ush x 1 &&& 1431655765)
def bc2 (x : Int32) : Int32 := (x &&& 858993459) + (ush x 2 &&& 858993459)
def bc3 (x : Int32) : Int32 := (x + ush x 4) &&& 252645135
def bc4 (x : Int32) : Int32 := x + ush x 8
def bc5 (x : Int32) : Int32 := x + ush x 16
def bcF (x : Int32) : Int32 := bc5 (bc4 (bc3 (bc2 (bc1 x)))) &&& 63
set_option maxRecDepth 100000 in
theorem mwJ6_bitCount_0f7a4_c265 : Cond.constant RJ6 265 (1431655765) ∈ wsJ6_bitCount_0f7a4 := by decide +kernel
set_option maxRecDepth 100000 in
theorem mwJ6_bitCount_0f7a4_c266 : Cond.constant RJ6 266 (858993459) ∈ wsJ6_bitCount_0f7a4 := by decide +kernel
set_option maxRecDepth 100000 in
theorem mwJ6_bitCount_0f7a4_c267 : Cond.constant RJ6 267 (252645135) ∈ wsJ6_bitCount_0f7a4 := by decide +kernel
set_option maxHeartbeats 4000000 in
set_option maxRecDepth 100000 in
theorem c_bitCount {l : Launch} (hl : l.stackTraces = false) (Γ : gG) (σ : gS) (τ : gT) (o : gO) (x : Int32) : Ct l yJ6_bitCount_0f7a4 wsJ6_bitCount_0f7a4 1 32 0 0 [.int x] Γ σ τ o (pE (some (.int (bcF x))) σ τ o) (noX) := by
  refine ct_of hl (by decide +kernel) rfl (Nat.le_of_ble_eq_true rfl) ?_
  intro E C F T hΓ hL R
  subst hΓ
  subst hL
  show G E 0 0 0 [(0, .int x)] [] σ τ o
  refine g_iload_n C dJ6_bitCount_0f7a4_0 rfl rfl ?_
  refine g_iload_n C dJ6_bitCount_0f7a4_1 rfl rfl ?_
  refine g_iconst (v := 1) C dJ6_bitCount_0f7a4_2 (by decide) ?_
  refine g_iushr C dJ6_bitCount_0f7a4_3 rfl ?_
  refine g_ldcw C dJ6_bitCount_0f7a4_4 mwJ6_bitCount_0f7a4_c265 ?_
  refine g_iand C dJ6_bitCount_0f7a4_7 ?_
  refine g_isub C dJ6_bitCount_0f7a4_8 ?_
  refine g_istore_n C [(0, _)] dJ6_bitCount_0f7a4_9 rfl (by decide) rfl ?_
  refine g_iload_n C dJ6_bitCount_0f7a4_10 rfl rfl ?_
  refine g_ldcw C dJ6_bitCount_0f7a4_11 mwJ6_bitCount_0f7a4_c266 ?_
  refine g_iand C dJ6_bitCount_0f7a4_14 ?_
  refine g_iload_n C dJ6_bitCount_0f7a4_15 rfl rfl ?_
  refine g_iconst (v := 2) C dJ6_bitCount_0f7a4_16 (by decide) ?_
  refine g_iushr C dJ6_bitCount_0f7a4_17 rfl ?_
  refine g_ldcw C dJ6_bitCount_0f7a4_18 mwJ6_bitCount_0f7a4_c266 ?_
  refine g_iand C dJ6_bitCount_0f7a4_21 ?_
  refine g_iadd C dJ6_bitCount_0f7a4_22 ?_
  refine g_istore_n C [(0, _)] dJ6_bitCount_0f7a4_23 rfl (by decide) rfl ?_
  refine g_iload_n C dJ6_bitCount_0f7a4_24 rfl rfl ?_
  refine g_iload_n C dJ6_bitCount_0f7a4_25 rfl rfl ?_
  refine g_iconst (v := 4) C dJ6_bitCount_0f7a4_26 (by decide) ?_
  refine g_iushr C dJ6_bitCount_0f7a4_27 rfl ?_
  refine g_iadd C dJ6_bitCount_0f7a4_28 ?_
  refine g_ldcw C dJ6_bitCount_0f7a4_29 mwJ6_bitCount_0f7a4_c267 ?_
  refine g_iand C dJ6_bitCount_0f7a4_32 ?_
  refine g_istore_n C [(0, _)] dJ6_bitCount_0f7a4_33 rfl (by decide) rfl ?_
  refine g_iload_n C dJ6_bitCount_0f7a4_34 rfl rfl ?_
  refine g_iload_n C dJ6_bitCount_0f7a4_35 rfl rfl ?_
  refine g_bipush (v := 8) C dJ6_bitCount_0f7a4_36 (by decide) ?_
  refine g_iushr C dJ6_bitCount_0f7a4_38 rfl ?_
  refine g_iadd C dJ6_bitCount_0f7a4_39 ?_
  refine g_istore_n C [(0, _)] dJ6_bitCount_0f7a4_40 rfl (by decide) rfl ?_
  refine g_iload_n C dJ6_bitCount_0f7a4_41 rfl rfl ?_
  refine g_iload_n C dJ6_bitCount_0f7a4_42 rfl rfl ?_
  refine g_bipush (v := 16) C dJ6_bitCount_0f7a4_43 (by decide) ?_
  refine g_iushr C dJ6_bitCount_0f7a4_45 rfl ?_
  refine g_iadd C dJ6_bitCount_0f7a4_46 ?_
  refine g_istore_n C [(0, _)] dJ6_bitCount_0f7a4_47 rfl (by decide) rfl ?_
  refine g_iload_n C dJ6_bitCount_0f7a4_48 rfl rfl ?_
  refine g_bipush (v := 63) C dJ6_bitCount_0f7a4_49 (by decide) ?_
  refine g_iand C dJ6_bitCount_0f7a4_51 ?_
  exact g_iret C F dJ6_bitCount_0f7a4_52 (by decide) (by decide) ⟨rfl, rfl, rfl, rfl⟩
set_option maxRecDepth 100000 in
theorem mwX0_words_inX : ∀ w ∈ wsX00, w ∈ wsX0_words := by decide +kernel
set_option maxRecDepth 100000 in
theorem mwX0_words_f19 : Cond.fieldLink RX0 19 "TelegraphPrices" "words" "I" ∈ wsX0_words := by decide +kernel
set_option maxHeartbeats 4000000 in
set_option maxRecDepth 100000 in
theorem c_words {l : Launch} (hl : l.stackTraces = false) (Γ : gG) (σ : gS) (τ : gT) (o : gO)  : Ct l yX0_words wsX0_words 1 32 0 0 [.ref (Γ.2.1 100)] Γ σ τ o (pE (some (.int (σ 3))) σ τ o) (noX) := by
  refine ct_of hl (by decide +kernel) rfl (Nat.le_of_ble_eq_true rfl) ?_
  intro E C F T hΓ hL R
  subst hΓ
  subst hL
  show G E 0 0 0 [(0, .ref ((eG E).2.1 100))] [] σ τ o
  refine g_aload_n C dX0_words_0 rfl rfl ?_
  refine g_getX C 3 dX0_words_1 mwX0_words_inX (by decide) mwX0_words_f19 rfl rfl ?_
  exact g_iret C F dX0_words_4 (by decide) (by decide) ⟨rfl, rfl, rfl, rfl⟩
set_option maxRecDepth 100000 in
theorem mwX0_limit_inX : ∀ w ∈ wsX00, w ∈ wsX0_limit := by decide +kernel
set_option maxRecDepth 100000 in
theorem mwX0_limit_f23 : Cond.fieldLink RX0 23 "TelegraphPrices" "limit" "I" ∈ wsX0_limit := by decide +kernel
set_option maxHeartbeats 4000000 in
set_option maxRecDepth 100000 in
theorem c_limit {l : Launch} (hl : l.stackTraces = false) (Γ : gG) (σ : gS) (τ : gT) (o : gO)  : Ct l yX0_limit wsX0_limit 1 32 0 0 [.ref (Γ.2.1 100)] Γ σ τ o (pE (some (.int (σ 4))) σ τ o) (noX) := by
  refine ct_of hl (by decide +kernel) rfl (Nat.le_of_ble_eq_true rfl) ?_
  intro E C F T hΓ hL R
  subst hΓ
  subst hL
  show G E 0 0 0 [(0, .ref ((eG E).2.1 100))] [] σ τ o
  refine g_aload_n C dX0_limit_0 rfl rfl ?_
  refine g_getX C 4 dX0_limit_1 mwX0_limit_inX (by decide) mwX0_limit_f23 rfl rfl ?_
  exact g_iret C F dX0_limit_4 (by decide) (by decide) ⟨rfl, rfl, rfl, rfl⟩
set_option maxRecDepth 100000 in
theorem mwX0_leastCount_inX : ∀ w ∈ wsX00, w ∈ wsX0_leastCount := by decide +kernel
set_option maxRecDepth 100000 in
theorem mwX0_leastCount_f26 : Cond.fieldLink RX0 26 "TelegraphPrices" "leastCount" "I" ∈ wsX0_leastCount := by decide +kernel
set_option maxHeartbeats 4000000 in
set_option maxRecDepth 100000 in
theorem c_leastCount {l : Launch} (hl : l.stackTraces = false) (Γ : gG) (σ : gS) (τ : gT) (o : gO)  : Ct l yX0_leastCount wsX0_leastCount 1 32 0 0 [.ref (Γ.2.1 100)] Γ σ τ o (pE (some (.int (σ 5))) σ τ o) (noX) := by
  refine ct_of hl (by decide +kernel) rfl (Nat.le_of_ble_eq_true rfl) ?_
  intro E C F T hΓ hL R
  subst hΓ
  subst hL
  show G E 0 0 0 [(0, .ref ((eG E).2.1 100))] [] σ τ o
  refine g_aload_n C dX0_leastCount_0 rfl rfl ?_
  refine g_getX C 5 dX0_leastCount_1 mwX0_leastCount_inX (by decide) mwX0_leastCount_f26 rfl rfl ?_
  exact g_iret C F dX0_leastCount_4 (by decide) (by decide) ⟨rfl, rfl, rfl, rfl⟩
set_option maxRecDepth 100000 in
theorem mwX0_coins_inX : ∀ w ∈ wsX00, w ∈ wsX0_coins := by decide +kernel
set_option maxRecDepth 100000 in
theorem mwX0_coins_f29 : Cond.fieldLink RX0 29 "TelegraphPrices" "coins" "I" ∈ wsX0_coins := by decide +kernel
set_option maxHeartbeats 4000000 in
set_option maxRecDepth 100000 in
theorem c_coins {l : Launch} (hl : l.stackTraces = false) (Γ : gG) (σ : gS) (τ : gT) (o : gO)  : Ct l yX0_coins wsX0_coins 1 32 0 0 [.ref (Γ.2.1 100)] Γ σ τ o (pE (some (.int (σ 6))) σ τ o) (noX) := by
  refine ct_of hl (by decide +kernel) rfl (Nat.le_of_ble_eq_true rfl) ?_
  intro E C F T hΓ hL R
  subst hΓ
  subst hL
  show G E 0 0 0 [(0, .ref ((eG E).2.1 100))] [] σ τ o
  refine g_aload_n C dX0_coins_0 rfl rfl ?_
  refine g_getX C 6 dX0_coins_1 mwX0_coins_inX (by decide) mwX0_coins_f29 rfl rfl ?_
  exact g_iret C F dX0_coins_4 (by decide) (by decide) ⟨rfl, rfl, rfl, rfl⟩
set_option maxRecDepth 100000 in
theorem mwX0_length_inX : ∀ w ∈ wsX00, w ∈ wsX0_length := by decide +kernel
set_option maxRecDepth 100000 in
theorem mwX0_length_f39 : Cond.fieldLink RX0 39 "TelegraphPrices" "length" "I" ∈ wsX0_length := by decide +kernel
set_option maxHeartbeats 4000000 in
set_option maxRecDepth 100000 in
theorem c_length {l : Launch} (hl : l.stackTraces = false) (Γ : gG) (σ : gS) (τ : gT) (o : gO)  : Ct l yX0_length wsX0_length 1 32 0 0 [.ref (Γ.2.1 100)] Γ σ τ o (pE (some (.int (σ 9))) σ τ o) (noX) := by
  refine ct_of hl (by decide +kernel) rfl (Nat.le_of_ble_eq_true rfl) ?_
  intro E C F T hΓ hL R
  subst hΓ
  subst hL
  show G E 0 0 0 [(0, .ref ((eG E).2.1 100))] [] σ τ o
  refine g_aload_n C dX0_length_0 rfl rfl ?_
  refine g_getX C 9 dX0_length_1 mwX0_length_inX (by decide) mwX0_length_f39 rfl rfl ?_
  exact g_iret C F dX0_length_4 (by decide) (by decide) ⟨rfl, rfl, rfl, rfl⟩
set_option maxRecDepth 100000 in
theorem mwX0_sent_inX : ∀ w ∈ wsX00, w ∈ wsX0_sent := by decide +kernel
set_option maxRecDepth 100000 in
theorem mwX0_sent_f42 : Cond.fieldLink RX0 42 "TelegraphPrices" "sent" "I" ∈ wsX0_sent := by decide +kernel
set_option maxHeartbeats 4000000 in
set_option maxRecDepth 100000 in
theorem c_sent {l : Launch} (hl : l.stackTraces = false) (Γ : gG) (σ : gS) (τ : gT) (o : gO)  : Ct l yX0_sent wsX0_sent 1 32 0 0 [.ref (Γ.2.1 100)] Γ σ τ o (pE (some (.int (σ 10))) σ τ o) (noX) := by
  refine ct_of hl (by decide +kernel) rfl (Nat.le_of_ble_eq_true rfl) ?_
  intro E C F T hΓ hL R
  subst hΓ
  subst hL
  show G E 0 0 0 [(0, .ref ((eG E).2.1 100))] [] σ τ o
  refine g_aload_n C dX0_sent_0 rfl rfl ?_
  refine g_getX C 10 dX0_sent_1 mwX0_sent_inX (by decide) mwX0_sent_f42 rfl rfl ?_
  exact g_iret C F dX0_sent_4 (by decide) (by decide) ⟨rfl, rfl, rfl, rfl⟩
set_option maxRecDepth 100000 in
theorem mwX0_earned_inX : ∀ w ∈ wsX00, w ∈ wsX0_earned := by decide +kernel
set_option maxRecDepth 100000 in
theorem mwX0_earned_f45 : Cond.fieldLink RX0 45 "TelegraphPrices" "earned" "I" ∈ wsX0_earned := by decide +kernel
set_option maxHeartbeats 4000000 in
set_option maxRecDepth 100000 in
theorem c_earned {l : Launch} (hl : l.stackTraces = false) (Γ : gG) (σ : gS) (τ : gT) (o : gO)  : Ct l yX0_earned wsX0_earned 1 32 0 0 [.ref (Γ.2.1 100)] Γ σ τ o (pE (some (.int (σ 11))) σ τ o) (noX) := by
  refine ct_of hl (by decide +kernel) rfl (Nat.le_of_ble_eq_true rfl) ?_
  intro E C F T hΓ hL R
  subst hΓ
  subst hL
  show G E 0 0 0 [(0, .ref ((eG E).2.1 100))] [] σ τ o
  refine g_aload_n C dX0_earned_0 rfl rfl ?_
  refine g_getX C 11 dX0_earned_1 mwX0_earned_inX (by decide) mwX0_earned_f45 rfl rfl ?_
  exact g_iret C F dX0_earned_4 (by decide) (by decide) ⟨rfl, rfl, rfl, rfl⟩
set_option maxRecDepth 100000 in
theorem mwX0_lettersOf_inX : ∀ w ∈ wsX00, w ∈ wsX0_lettersOf := by decide +kernel
set_option maxRecDepth 100000 in
theorem mwX0_lettersOf_f9 : Cond.fieldLink RX0 9 "TelegraphPrices" "letters" "[I" ∈ wsX0_lettersOf := by decide +kernel
set_option maxHeartbeats 4000000 in
set_option maxRecDepth 100000 in
theorem c_lettersOf {l : Launch} (hl : l.stackTraces = false) (Γ : gG) (σ : gS) (τ : gT) (o : gO) (nw nl lm : Nat) (a : Nat) (I : IX σ τ nw nl lm) (ha : a < nw) : Ct l yX0_lettersOf wsX0_lettersOf 2 64 0 0 [.ref (Γ.2.1 100), .int (nI a)] Γ σ τ o (pE (some (.int (τ 0 a))) σ τ o) (noX) := by
  refine ct_of hl (by decide +kernel) rfl (Nat.le_of_ble_eq_true rfl) ?_
  intro E C F T hΓ hL R
  subst hΓ
  subst hL
  show G E 0 0 0 [(0, .ref ((eG E).2.1 100)), (1, .int (nI a))] [] σ τ o
  have hnw := Iv_nw I
  have hnl := Iv_nl I
  have h3 : σ 3 = nI nw := Iv_h3 I
  have h9 : σ 9 = nI nl := Iv_h9 I
  have h4 : ¬ σ 4 = 0 := Iv_ne I
  refine g_aload_n C dX0_lettersOf_0 rfl rfl ?_
  refine g_iload_n C dX0_lettersOf_1 rfl rfl ?_
  refine g_callVEv (Cl := RX0) (T := TX0) (N := 18) (ci := 0) (q0 := 0) (na := 1) C dX0_lettersOf_2 (c_needWord hl (eG E) σ τ o _ (nI_pos (show a < 2 ^ 31 by omega)) (by rw [h3]; exact nI_lt (by omega) (by omega))) gX0_lettersOf_X0_needWord rfl rfl (by decide +kernel) rfl rfl rfl (Nat.le_of_ble_eq_true rfl) (by rw [R]; exact ⟨by decide, by decide⟩) (by rw [R]; exact ⟨by decide, by decide⟩) ?_
  refine g_aload_n C dX0_lettersOf_5 rfl rfl ?_
  refine g_getX C 0 dX0_lettersOf_6 mwX0_lettersOf_inX (by decide) mwX0_lettersOf_f9 rfl rfl ?_
  refine g_iload_n C dX0_lettersOf_9 rfl rfl ?_
  refine g_ialdN C (a) dX0_lettersOf_10 rfl rfl (show a < 12 by omega) (by decide) ?_
  exact g_iret C F dX0_lettersOf_11 (by decide) (by decide) ⟨rfl, rfl, rfl, rfl⟩
set_option maxRecDepth 100000 in
theorem mwX0_countOf_inX : ∀ w ∈ wsX00, w ∈ wsX0_countOf := by decide +kernel
set_option maxRecDepth 100000 in
theorem mwX0_countOf_f9 : Cond.fieldLink RX0 9 "TelegraphPrices" "letters" "[I" ∈ wsX0_countOf := by decide +kernel
set_option maxHeartbeats 4000000 in
set_option maxRecDepth 100000 in
theorem c_countOf {l : Launch} (hl : l.stackTraces = false) (Γ : gG) (σ : gS) (τ : gT) (o : gO) (nw nl lm : Nat) (a : Nat) (I : IX σ τ nw nl lm) (ha : a < nw) : Ct l yX0_countOf wsX0_countOf 2 64 0 0 [.ref (Γ.2.1 100), .int (nI a)] Γ σ τ o (pE (some (.int (cn (σ 4) (τ 0 a)))) σ τ o) (noX) := by
  refine ct_of hl (by decide +kernel) rfl (Nat.le_of_ble_eq_true rfl) ?_
  intro E C F T hΓ hL R
  subst hΓ
  subst hL
  show G E 0 0 0 [(0, .ref ((eG E).2.1 100)), (1, .int (nI a))] [] σ τ o
  have hnw := Iv_nw I
  have hnl := Iv_nl I
  have h3 : σ 3 = nI nw := Iv_h3 I
  have h9 : σ 9 = nI nl := Iv_h9 I
  have h4 : ¬ σ 4 = 0 := Iv_ne I
  refine g_aload_n C dX0_countOf_0 rfl rfl ?_
  refine g_iload_n C dX0_countOf_1 rfl rfl ?_
  refine g_callVEv (Cl := RX0) (T := TX0) (N := 18) (ci := 0) (q0 := 0) (na := 1) C dX0_countOf_2 (c_needWord hl (eG E) σ τ o _ (nI_pos (show a < 2 ^ 31 by omega)) (by rw [h3]; exact nI_lt (by omega) (by omega))) gX0_countOf_X0_needWord rfl rfl (by decide +kernel) rfl rfl rfl (Nat.le_of_ble_eq_true rfl) (by rw [R]; exact ⟨by decide, by decide⟩) (by rw [R]; exact ⟨by decide, by decide⟩) ?_
  refine g_aload_n C dX0_countOf_5 rfl rfl ?_
  refine g_aload_n C dX0_countOf_6 rfl rfl ?_
  refine g_getX C 0 dX0_countOf_7 mwX0_countOf_inX (by decide) mwX0_countOf_f9 rfl rfl ?_
  refine g_iload_n C dX0_countOf_10 rfl rfl ?_
  refine g_ialdN C (a) dX0_countOf_11 rfl rfl (show a < 12 by omega) (by decide) ?_
  refine g_callVEi (Cl := RX0) (T := TX0) (N := 18) (ci := 0) (q0 := 0) (na := 1) C dX0_countOf_12 (c_cnt hl (eG E) σ τ o _ h4) gX0_countOf_X0_countOfLetters rfl rfl (by decide +kernel) rfl rfl rfl (Nat.le_of_ble_eq_true rfl) (by rw [R]; exact ⟨by decide, by decide⟩) (by rw [R]; exact ⟨by decide, by decide⟩) ?_
  exact g_iret C F dX0_countOf_15 (by decide) (by decide) ⟨rfl, rfl, rfl, rfl⟩
set_option maxRecDepth 100000 in
theorem mwX0_standInsOf_inX : ∀ w ∈ wsX00, w ∈ wsX0_standInsOf := by decide +kernel
set_option maxRecDepth 100000 in
theorem mwX0_standInsOf_f13 : Cond.fieldLink RX0 13 "TelegraphPrices" "standIns" "[I" ∈ wsX0_standInsOf := by decide +kernel
set_option maxHeartbeats 4000000 in
set_option maxRecDepth 100000 in
theorem c_standInsOf {l : Launch} (hl : l.stackTraces = false) (Γ : gG) (σ : gS) (τ : gT) (o : gO) (nw nl lm : Nat) (a : Nat) (I : IX σ τ nw nl lm) (ha : a < nw) : Ct l yX0_standInsOf wsX0_standInsOf 2 64 0 0 [.ref (Γ.2.1 100), .int (nI a)] Γ σ τ o (pE (some (.int (bcF (τ 1 a)))) σ τ o) (noX) := by
  refine ct_of hl (by decide +kernel) rfl (Nat.le_of_ble_eq_true rfl) ?_
  intro E C F T hΓ hL R
  subst hΓ
  subst hL
  show G E 0 0 0 [(0, .ref ((eG E).2.1 100)), (1, .int (nI a))] [] σ τ o
  have hnw := Iv_nw I
  have hnl := Iv_nl I
  have h3 : σ 3 = nI nw := Iv_h3 I
  have h9 : σ 9 = nI nl := Iv_h9 I
  have h4 : ¬ σ 4 = 0 := Iv_ne I
  refine g_aload_n C dX0_standInsOf_0 rfl rfl ?_
  refine g_iload_n C dX0_standInsOf_1 rfl rfl ?_
  refine g_callVEv (Cl := RX0) (T := TX0) (N := 18) (ci := 0) (q0 := 0) (na := 1) C dX0_standInsOf_2 (c_needWord hl (eG E) σ τ o _ (nI_pos (show a < 2 ^ 31 by omega)) (by rw [h3]; exact nI_lt (by omega) (by omega))) gX0_standInsOf_X0_needWord rfl rfl (by decide +kernel) rfl rfl rfl (Nat.le_of_ble_eq_true rfl) (by rw [R]; exact ⟨by decide, by decide⟩) (by rw [R]; exact ⟨by decide, by decide⟩) ?_
  refine g_aload_n C dX0_standInsOf_5 rfl rfl ?_
  refine g_getX C 1 dX0_standInsOf_6 mwX0_standInsOf_inX (by decide) mwX0_standInsOf_f13 rfl rfl ?_
  refine g_iload_n C dX0_standInsOf_9 rfl rfl ?_
  refine g_ialdN C (a) dX0_standInsOf_10 rfl rfl (show a < 12 by omega) (by decide) ?_
  refine g_callSEi (na := 1) C dX0_standInsOf_11 (c_bitCount hl (eG E) σ τ o _) gX0_standInsOf_J6_bitCount_0f7a4 rfl rfl (by decide +kernel) rfl (Nat.le_of_ble_eq_true rfl) (by rw [R]; exact ⟨by decide, by decide⟩) (by rw [R]; exact ⟨by decide, by decide⟩) ?_
  exact g_iret C F dX0_standInsOf_14 (by decide) (by decide) ⟨rfl, rfl, rfl, rfl⟩
set_option maxRecDepth 100000 in
theorem mwX0_mayStandFor_inX : ∀ w ∈ wsX00, w ∈ wsX0_mayStandFor := by decide +kernel
set_option maxRecDepth 100000 in
theorem mwX0_mayStandFor_f13 : Cond.fieldLink RX0 13 "TelegraphPrices" "standIns" "[I" ∈ wsX0_mayStandFor := by decide +kernel
set_option maxHeartbeats 4000000 in
set_option maxRecDepth 100000 in
theorem c_mayStandFor {l : Launch} (hl : l.stackTraces = false) (Γ : gG) (σ : gS) (τ : gT) (o : gO) (nw nl lm : Nat) (a b : Nat) (I : IX σ τ nw nl lm) (ha : a < nw) (hb9 : b < nw) : Ct l yX0_mayStandFor wsX0_mayStandFor 2 64 0 0 [.ref (Γ.2.1 100), .int (nI a), .int (nI b)] Γ σ τ o (pE (some (.int (hb (τ 1 a) (nI b)))) σ τ o) (noX) := by
  refine ct_of hl (by decide +kernel) rfl (Nat.le_of_ble_eq_true rfl) ?_
  intro E C F T hΓ hL R
  subst hΓ
  subst hL
  show G E 0 0 0 [(0, .ref ((eG E).2.1 100)), (1, .int (nI a)), (2, .int (nI b))] [] σ τ o
  have hnw := Iv_nw I
  have hnl := Iv_nl I
  have h3 : σ 3 = nI nw := Iv_h3 I
  have h9 : σ 9 = nI nl := Iv_h9 I
  have h4 : ¬ σ 4 = 0 := Iv_ne I
  refine g_aload_n C dX0_mayStandFor_0 rfl rfl ?_
  refine g_iload_n C dX0_mayStandFor_1 rfl rfl ?_
  refine g_callVEv (Cl := RX0) (T := TX0) (N := 18) (ci := 0) (q0 := 0) (na := 1) C dX0_mayStandFor_2 (c_needWord hl (eG E) σ τ o _ (nI_pos (show a < 2 ^ 31 by omega)) (by rw [h3]; exact nI_lt (by omega) (by omega))) gX0_mayStandFor_X0_needWord rfl rfl (by decide +kernel) rfl rfl rfl (Nat.le_of_ble_eq_true rfl) (by rw [R]; exact ⟨by decide, by decide⟩) (by rw [R]; exact ⟨by decide, by decide⟩) ?_
  refine g_aload_n C dX0_mayStandFor_5 rfl rfl ?_
  refine g_iload_n C dX0_mayStandFor_6 rfl rfl ?_
  refine g_callVEv (Cl := RX0) (T := TX0) (N := 18) (ci := 0) (q0 := 0) (na := 1) C dX0_mayStandFor_7 (c_needWord hl (eG E) σ τ o _ (nI_pos (show b < 2 ^ 31 by omega)) (by rw [h3]; exact nI_lt (by omega) (by omega))) gX0_mayStandFor_X0_needWord rfl rfl (by decide +kernel) rfl rfl rfl (Nat.le_of_ble_eq_true rfl) (by rw [R]; exact ⟨by decide, by decide⟩) (by rw [R]; exact ⟨by decide, by decide⟩) ?_
  refine g_aload_n C dX0_mayStandFor_10 rfl rfl ?_
  refine g_getX C 1 dX0_mayStandFor_11 mwX0_mayStandFor_inX (by decide) mwX0_mayStandFor_f13 rfl rfl ?_
  refine g_iload_n C dX0_mayStandFor_14 rfl rfl ?_
  refine g_ialdN C (a) dX0_mayStandFor_15 rfl rfl (show a < 12 by omega) (by decide) ?_
  refine g_iload_n C dX0_mayStandFor_16 rfl rfl ?_
  refine g_callSEi (na := 2) C dX0_mayStandFor_17 (c_hasBit hl (eG E) σ τ o _ _) gX0_mayStandFor_X0_hasBit rfl rfl (by decide +kernel) rfl (Nat.le_of_ble_eq_true rfl) (by rw [R]; exact ⟨by decide, by decide⟩) (by rw [R]; exact ⟨by decide, by decide⟩) ?_
  exact g_zret C F dX0_mayStandFor_20 (hb_01 _ _) (by decide) (by decide) ⟨rfl, rfl, rfl, rfl⟩
set_option maxRecDepth 100000 in
theorem mwX0_mayJoin_inX : ∀ w ∈ wsX00, w ∈ wsX0_mayJoin := by decide +kernel
set_option maxRecDepth 100000 in
theorem mwX0_mayJoin_f16 : Cond.fieldLink RX0 16 "TelegraphPrices" "joins" "[I" ∈ wsX0_mayJoin := by decide +kernel
set_option maxHeartbeats 4000000 in
set_option maxRecDepth 100000 in
theorem c_mayJoin {l : Launch} (hl : l.stackTraces = false) (Γ : gG) (σ : gS) (τ : gT) (o : gO) (nw nl lm : Nat) (a b : Nat) (I : IX σ τ nw nl lm) (ha : a < nw) (hb9 : b < nw) : Ct l yX0_mayJoin wsX0_mayJoin 2 64 0 0 [.ref (Γ.2.1 100), .int (nI a), .int (nI b)] Γ σ τ o (pE (some (.int (hb (τ 2 a) (nI b)))) σ τ o) (noX) := by
  refine ct_of hl (by decide +kernel) rfl (Nat.le_of_ble_eq_true rfl) ?_
  intro E C F T hΓ hL R
  subst hΓ
  subst hL
  show G E 0 0 0 [(0, .ref ((eG E).2.1 100)), (1, .int (nI a)), (2, .int (nI b))] [] σ τ o
  have hnw := Iv_nw I
  have hnl := Iv_nl I
  have h3 : σ 3 = nI nw := Iv_h3 I
  have h9 : σ 9 = nI nl := Iv_h9 I
  have h4 : ¬ σ 4 = 0 := Iv_ne I
  refine g_aload_n C dX0_mayJoin_0 rfl rfl ?_
  refine g_iload_n C dX0_mayJoin_1 rfl rfl ?_
  refine g_callVEv (Cl := RX0) (T := TX0) (N := 18) (ci := 0) (q0 := 0) (na := 1) C dX0_mayJoin_2 (c_needWord hl (eG E) σ τ o _ (nI_pos (show a < 2 ^ 31 by omega)) (by rw [h3]; exact nI_lt (by omega) (by omega))) gX0_mayJoin_X0_needWord rfl rfl (by decide +kernel) rfl rfl rfl (Nat.le_of_ble_eq_true rfl) (by rw [R]; exact ⟨by decide, by decide⟩) (by rw [R]; exact ⟨by decide, by decide⟩) ?_
  refine g_aload_n C dX0_mayJoin_5 rfl rfl ?_
  refine g_iload_n C dX0_mayJoin_6 rfl rfl ?_
  refine g_callVEv (Cl := RX0) (T := TX0) (N := 18) (ci := 0) (q0 := 0) (na := 1) C dX0_mayJoin_7 (c_needWord hl (eG E) σ τ o _ (nI_pos (show b < 2 ^ 31 by omega)) (by rw [h3]; exact nI_lt (by omega) (by omega))) gX0_mayJoin_X0_needWord rfl rfl (by decide +kernel) rfl rfl rfl (Nat.le_of_ble_eq_true rfl) (by rw [R]; exact ⟨by decide, by decide⟩) (by rw [R]; exact ⟨by decide, by decide⟩) ?_
  refine g_aload_n C dX0_mayJoin_10 rfl rfl ?_
  refine g_getX C 2 dX0_mayJoin_11 mwX0_mayJoin_inX (by decide) mwX0_mayJoin_f16 rfl rfl ?_
  refine g_iload_n C dX0_mayJoin_14 rfl rfl ?_
  refine g_ialdN C (a) dX0_mayJoin_15 rfl rfl (show a < 12 by omega) (by decide) ?_
  refine g_iload_n C dX0_mayJoin_16 rfl rfl ?_
  refine g_callSEi (na := 2) C dX0_mayJoin_17 (c_hasBit hl (eG E) σ τ o _ _) gX0_mayJoin_X0_hasBit rfl rfl (by decide +kernel) rfl (Nat.le_of_ble_eq_true rfl) (by rw [R]; exact ⟨by decide, by decide⟩) (by rw [R]; exact ⟨by decide, by decide⟩) ?_
  exact g_zret C F dX0_mayJoin_20 (hb_01 _ _) (by decide) (by decide) ⟨rfl, rfl, rfl, rfl⟩
set_option maxRecDepth 100000 in
theorem mwX0_wordAt_inX : ∀ w ∈ wsX00, w ∈ wsX0_wordAt := by decide +kernel
set_option maxRecDepth 100000 in
theorem mwX0_wordAt_f32 : Cond.fieldLink RX0 32 "TelegraphPrices" "telegram" "[I" ∈ wsX0_wordAt := by decide +kernel
set_option maxHeartbeats 4000000 in
set_option maxRecDepth 100000 in
theorem c_wordAt {l : Launch} (hl : l.stackTraces = false) (Γ : gG) (σ : gS) (τ : gT) (o : gO) (nw nl lm : Nat) (p : Nat) (I : IX σ τ nw nl lm) (hp : p < nl) : Ct l yX0_wordAt wsX0_wordAt 2 64 0 0 [.ref (Γ.2.1 100), .int (nI p)] Γ σ τ o (pE (some (.int (τ 7 p))) σ τ o) (noX) := by
  refine ct_of hl (by decide +kernel) rfl (Nat.le_of_ble_eq_true rfl) ?_
  intro E C F T hΓ hL R
  subst hΓ
  subst hL
  show G E 0 0 0 [(0, .ref ((eG E).2.1 100)), (1, .int (nI p))] [] σ τ o
  have hnw := Iv_nw I
  have hnl := Iv_nl I
  have h3 : σ 3 = nI nw := Iv_h3 I
  have h9 : σ 9 = nI nl := Iv_h9 I
  have h4 : ¬ σ 4 = 0 := Iv_ne I
  refine g_aload_n C dX0_wordAt_0 rfl rfl ?_
  refine g_iload_n C dX0_wordAt_1 rfl rfl ?_
  refine g_callVEv (Cl := RX0) (T := TX0) (N := 18) (ci := 0) (q0 := 0) (na := 1) C dX0_wordAt_2 (c_needPlace hl (eG E) σ τ o _ (nI_pos (show p < 2 ^ 31 by omega)) (by rw [h9]; exact nI_lt (by omega) (by omega))) gX0_wordAt_X0_needPlace rfl rfl (by decide +kernel) rfl rfl rfl (Nat.le_of_ble_eq_true rfl) (by rw [R]; exact ⟨by decide, by decide⟩) (by rw [R]; exact ⟨by decide, by decide⟩) ?_
  refine g_aload_n C dX0_wordAt_5 rfl rfl ?_
  refine g_getX C 7 dX0_wordAt_6 mwX0_wordAt_inX (by decide) mwX0_wordAt_f32 rfl rfl ?_
  refine g_iload_n C dX0_wordAt_9 rfl rfl ?_
  refine g_ialdN C (p) dX0_wordAt_10 rfl rfl (show p < 16 by omega) (by decide) ?_
  exact g_iret C F dX0_wordAt_11 (by decide) (by decide) ⟨rfl, rfl, rfl, rfl⟩
set_option maxRecDepth 100000 in
theorem mwX0_isJoined_inX : ∀ w ∈ wsX00, w ∈ wsX0_isJoined := by decide +kernel
set_option maxRecDepth 100000 in
theorem mwX0_isJoined_f35 : Cond.fieldLink RX0 35 "TelegraphPrices" "joined" "[Z" ∈ wsX0_isJoined := by decide +kernel
set_option maxHeartbeats 4000000 in
set_option maxRecDepth 100000 in
theorem c_isJoined {l : Launch} (hl : l.stackTraces = false) (Γ : gG) (σ : gS) (τ : gT) (o : gO) (nw nl lm : Nat) (p : Nat) (I : IX σ τ nw nl lm) (hp : p < nl) : Ct l yX0_isJoined wsX0_isJoined 2 64 0 0 [.ref (Γ.2.1 100), .int (nI p)] Γ σ τ o (pE (some (.int (τ 8 p))) σ τ o) (noX) := by
  refine ct_of hl (by decide +kernel) rfl (Nat.le_of_ble_eq_true rfl) ?_
  intro E C F T hΓ hL R
  subst hΓ
  subst hL
  show G E 0 0 0 [(0, .ref ((eG E).2.1 100)), (1, .int (nI p))] [] σ τ o
  have hnw := Iv_nw I
  have hnl := Iv_nl I
  have h3 : σ 3 = nI nw := Iv_h3 I
  have h9 : σ 9 = nI nl := Iv_h9 I
  have h4 : ¬ σ 4 = 0 := Iv_ne I
  refine g_aload_n C dX0_isJoined_0 rfl rfl ?_
  refine g_iload_n C dX0_isJoined_1 rfl rfl ?_
  refine g_callVEv (Cl := RX0) (T := TX0) (N := 18) (ci := 0) (q0 := 0) (na := 1) C dX0_isJoined_2 (c_needPlace hl (eG E) σ τ o _ (nI_pos (show p < 2 ^ 31 by omega)) (by rw [h9]; exact nI_lt (by omega) (by omega))) gX0_isJoined_X0_needPlace rfl rfl (by decide +kernel) rfl rfl rfl (Nat.le_of_ble_eq_true rfl) (by rw [R]; exact ⟨by decide, by decide⟩) (by rw [R]; exact ⟨by decide, by decide⟩) ?_
  refine g_aload_n C dX0_isJoined_5 rfl rfl ?_
  refine g_getX C 8 dX0_isJoined_6 mwX0_isJoined_inX (by decide) mwX0_isJoined_f35 rfl rfl ?_
  refine g_iload_n C dX0_isJoined_9 rfl rfl ?_
  refine g_zaldN C (p) dX0_isJoined_10 rfl rfl (show p < 16 by omega) (by decide) ?_
  exact g_zret C F dX0_isJoined_11 (Iv_jd I p) (by decide) (by decide) ⟨rfl, rfl, rfl, rfl⟩
set_option maxRecDepth 100000 in
theorem mwX0_isJoinedInCheapest_inX : ∀ w ∈ wsX00, w ∈ wsX0_isJoinedInCheapest := by decide +kernel
set_option maxRecDepth 100000 in
theorem mwX0_isJoinedInCheapest_f63 : Cond.fieldLink RX0 63 "TelegraphPrices" "cheapestJoined" "[Z" ∈ wsX0_isJoinedInCheapest := by decide +kernel
set_option maxHeartbeats 4000000 in
set_option maxRecDepth 100000 in
theorem c_isJoinedInCheapest {l : Launch} (hl : l.stackTraces = false) (Γ : gG) (σ : gS) (τ : gT) (o : gO) (nw nl lm : Nat) (p : Nat) (I : IX σ τ nw nl lm) (hp : p < nl) : Ct l yX0_isJoinedInCheapest wsX0_isJoinedInCheapest 6 192 0 0 [.ref (Γ.2.1 100), .int (nI p)] Γ σ τ o (pI (fun r σ' τ' o' => r = cjd (prx σ τ nw nl) p ∧ σ' = σ ∧ o' = o ∧ CH σ τ nw nl nl τ')) (noX) := by
  refine ct_of hl (by decide +kernel) rfl (Nat.le_of_ble_eq_true rfl) ?_
  intro E C F T hΓ hL R
  subst hΓ
  subst hL
  show G E 0 0 0 [(0, .ref ((eG E).2.1 100)), (1, .int (nI p))] [] σ τ o
  have hnw := Iv_nw I
  have hnl := Iv_nl I
  have h3 : σ 3 = nI nw := Iv_h3 I
  have h9 : σ 9 = nI nl := Iv_h9 I
  have h4 : ¬ σ 4 = 0 := Iv_ne I
  refine g_aload_n C dX0_isJoinedInCheapest_0 rfl rfl ?_
  refine g_iload_n C dX0_isJoinedInCheapest_1 rfl rfl ?_
  refine g_callVEv (Cl := RX0) (T := TX0) (N := 18) (ci := 0) (q0 := 0) (na := 1) C dX0_isJoinedInCheapest_2 (c_needPlace hl (eG E) σ τ o _ (nI_pos (show p < 2 ^ 31 by omega)) (by rw [h9]; exact nI_lt (by omega) (by omega))) gX0_isJoinedInCheapest_X0_needPlace rfl rfl (by decide +kernel) rfl rfl rfl (Nat.le_of_ble_eq_true rfl) (by rw [R]; exact ⟨by decide, by decide⟩) (by rw [R]; exact ⟨by decide, by decide⟩) ?_
  refine g_aload_n C dX0_isJoinedInCheapest_5 rfl rfl ?_
  refine g_callVv (Cl := RX0) (T := TX0) (N := 18) (ci := 0) (q0 := 0) (na := 0) C dX0_isJoinedInCheapest_6 (c_noteWording hl (eG E) σ τ o nw nl lm I) gX0_isJoinedInCheapest_X0_noteCheapestWording rfl rfl (by decide +kernel) rfl rfl rfl (Nat.le_of_ble_eq_true rfl) (by rw [R]; exact ⟨by decide, by decide⟩) (by rw [R]; exact ⟨by decide, by decide⟩) noX_kx (fun σ1 τ1 o1 hN1 => ?_)
  obtain ⟨e1, e2, hN⟩ := hN1
  rw [e1, e2]
  refine g_aload_n C dX0_isJoinedInCheapest_9 rfl rfl ?_
  refine g_getX C 17 dX0_isJoinedInCheapest_10 mwX0_isJoinedInCheapest_inX (by decide) mwX0_isJoinedInCheapest_f63 rfl rfl ?_
  refine g_iload_n C dX0_isJoinedInCheapest_13 rfl rfl ?_
  refine g_zaldN C (p) dX0_isJoinedInCheapest_14 rfl rfl (show p < 16 by omega) (by decide) ?_
  exact g_zret C F dX0_isJoinedInCheapest_15 (hN.2.2.2.1 p) (by decide) (by decide) ⟨_, rfl, (hN.2.2.2.2 p hp).2, rfl, rfl, hN⟩
set_option maxRecDepth 100000 in
theorem mwX0_setLimit_inX : ∀ w ∈ wsX00, w ∈ wsX0_setLimit := by decide +kernel
set_option maxRecDepth 100000 in
theorem mwX0_setLimit_f23 : Cond.fieldLink RX0 23 "TelegraphPrices" "limit" "I" ∈ wsX0_setLimit := by decide +kernel
set_option maxHeartbeats 4000000 in
set_option maxRecDepth 100000 in
theorem c_setLimit {l : Launch} (hl : l.stackTraces = false) (Γ : gG) (σ : gS) (τ : gT) (o : gO) (x : Int32) (h1 : ¬ x < 3) (h2 : x ≤ 15) : Ct l yX0_setLimit wsX0_setLimit 1 32 0 0 [.ref (Γ.2.1 100), .int x] Γ σ τ o (pE (some (.int (σ 4))) (uS σ 4 x) τ o) (noX) := by
  refine ct_of hl (by decide +kernel) rfl (Nat.le_of_ble_eq_true rfl) ?_
  intro E C F T hΓ hL R
  subst hΓ
  subst hL
  show G E 0 0 0 [(0, .ref ((eG E).2.1 100)), (1, .int x)] [] σ τ o
  refine g_iload_n C dX0_setLimit_0 rfl rfl ?_
  refine g_iconst (v := 3) C dX0_setLimit_1 (by decide) ?_
  refine g_icmp_lt (tgt := 11) C dX0_setLimit_2 (by decide) (fun c_2 => ?_) (fun c_2 => ?_)
  · exact absurd c_2 h1
  · refine g_iload_n C dX0_setLimit_5 rfl rfl ?_
    refine g_bipush (v := 15) C dX0_setLimit_6 (by decide) ?_
    refine g_icmp_le (tgt := 21) C dX0_setLimit_8 (by decide) (fun c_8 => ?_) (fun c_8 => ?_)
    · refine g_aload_n C dX0_setLimit_21 rfl rfl ?_
      refine g_getX C 4 dX0_setLimit_22 mwX0_setLimit_inX (by decide) mwX0_setLimit_f23 rfl rfl ?_
      refine g_istore_n C [(2, _), (0, _), (1, _)] dX0_setLimit_25 rfl (by decide) rfl ?_
      refine g_aload_n C dX0_setLimit_26 rfl rfl ?_
      refine g_iload_n C dX0_setLimit_27 rfl rfl ?_
      refine g_putX C 4 dX0_setLimit_28 mwX0_setLimit_inX (by decide) mwX0_setLimit_f23 rfl rfl (by decide +kernel) rfl ?_
      refine g_iload_n C dX0_setLimit_31 rfl rfl ?_
      exact g_iret C F dX0_setLimit_32 (by decide) (by decide) ⟨rfl, rfl, rfl, rfl⟩
    · exact absurd h2 c_8
set_option maxRecDepth 100000 in
theorem mwX0_setLimit_k66 : Cond.classLink RX0 66 "java/lang/IllegalArgumentException" ∈ wsX0_setLimit := by decide +kernel
set_option maxRecDepth 100000 in
theorem mwX0_setLimit_n66 : Cond.initialized "java/lang/IllegalArgumentException" ∈ wsX0_setLimit := by decide +kernel
set_option maxRecDepth 100000 in
theorem mwX0_setLimit_a66 : ∀ w ∈ (vx_atS RX0 70 "java/lang/IllegalArgumentException" ["java/lang/RuntimeException", "java/lang/Exception"]).filter goodWord, w ∈ wsX0_setLimit := by decide +kernel
set_option maxRecDepth 100000 in
theorem mwX0_setLeastCount_inX : ∀ w ∈ wsX00, w ∈ wsX0_setLeastCount := by decide +kernel
set_option maxRecDepth 100000 in
theorem mwX0_setLeastCount_f26 : Cond.fieldLink RX0 26 "TelegraphPrices" "leastCount" "I" ∈ wsX0_setLeastCount := by decide +kernel
set_option maxHeartbeats 4000000 in
set_option maxRecDepth 100000 in
theorem c_setLeastCount {l : Launch} (hl : l.stackTraces = false) (Γ : gG) (σ : gS) (τ : gT) (o : gO) (x : Int32) (h1 : ¬ x < 0) (h2 : x ≤ 20) : Ct l yX0_setLeastCount wsX0_setLeastCount 1 32 0 0 [.ref (Γ.2.1 100), .int x] Γ σ τ o (pE (some (.int (σ 5))) (uS σ 5 x) τ o) (noX) := by
  refine ct_of hl (by decide +kernel) rfl (Nat.le_of_ble_eq_true rfl) ?_
  intro E C F T hΓ hL R
  subst hΓ
  subst hL
  show G E 0 0 0 [(0, .ref ((eG E).2.1 100)), (1, .int x)] [] σ τ o
  refine g_iload_n C dX0_setLeastCount_0 rfl rfl ?_
  refine g_if_lt (tgt := 10) C dX0_setLeastCount_1 (by decide) (fun c_1 => ?_) (fun c_1 => ?_)
  · exact absurd c_1 h1
  · refine g_iload_n C dX0_setLeastCount_4 rfl rfl ?_
    refine g_bipush (v := 20) C dX0_setLeastCount_5 (by decide) ?_
    refine g_icmp_le (tgt := 20) C dX0_setLeastCount_7 (by decide) (fun c_7 => ?_) (fun c_7 => ?_)
    · refine g_aload_n C dX0_setLeastCount_20 rfl rfl ?_
      refine g_getX C 5 dX0_setLeastCount_21 mwX0_setLeastCount_inX (by decide) mwX0_setLeastCount_f26 rfl rfl ?_
      refine g_istore_n C [(2, _), (0, _), (1, _)] dX0_setLeastCount_24 rfl (by decide) rfl ?_
      refine g_aload_n C dX0_setLeastCount_25 rfl rfl ?_
      refine g_iload_n C dX0_setLeastCount_26 rfl rfl ?_
      refine g_putX C 5 dX0_setLeastCount_27 mwX0_setLeastCount_inX (by decide) mwX0_setLeastCount_f26 rfl rfl (by decide +kernel) rfl ?_
      refine g_iload_n C dX0_setLeastCount_30 rfl rfl ?_
      exact g_iret C F dX0_setLeastCount_31 (by decide) (by decide) ⟨rfl, rfl, rfl, rfl⟩
    · exact absurd h2 c_7
set_option maxRecDepth 100000 in
theorem mwX0_setLeastCount_k66 : Cond.classLink RX0 66 "java/lang/IllegalArgumentException" ∈ wsX0_setLeastCount := by decide +kernel
set_option maxRecDepth 100000 in
theorem mwX0_setLeastCount_n66 : Cond.initialized "java/lang/IllegalArgumentException" ∈ wsX0_setLeastCount := by decide +kernel
set_option maxRecDepth 100000 in
theorem mwX0_setLeastCount_a66 : ∀ w ∈ (vx_atS RX0 70 "java/lang/IllegalArgumentException" ["java/lang/RuntimeException", "java/lang/Exception"]).filter goodWord, w ∈ wsX0_setLeastCount := by decide +kernel
set_option maxRecDepth 100000 in
theorem mwX0_setCoins_inX : ∀ w ∈ wsX00, w ∈ wsX0_setCoins := by decide +kernel
set_option maxRecDepth 100000 in
theorem mwX0_setCoins_f29 : Cond.fieldLink RX0 29 "TelegraphPrices" "coins" "I" ∈ wsX0_setCoins := by decide +kernel
set_option maxHeartbeats 4000000 in
set_option maxRecDepth 100000 in
theorem c_setCoins {l : Launch} (hl : l.stackTraces = false) (Γ : gG) (σ : gS) (τ : gT) (o : gO) (x : Int32) (h1 : ¬ x < 1) (h2 : x ≤ 50) : Ct l yX0_setCoins wsX0_setCoins 1 32 0 0 [.ref (Γ.2.1 100), .int x] Γ σ τ o (pE (some (.int (σ 6))) (uS σ 6 x) τ o) (noX) := by
  refine ct_of hl (by decide +kernel) rfl (Nat.le_of_ble_eq_true rfl) ?_
  intro E C F T hΓ hL R
  subst hΓ
  subst hL
  show G E 0 0 0 [(0, .ref ((eG E).2.1 100)), (1, .int x)] [] σ τ o
  refine g_iload_n C dX0_setCoins_0 rfl rfl ?_
  refine g_iconst (v := 1) C dX0_setCoins_1 (by decide) ?_
  refine g_icmp_lt (tgt := 11) C dX0_setCoins_2 (by decide) (fun c_2 => ?_) (fun c_2 => ?_)
  · exact absurd c_2 h1
  · refine g_iload_n C dX0_setCoins_5 rfl rfl ?_
    refine g_bipush (v := 50) C dX0_setCoins_6 (by decide) ?_
    refine g_icmp_le (tgt := 21) C dX0_setCoins_8 (by decide) (fun c_8 => ?_) (fun c_8 => ?_)
    · refine g_aload_n C dX0_setCoins_21 rfl rfl ?_
      refine g_getX C 6 dX0_setCoins_22 mwX0_setCoins_inX (by decide) mwX0_setCoins_f29 rfl rfl ?_
      refine g_istore_n C [(2, _), (0, _), (1, _)] dX0_setCoins_25 rfl (by decide) rfl ?_
      refine g_aload_n C dX0_setCoins_26 rfl rfl ?_
      refine g_iload_n C dX0_setCoins_27 rfl rfl ?_
      refine g_putX C 6 dX0_setCoins_28 mwX0_setCoins_inX (by decide) mwX0_setCoins_f29 rfl rfl (by decide +kernel) rfl ?_
      refine g_iload_n C dX0_setCoins_31 rfl rfl ?_
      exact g_iret C F dX0_setCoins_32 (by decide) (by decide) ⟨rfl, rfl, rfl, rfl⟩
    · exact absurd h2 c_8
set_option maxRecDepth 100000 in
theorem mwX0_setCoins_k66 : Cond.classLink RX0 66 "java/lang/IllegalArgumentException" ∈ wsX0_setCoins := by decide +kernel
set_option maxRecDepth 100000 in
theorem mwX0_setCoins_n66 : Cond.initialized "java/lang/IllegalArgumentException" ∈ wsX0_setCoins := by decide +kernel
set_option maxRecDepth 100000 in
theorem mwX0_setCoins_a66 : ∀ w ∈ (vx_atS RX0 70 "java/lang/IllegalArgumentException" ["java/lang/RuntimeException", "java/lang/Exception"]).filter goodWord, w ∈ wsX0_setCoins := by decide +kernel
set_option maxRecDepth 100000 in
theorem mwX0_addWord_inX : ∀ w ∈ wsX00, w ∈ wsX0_addWord := by decide +kernel
set_option maxRecDepth 100000 in
theorem mwX0_addWord_f19 : Cond.fieldLink RX0 19 "TelegraphPrices" "words" "I" ∈ wsX0_addWord := by decide +kernel
set_option maxRecDepth 100000 in
theorem mwX0_addWord_f9 : Cond.fieldLink RX0 9 "TelegraphPrices" "letters" "[I" ∈ wsX0_addWord := by decide +kernel
set_option maxRecDepth 100000 in
theorem mwX0_addWord_f13 : Cond.fieldLink RX0 13 "TelegraphPrices" "standIns" "[I" ∈ wsX0_addWord := by decide +kernel
set_option maxRecDepth 100000 in
theorem mwX0_addWord_f16 : Cond.fieldLink RX0 16 "TelegraphPrices" "joins" "[I" ∈ wsX0_addWord := by decide +kernel
set_option maxHeartbeats 4000000 in
set_option maxRecDepth 100000 in
theorem c_addWord {l : Launch} (hl : l.stackTraces = false) (Γ : gG) (σ : gS) (τ : gT) (o : gO) (nw nl lm : Nat) (x : Int32) (I : IX σ τ nw nl lm) (h1 : ¬ x < 1) (h2 : x ≤ 30) (hw : nw < 12) : Ct l yX0_addWord wsX0_addWord 1 32 0 0 [.ref (Γ.2.1 100), .int x] Γ σ τ o (pE (some (.int (nI nw))) (uS σ 3 (nI (nw + 1))) (uT (uT (uT τ 0 nw x) 1 nw ((1 : Int32) <<< (nI nw &&& 31))) 2 nw 0) o) (noX) := by
  refine ct_of hl (by decide +kernel) rfl (Nat.le_of_ble_eq_true rfl) ?_
  intro E C F T hΓ hL R
  subst hΓ
  subst hL
  show G E 0 0 0 [(0, .ref ((eG E).2.1 100)), (1, .int x)] [] σ τ o
  have hnw := Iv_nw I
  have hnl := Iv_nl I
  have h3 : σ 3 = nI nw := Iv_h3 I
  have h9 : σ 9 = nI nl := Iv_h9 I
  have h4 : ¬ σ 4 = 0 := Iv_ne I
  refine g_iload_n C dX0_addWord_0 rfl rfl ?_
  refine g_iconst (v := 1) C dX0_addWord_1 (by decide) ?_
  refine g_icmp_lt (tgt := 11) C dX0_addWord_2 (by decide) (fun c_2 => ?_) (fun c_2 => ?_)
  · exact absurd c_2 h1
  · refine g_iload_n C dX0_addWord_5 rfl rfl ?_
    refine g_bipush (v := 30) C dX0_addWord_6 (by decide) ?_
    refine g_icmp_le (tgt := 21) C dX0_addWord_8 (by decide) (fun c_8 => ?_) (fun c_8 => ?_)
    · refine g_aload_n C dX0_addWord_21 rfl rfl ?_
      refine g_getX C 3 dX0_addWord_22 mwX0_addWord_inX (by decide) mwX0_addWord_f19 rfl rfl ?_
      refine g_bipush (v := 12) C dX0_addWord_25 (by decide) ?_
      refine g_icmp_lt (tgt := 40) C dX0_addWord_27 (by decide) (fun c_27 => ?_) (fun c_27 => ?_)
      · refine g_aload_n C dX0_addWord_40 rfl rfl ?_
        refine g_getX C 3 dX0_addWord_41 mwX0_addWord_inX (by decide) mwX0_addWord_f19 rfl rfl ?_
        refine g_topi h3 ?_
        refine g_istore_n C [(2, _), (0, _), (1, _)] dX0_addWord_44 rfl (by decide) rfl ?_
        refine g_aload_n C dX0_addWord_45 rfl rfl ?_
        refine g_getX C 0 dX0_addWord_46 mwX0_addWord_inX (by decide) mwX0_addWord_f9 rfl rfl ?_
        refine g_iload_n C dX0_addWord_49 rfl rfl ?_
        refine g_iload_n C dX0_addWord_50 rfl rfl ?_
        refine g_iastN C (nw) dX0_addWord_51 rfl rfl hw (by decide) rfl ?_
        refine g_aload_n C dX0_addWord_52 rfl rfl ?_
        refine g_getX C 1 dX0_addWord_53 mwX0_addWord_inX (by decide) mwX0_addWord_f13 rfl rfl ?_
        refine g_iload_n C dX0_addWord_56 rfl rfl ?_
        refine g_iconst (v := 1) C dX0_addWord_57 (by decide) ?_
        refine g_iload_n C dX0_addWord_58 rfl rfl ?_
        refine g_ishl C dX0_addWord_59 ?_
        refine g_iastN C (nw) dX0_addWord_60 rfl rfl hw (by decide) rfl ?_
        refine g_aload_n C dX0_addWord_61 rfl rfl ?_
        refine g_getX C 2 dX0_addWord_62 mwX0_addWord_inX (by decide) mwX0_addWord_f16 rfl rfl ?_
        refine g_iload_n C dX0_addWord_65 rfl rfl ?_
        refine g_iconst (v := 0) C dX0_addWord_66 (by decide) ?_
        refine g_iastN C (nw) dX0_addWord_67 rfl rfl hw (by decide) rfl ?_
        refine g_aload_n C dX0_addWord_68 rfl rfl ?_
        refine g_dup C dX0_addWord_69 rfl ?_
        refine g_getX C 3 dX0_addWord_70 mwX0_addWord_inX (by decide) mwX0_addWord_f19 rfl rfl ?_
        refine g_iconst (v := 1) C dX0_addWord_73 (by decide) ?_
        refine g_iadd C dX0_addWord_74 ?_
        refine g_topi (show _ = nI (nw + 1) by rw [h3]; exact nI_1 nw) ?_
        refine g_putX C 3 dX0_addWord_75 mwX0_addWord_inX (by decide) mwX0_addWord_f19 rfl rfl (by decide +kernel) rfl ?_
        refine g_iload_n C dX0_addWord_78 rfl rfl ?_
        exact g_iret C F dX0_addWord_79 (by decide) (by decide) ⟨rfl, rfl, rfl, rfl⟩
      · exact absurd (by rw [h3]; exact nI_lt hw (by decide)) c_27
    · exact absurd h2 c_8
set_option maxRecDepth 100000 in
theorem mwX0_addWord_k66 : Cond.classLink RX0 66 "java/lang/IllegalArgumentException" ∈ wsX0_addWord := by decide +kernel
set_option maxRecDepth 100000 in
theorem mwX0_addWord_n66 : Cond.initialized "java/lang/IllegalArgumentException" ∈ wsX0_addWord := by decide +kernel
set_option maxRecDepth 100000 in
theorem mwX0_addWord_a66 : ∀ w ∈ (vx_atS RX0 70 "java/lang/IllegalArgumentException" ["java/lang/RuntimeException", "java/lang/Exception"]).filter goodWord, w ∈ wsX0_addWord := by decide +kernel
set_option maxRecDepth 100000 in
theorem mwX0_addWord_k73 : Cond.classLink RX0 73 "java/lang/IllegalStateException" ∈ wsX0_addWord := by decide +kernel
set_option maxRecDepth 100000 in
theorem mwX0_addWord_n73 : Cond.initialized "java/lang/IllegalStateException" ∈ wsX0_addWord := by decide +kernel
set_option maxRecDepth 100000 in
theorem mwX0_addWord_a73 : ∀ w ∈ (vx_atS RX0 77 "java/lang/IllegalStateException" ["java/lang/RuntimeException", "java/lang/Exception"]).filter goodWord, w ∈ wsX0_addWord := by decide +kernel
set_option maxRecDepth 100000 in
theorem mwX0_turnStandIn_inX : ∀ w ∈ wsX00, w ∈ wsX0_turnStandIn := by decide +kernel
set_option maxRecDepth 100000 in
theorem mwX0_turnStandIn_f13 : Cond.fieldLink RX0 13 "TelegraphPrices" "standIns" "[I" ∈ wsX0_turnStandIn := by decide +kernel
set_option maxHeartbeats 4000000 in
set_option maxRecDepth 100000 in
theorem c_turnStandIn {l : Launch} (hl : l.stackTraces = false) (Γ : gG) (σ : gS) (τ : gT) (o : gO) (nw nl lm : Nat) (a b : Nat) (I : IX σ τ nw nl lm) (ha : a < nw) (hb9 : b < nw) (hne : a ≠ b) : Ct l yX0_turnStandIn wsX0_turnStandIn 2 64 0 0 [.ref (Γ.2.1 100), .int (nI a), .int (nI b)] Γ σ τ o (pE (some (.int (hb (τ 1 a ^^^ ((1 : Int32) <<< (nI b &&& 31))) (nI b)))) σ (uT τ 1 a (τ 1 a ^^^ ((1 : Int32) <<< (nI b &&& 31)))) o) (noX) := by
  refine ct_of hl (by decide +kernel) rfl (Nat.le_of_ble_eq_true rfl) ?_
  intro E C F T hΓ hL R
  subst hΓ
  subst hL
  show G E 0 0 0 [(0, .ref ((eG E).2.1 100)), (1, .int (nI a)), (2, .int (nI b))] [] σ τ o
  have hnw := Iv_nw I
  have hnl := Iv_nl I
  have h3 : σ 3 = nI nw := Iv_h3 I
  have h9 : σ 9 = nI nl := Iv_h9 I
  have h4 : ¬ σ 4 = 0 := Iv_ne I
  refine g_aload_n C dX0_turnStandIn_0 rfl rfl ?_
  refine g_iload_n C dX0_turnStandIn_1 rfl rfl ?_
  refine g_callVEv (Cl := RX0) (T := TX0) (N := 18) (ci := 0) (q0 := 0) (na := 1) C dX0_turnStandIn_2 (c_needWord hl (eG E) σ τ o _ (nI_pos (show a < 2 ^ 31 by omega)) (by rw [h3]; exact nI_lt (by omega) (by omega))) gX0_turnStandIn_X0_needWord rfl rfl (by decide +kernel) rfl rfl rfl (Nat.le_of_ble_eq_true rfl) (by rw [R]; exact ⟨by decide, by decide⟩) (by rw [R]; exact ⟨by decide, by decide⟩) ?_
  refine g_aload_n C dX0_turnStandIn_5 rfl rfl ?_
  refine g_iload_n C dX0_turnStandIn_6 rfl rfl ?_
  refine g_callVEv (Cl := RX0) (T := TX0) (N := 18) (ci := 0) (q0 := 0) (na := 1) C dX0_turnStandIn_7 (c_needWord hl (eG E) σ τ o _ (nI_pos (show b < 2 ^ 31 by omega)) (by rw [h3]; exact nI_lt (by omega) (by omega))) gX0_turnStandIn_X0_needWord rfl rfl (by decide +kernel) rfl rfl rfl (Nat.le_of_ble_eq_true rfl) (by rw [R]; exact ⟨by decide, by decide⟩) (by rw [R]; exact ⟨by decide, by decide⟩) ?_
  refine g_iload_n C dX0_turnStandIn_10 rfl rfl ?_
  refine g_iload_n C dX0_turnStandIn_11 rfl rfl ?_
  refine g_icmp_ne (tgt := 25) C dX0_turnStandIn_12 (by decide) (fun c_12 => ?_) (fun c_12 => ?_)
  · refine g_aload_n C dX0_turnStandIn_25 rfl rfl ?_
    refine g_getX C 1 dX0_turnStandIn_26 mwX0_turnStandIn_inX (by decide) mwX0_turnStandIn_f13 rfl rfl ?_
    refine g_iload_n C dX0_turnStandIn_29 rfl rfl ?_
    refine g_dup2 C dX0_turnStandIn_30 rfl rfl ?_
    refine g_ialdN C (a) dX0_turnStandIn_31 rfl rfl (show a < 12 by omega) (by decide) ?_
    refine g_iconst (v := 1) C dX0_turnStandIn_32 (by decide) ?_
    refine g_iload_n C dX0_turnStandIn_33 rfl rfl ?_
    refine g_ishl C dX0_turnStandIn_34 ?_
    refine g_ixor C dX0_turnStandIn_35 ?_
    refine g_iastN C (a) dX0_turnStandIn_36 rfl rfl (show a < 12 by omega) (by decide) rfl ?_
    refine g_aload_n C dX0_turnStandIn_37 rfl rfl ?_
    refine g_getX C 1 dX0_turnStandIn_38 mwX0_turnStandIn_inX (by decide) mwX0_turnStandIn_f13 rfl rfl ?_
    refine g_iload_n C dX0_turnStandIn_41 rfl rfl ?_
    refine g_ialdN C (a) dX0_turnStandIn_42 rfl rfl (show a < 12 by omega) (by decide) ?_
    refine g_topi (show _ = (τ 1 a ^^^ ((1 : Int32) <<< (nI b &&& 31))) by rw [uT_eq, upd_eq]) ?_
    refine g_iload_n C dX0_turnStandIn_43 rfl rfl ?_
    refine g_callSEi (na := 2) C dX0_turnStandIn_44 (c_hasBit hl (eG E) σ (uT τ 1 a (τ 1 a ^^^ ((1 : Int32) <<< (nI b &&& 31)))) o _ _) gX0_turnStandIn_X0_hasBit rfl rfl (by decide +kernel) rfl (Nat.le_of_ble_eq_true rfl) (by rw [R]; exact ⟨by decide, by decide⟩) (by rw [R]; exact ⟨by decide, by decide⟩) ?_
    exact g_zret C F dX0_turnStandIn_47 (hb_01 _ _) (by decide) (by decide) ⟨rfl, rfl, rfl, rfl⟩
  · exact absurd ((nI_eq (show a < 2 ^ 31 by omega) (show b < 2 ^ 31 by omega)).mp c_12) hne
set_option maxRecDepth 100000 in
theorem mwX0_turnJoin_inX : ∀ w ∈ wsX00, w ∈ wsX0_turnJoin := by decide +kernel
set_option maxRecDepth 100000 in
theorem mwX0_turnJoin_f16 : Cond.fieldLink RX0 16 "TelegraphPrices" "joins" "[I" ∈ wsX0_turnJoin := by decide +kernel
set_option maxHeartbeats 4000000 in
set_option maxRecDepth 100000 in
theorem c_turnJoin {l : Launch} (hl : l.stackTraces = false) (Γ : gG) (σ : gS) (τ : gT) (o : gO) (nw nl lm : Nat) (a b : Nat) (I : IX σ τ nw nl lm) (ha : a < nw) (hb9 : b < nw) : Ct l yX0_turnJoin wsX0_turnJoin 2 64 0 0 [.ref (Γ.2.1 100), .int (nI a), .int (nI b)] Γ σ τ o (pE (some (.int (hb (τ 2 a ^^^ ((1 : Int32) <<< (nI b &&& 31))) (nI b)))) σ (uT τ 2 a (τ 2 a ^^^ ((1 : Int32) <<< (nI b &&& 31)))) o) (noX) := by
  refine ct_of hl (by decide +kernel) rfl (Nat.le_of_ble_eq_true rfl) ?_
  intro E C F T hΓ hL R
  subst hΓ
  subst hL
  show G E 0 0 0 [(0, .ref ((eG E).2.1 100)), (1, .int (nI a)), (2, .int (nI b))] [] σ τ o
  have hnw := Iv_nw I
  have hnl := Iv_nl I
  have h3 : σ 3 = nI nw := Iv_h3 I
  have h9 : σ 9 = nI nl := Iv_h9 I
  have h4 : ¬ σ 4 = 0 := Iv_ne I
  refine g_aload_n C dX0_turnJoin_0 rfl rfl ?_
  refine g_iload_n C dX0_turnJoin_1 rfl rfl ?_
  refine g_callVEv (Cl := RX0) (T := TX0) (N := 18) (ci := 0) (q0 := 0) (na := 1) C dX0_turnJoin_2 (c_needWord hl (eG E) σ τ o _ (nI_pos (show a < 2 ^ 31 by omega)) (by rw [h3]; exact nI_lt (by omega) (by omega))) gX0_turnJoin_X0_needWord rfl rfl (by decide +kernel) rfl rfl rfl (Nat.le_of_ble_eq_true rfl) (by rw [R]; exact ⟨by decide, by decide⟩) (by rw [R]; exact ⟨by decide, by decide⟩) ?_
  refine g_aload_n C dX0_turnJoin_5 rfl rfl ?_
  refine g_iload_n C dX0_turnJoin_6 rfl rfl ?_
  refine g_callVEv (Cl := RX0) (T := TX0) (N := 18) (ci := 0) (q0 := 0) (na := 1) C dX0_turnJoin_7 (c_needWord hl (eG E) σ τ o _ (nI_pos (show b < 2 ^ 31 by omega)) (by rw [h3]; exact nI_lt (by omega) (by omega))) gX0_turnJoin_X0_needWord rfl rfl (by decide +kernel) rfl rfl rfl (Nat.le_of_ble_eq_true rfl) (by rw [R]; exact ⟨by decide, by decide⟩) (by rw [R]; exact ⟨by decide, by decide⟩) ?_
  refine g_aload_n C dX0_turnJoin_10 rfl rfl ?_
  refine g_getX C 2 dX0_turnJoin_11 mwX0_turnJoin_inX (by decide) mwX0_turnJoin_f16 rfl rfl ?_
  refine g_iload_n C dX0_turnJoin_14 rfl rfl ?_
  refine g_dup2 C dX0_turnJoin_15 rfl rfl ?_
  refine g_ialdN C (a) dX0_turnJoin_16 rfl rfl (show a < 12 by omega) (by decide) ?_
  refine g_iconst (v := 1) C dX0_turnJoin_17 (by decide) ?_
  refine g_iload_n C dX0_turnJoin_18 rfl rfl ?_
  refine g_ishl C dX0_turnJoin_19 ?_
  refine g_ixor C dX0_turnJoin_20 ?_
  refine g_iastN C (a) dX0_turnJoin_21 rfl rfl (show a < 12 by omega) (by decide) rfl ?_
  refine g_aload_n C dX0_turnJoin_22 rfl rfl ?_
  refine g_getX C 2 dX0_turnJoin_23 mwX0_turnJoin_inX (by decide) mwX0_turnJoin_f16 rfl rfl ?_
  refine g_iload_n C dX0_turnJoin_26 rfl rfl ?_
  refine g_ialdN C (a) dX0_turnJoin_27 rfl rfl (show a < 12 by omega) (by decide) ?_
  refine g_topi (show _ = (τ 2 a ^^^ ((1 : Int32) <<< (nI b &&& 31))) by rw [uT_eq, upd_eq]) ?_
  refine g_iload_n C dX0_turnJoin_28 rfl rfl ?_
  refine g_callSEi (na := 2) C dX0_turnJoin_29 (c_hasBit hl (eG E) σ (uT τ 2 a (τ 2 a ^^^ ((1 : Int32) <<< (nI b &&& 31)))) o _ _) gX0_turnJoin_X0_hasBit rfl rfl (by decide +kernel) rfl (Nat.le_of_ble_eq_true rfl) (by rw [R]; exact ⟨by decide, by decide⟩) (by rw [R]; exact ⟨by decide, by decide⟩) ?_
  exact g_zret C F dX0_turnJoin_32 (hb_01 _ _) (by decide) (by decide) ⟨rfl, rfl, rfl, rfl⟩
set_option maxRecDepth 100000 in
theorem mwX0_turnStandIn_k66 : Cond.classLink RX0 66 "java/lang/IllegalArgumentException" ∈ wsX0_turnStandIn := by decide +kernel
set_option maxRecDepth 100000 in
theorem mwX0_turnStandIn_n66 : Cond.initialized "java/lang/IllegalArgumentException" ∈ wsX0_turnStandIn := by decide +kernel
set_option maxRecDepth 100000 in
theorem mwX0_turnStandIn_a66 : ∀ w ∈ (vx_atS RX0 70 "java/lang/IllegalArgumentException" ["java/lang/RuntimeException", "java/lang/Exception"]).filter goodWord, w ∈ wsX0_turnStandIn := by decide +kernel
set_option maxRecDepth 100000 in
theorem mwX0_write_inX : ∀ w ∈ wsX00, w ∈ wsX0_write := by decide +kernel
set_option maxRecDepth 100000 in
theorem mwX0_write_f39 : Cond.fieldLink RX0 39 "TelegraphPrices" "length" "I" ∈ wsX0_write := by decide +kernel
set_option maxRecDepth 100000 in
theorem mwX0_write_f32 : Cond.fieldLink RX0 32 "TelegraphPrices" "telegram" "[I" ∈ wsX0_write := by decide +kernel
set_option maxRecDepth 100000 in
theorem mwX0_write_f35 : Cond.fieldLink RX0 35 "TelegraphPrices" "joined" "[Z" ∈ wsX0_write := by decide +kernel
set_option maxHeartbeats 4000000 in
set_option maxRecDepth 100000 in
theorem c_write {l : Launch} (hl : l.stackTraces = false) (Γ : gG) (σ : gS) (τ : gT) (o : gO) (nw nl lm : Nat) (a : Nat) (I : IX σ τ nw nl lm) (ha : a < nw) (h16 : nl < 16) : Ct l yX0_write wsX0_write 2 64 0 0 [.ref (Γ.2.1 100), .int (nI a)] Γ σ τ o (pE (some (.int (nI (nl + 1)))) (uS σ 9 (nI (nl + 1))) (uT (uT τ 7 nl (nI a)) 8 nl 0) o) (noX) := by
  refine ct_of hl (by decide +kernel) rfl (Nat.le_of_ble_eq_true rfl) ?_
  intro E C F T hΓ hL R
  subst hΓ
  subst hL
  show G E 0 0 0 [(0, .ref ((eG E).2.1 100)), (1, .int (nI a))] [] σ τ o
  have hnw := Iv_nw I
  have hnl := Iv_nl I
  have h3 : σ 3 = nI nw := Iv_h3 I
  have h9 : σ 9 = nI nl := Iv_h9 I
  have h4 : ¬ σ 4 = 0 := Iv_ne I
  refine g_aload_n C dX0_write_0 rfl rfl ?_
  refine g_iload_n C dX0_write_1 rfl rfl ?_
  refine g_callVEv (Cl := RX0) (T := TX0) (N := 18) (ci := 0) (q0 := 0) (na := 1) C dX0_write_2 (c_needWord hl (eG E) σ τ o _ (nI_pos (show a < 2 ^ 31 by omega)) (by rw [h3]; exact nI_lt (by omega) (by omega))) gX0_write_X0_needWord rfl rfl (by decide +kernel) rfl rfl rfl (Nat.le_of_ble_eq_true rfl) (by rw [R]; exact ⟨by decide, by decide⟩) (by rw [R]; exact ⟨by decide, by decide⟩) ?_
  refine g_aload_n C dX0_write_5 rfl rfl ?_
  refine g_getX C 9 dX0_write_6 mwX0_write_inX (by decide) mwX0_write_f39 rfl rfl ?_
  refine g_bipush (v := 16) C dX0_write_9 (by decide) ?_
  refine g_icmp_lt (tgt := 24) C dX0_write_11 (by decide) (fun c_11 => ?_) (fun c_11 => ?_)
  · refine g_aload_n C dX0_write_24 rfl rfl ?_
    refine g_getX C 7 dX0_write_25 mwX0_write_inX (by decide) mwX0_write_f32 rfl rfl ?_
    refine g_aload_n C dX0_write_28 rfl rfl ?_
    refine g_getX C 9 dX0_write_29 mwX0_write_inX (by decide) mwX0_write_f39 rfl rfl ?_
    refine g_topi h9 ?_
    refine g_iload_n C dX0_write_32 rfl rfl ?_
    refine g_iastN C (nl) dX0_write_33 rfl rfl h16 (by decide) rfl ?_
    refine g_aload_n C dX0_write_34 rfl rfl ?_
    refine g_getX C 8 dX0_write_35 mwX0_write_inX (by decide) mwX0_write_f35 rfl rfl ?_
    refine g_aload_n C dX0_write_38 rfl rfl ?_
    refine g_getX C 9 dX0_write_39 mwX0_write_inX (by decide) mwX0_write_f39 rfl rfl ?_
    refine g_topi h9 ?_
    refine g_iconst (v := 0) C dX0_write_42 (by decide) ?_
    refine g_zastN C (nl) dX0_write_43 rfl rfl h16 (by decide) (Or.inl rfl) rfl ?_
    refine g_aload_n C dX0_write_44 rfl rfl ?_
    refine g_dup C dX0_write_45 rfl ?_
    refine g_getX C 9 dX0_write_46 mwX0_write_inX (by decide) mwX0_write_f39 rfl rfl ?_
    refine g_iconst (v := 1) C dX0_write_49 (by decide) ?_
    refine g_iadd C dX0_write_50 ?_
    refine g_topi (show _ = nI (nl + 1) by rw [h9]; exact nI_1 nl) ?_
    refine g_putX C 9 dX0_write_51 mwX0_write_inX (by decide) mwX0_write_f39 rfl rfl (by decide +kernel) rfl ?_
    refine g_aload_n C dX0_write_54 rfl rfl ?_
    refine g_getX C 9 dX0_write_55 mwX0_write_inX (by decide) mwX0_write_f39 rfl rfl ?_
    exact g_iret C F dX0_write_58 (by decide) (by decide) ⟨rfl, rfl, rfl, rfl⟩
  · exact absurd (by rw [h9]; exact nI_lt h16 (by decide)) c_11
set_option maxRecDepth 100000 in
theorem mwX0_write_k73 : Cond.classLink RX0 73 "java/lang/IllegalStateException" ∈ wsX0_write := by decide +kernel
set_option maxRecDepth 100000 in
theorem mwX0_write_n73 : Cond.initialized "java/lang/IllegalStateException" ∈ wsX0_write := by decide +kernel
set_option maxRecDepth 100000 in
theorem mwX0_write_a73 : ∀ w ∈ (vx_atS RX0 77 "java/lang/IllegalStateException" ["java/lang/RuntimeException", "java/lang/Exception"]).filter goodWord, w ∈ wsX0_write := by decide +kernel
set_option maxRecDepth 100000 in
theorem mwX0_send_inX : ∀ w ∈ wsX00, w ∈ wsX0_send := by decide +kernel
set_option maxRecDepth 100000 in
theorem mwX0_send_f39 : Cond.fieldLink RX0 39 "TelegraphPrices" "length" "I" ∈ wsX0_send := by decide +kernel
set_option maxRecDepth 100000 in
theorem mwX0_send_f42 : Cond.fieldLink RX0 42 "TelegraphPrices" "sent" "I" ∈ wsX0_send := by decide +kernel
set_option maxRecDepth 100000 in
theorem mwX0_send_f45 : Cond.fieldLink RX0 45 "TelegraphPrices" "earned" "I" ∈ wsX0_send := by decide +kernel
set_option maxHeartbeats 4000000 in
set_option maxRecDepth 100000 in
theorem c_send {l : Launch} (hl : l.stackTraces = false) (Γ : gG) (σ : gS) (τ : gT) (o : gO) (nw nl lm : Nat) (z : Int32) (I : IX σ τ nw nl lm) (hz : ¬ z < 0 ∧ z < 4) (h0 : nl ≠ 0) : Ct l yX0_send wsX0_send 6 192 0 0 [.ref (Γ.2.1 100), .int z] Γ σ τ o (pE (some (.int (CTx σ τ nl * σ 6 * (z + 2) / 2))) (uS (uS (uS σ 10 (σ 10 + 1)) 11 (σ 11 + CTx σ τ nl * σ 6 * (z + 2) / 2)) 9 0) τ o) (noX) := by
  refine ct_of hl (by decide +kernel) rfl (Nat.le_of_ble_eq_true rfl) ?_
  intro E C F T hΓ hL R
  subst hΓ
  subst hL
  show G E 0 0 0 [(0, .ref ((eG E).2.1 100)), (1, .int z)] [] σ τ o
  have hnw := Iv_nw I
  have hnl := Iv_nl I
  have h3 : σ 3 = nI nw := Iv_h3 I
  have h9 : σ 9 = nI nl := Iv_h9 I
  have h4 : ¬ σ 4 = 0 := Iv_ne I
  refine g_aload_n C dX0_send_0 rfl rfl ?_
  refine g_iload_n C dX0_send_1 rfl rfl ?_
  refine g_callVEi (Cl := RX0) (T := TX0) (N := 18) (ci := 0) (q0 := 0) (na := 1) C dX0_send_2 (c_priceTo hl (eG E) σ τ o nw nl lm z I hz) gX0_send_X0_priceTo rfl rfl (by decide +kernel) rfl rfl rfl (Nat.le_of_ble_eq_true rfl) (by rw [R]; exact ⟨by decide, by decide⟩) (by rw [R]; exact ⟨by decide, by decide⟩) ?_
  refine g_istore_n C [(2, _), (0, _), (1, _)] dX0_send_5 rfl (by decide) rfl ?_
  refine g_aload_n C dX0_send_6 rfl rfl ?_
  refine g_getX C 9 dX0_send_7 mwX0_send_inX (by decide) mwX0_send_f39 rfl rfl ?_
  refine g_if_ne (tgt := 23) C dX0_send_10 (by decide) (fun c_10 => ?_) (fun c_10 => ?_)
  · refine g_aload_n C dX0_send_23 rfl rfl ?_
    refine g_dup C dX0_send_24 rfl ?_
    refine g_getX C 10 dX0_send_25 mwX0_send_inX (by decide) mwX0_send_f42 rfl rfl ?_
    refine g_iconst (v := 1) C dX0_send_28 (by decide) ?_
    refine g_iadd C dX0_send_29 ?_
    refine g_putX C 10 dX0_send_30 mwX0_send_inX (by decide) mwX0_send_f42 rfl rfl (by decide +kernel) rfl ?_
    refine g_aload_n C dX0_send_33 rfl rfl ?_
    refine g_dup C dX0_send_34 rfl ?_
    refine g_getX C 11 dX0_send_35 mwX0_send_inX (by decide) mwX0_send_f45 rfl rfl ?_
    refine g_iload_n C dX0_send_38 rfl rfl ?_
    refine g_iadd C dX0_send_39 ?_
    refine g_putX C 11 dX0_send_40 mwX0_send_inX (by decide) mwX0_send_f45 rfl rfl (by decide +kernel) rfl ?_
    refine g_aload_n C dX0_send_43 rfl rfl ?_
    refine g_iconst (v := 0) C dX0_send_44 (by decide) ?_
    refine g_putX C 9 dX0_send_45 mwX0_send_inX (by decide) mwX0_send_f39 rfl rfl (by decide +kernel) rfl ?_
    refine g_iload_n C dX0_send_48 rfl rfl ?_
    exact g_iret C F dX0_send_49 (by decide) (by decide) ⟨rfl, rfl, rfl, rfl⟩
  · exact absurd (by rw [← h9]; exact c_10) (nI_ne0 (Nat.pos_of_ne_zero h0) (by omega))
set_option maxRecDepth 100000 in
theorem mwX0_send_k73 : Cond.classLink RX0 73 "java/lang/IllegalStateException" ∈ wsX0_send := by decide +kernel
set_option maxRecDepth 100000 in
theorem mwX0_send_n73 : Cond.initialized "java/lang/IllegalStateException" ∈ wsX0_send := by decide +kernel
set_option maxRecDepth 100000 in
theorem mwX0_send_a73 : ∀ w ∈ (vx_atS RX0 77 "java/lang/IllegalStateException" ["java/lang/RuntimeException", "java/lang/Exception"]).filter goodWord, w ∈ wsX0_send := by decide +kernel
/-- may the place be joined with the next one -/
def cbj (J Tg Jd : Nat → Int32) (p : Nat) : Int32 := if (p ≠ 0 ∧ Jd (p - 1) ≠ 0) ∨ Jd (p + 1) ≠ 0 then 0 else hb (J (Tg p).toNatClampNeg) (Tg (p + 1))
theorem cbj_01 (J Tg Jd : Nat → Int32) (p : Nat) : cbj J Tg Jd p = 0 ∨ cbj J Tg Jd p = 1 := by
  unfold cbj
  split
  · exact Or.inl rfl
  · exact hb_01 _ _
theorem nI_m1 {p : Nat} (h : p ≠ 0) : nI p - 1 = nI (p - 1) := by
  obtain ⟨q, rfl⟩ : ∃ q, p = q + 1 := ⟨p - 1, by omega⟩
  exact nI_pred q
set_option maxRecDepth 100000 in
theorem mwX0_couldBeJoined_inX : ∀ w ∈ wsX00, w ∈ wsX0_couldBeJoined := by decide +kernel
set_option maxRecDepth 100000 in
theorem mwX0_couldBeJoined_f35 : Cond.fieldLink RX0 35 "TelegraphPrices" "joined" "[Z" ∈ wsX0_couldBeJoined := by decide +kernel
set_option maxRecDepth 100000 in
theorem mwX0_couldBeJoined_f16 : Cond.fieldLink RX0 16 "TelegraphPrices" "joins" "[I" ∈ wsX0_couldBeJoined := by decide +kernel
set_option maxRecDepth 100000 in
theorem mwX0_couldBeJoined_f32 : Cond.fieldLink RX0 32 "TelegraphPrices" "telegram" "[I" ∈ wsX0_couldBeJoined := by decide +kernel
set_option maxHeartbeats 4000000 in
set_option maxRecDepth 100000 in
theorem c_couldBe {l : Launch} (hl : l.stackTraces = false) (Γ : gG) (σ : gS) (τ : gT) (o : gO) (nw nl lm : Nat) (p : Nat) (I : IX σ τ nw nl lm) (hp : p + 1 < nl) : Ct l yX0_couldBeJoined wsX0_couldBeJoined 2 64 0 0 [.ref (Γ.2.1 100), .int (nI p)] Γ σ τ o (pE (some (.int (cbj (τ 2) (τ 7) (τ 8) p))) σ τ o) (noX) := by
  refine ct_of hl (by decide +kernel) rfl (Nat.le_of_ble_eq_true rfl) ?_
  intro E C F T hΓ hL R
  subst hΓ
  subst hL
  show G E 0 0 0 [(0, .ref ((eG E).2.1 100)), (1, .int (nI p))] [] σ τ o
  have hnw := Iv_nw I
  have hnl := Iv_nl I
  have h3 : σ 3 = nI nw := Iv_h3 I
  have h9 : σ 9 = nI nl := Iv_h9 I
  have h4 : ¬ σ 4 = 0 := Iv_ne I
  refine g_iload_n C dX0_couldBeJoined_0 rfl rfl ?_
  refine g_if_le (tgt := 15) C dX0_couldBeJoined_1 (by decide) (fun c_1 => ?_) (fun c_1 => ?_)
  · have hpr : ¬ (p ≠ 0 ∧ τ 8 (p - 1) ≠ 0) := fun z => absurd c_1 (fun y => nI_nle (Nat.pos_of_ne_zero z.1) (by omega) y)
    refine g_aload_n C dX0_couldBeJoined_15 rfl rfl ?_
    refine g_getX C 8 dX0_couldBeJoined_16 mwX0_couldBeJoined_inX (by decide) mwX0_couldBeJoined_f35 rfl rfl ?_
    refine g_iload_n C dX0_couldBeJoined_19 rfl rfl ?_
    refine g_iconst (v := 1) C dX0_couldBeJoined_20 (by decide) ?_
    refine g_iadd C dX0_couldBeJoined_21 ?_
    refine g_zaldN C (p + 1) dX0_couldBeJoined_22 rfl (nI_1 p) (show p + 1 < 16 by omega) (by decide) ?_
    refine g_if_eq (tgt := 30) C dX0_couldBeJoined_23 (by decide) (fun c_23 => ?_) (fun c_23 => ?_)
    · have e0 : cbj (τ 2) (τ 7) (τ 8) p = hb (τ 2 (τ 7 p).toNatClampNeg) (τ 7 (p + 1)) := by
        unfold cbj
        rw [if_neg (fun z => z.elim hpr (fun y => y c_23))]
      refine g_iconst (v := 0) C dX0_couldBeJoined_30 (by decide) ?_
      refine g_istore_n C [(2, _), (0, _), (1, _)] dX0_couldBeJoined_31 rfl (by decide) rfl ?_
      refine g_iload_n C dX0_couldBeJoined_32 rfl rfl ?_
      refine g_if_ne (tgt := 65) C dX0_couldBeJoined_33 (by decide) (fun c_33 => ?_) (fun c_33 => ?_)
      · exact absurd rfl c_33
      · refine g_aload_n C dX0_couldBeJoined_36 rfl rfl ?_
        refine g_getX C 2 dX0_couldBeJoined_37 mwX0_couldBeJoined_inX (by decide) mwX0_couldBeJoined_f16 rfl rfl ?_
        refine g_aload_n C dX0_couldBeJoined_40 rfl rfl ?_
        refine g_getX C 7 dX0_couldBeJoined_41 mwX0_couldBeJoined_inX (by decide) mwX0_couldBeJoined_f32 rfl rfl ?_
        refine g_iload_n C dX0_couldBeJoined_44 rfl rfl ?_
        refine g_ialdN C (p) dX0_couldBeJoined_45 rfl rfl (show p < 16 by omega) (by decide) ?_
        refine g_iald C dX0_couldBeJoined_46 rfl (Iv_tin I (show p < nl by omega)) ?_
        refine g_aload_n C dX0_couldBeJoined_47 rfl rfl ?_
        refine g_getX C 7 dX0_couldBeJoined_48 mwX0_couldBeJoined_inX (by decide) mwX0_couldBeJoined_f32 rfl rfl ?_
        refine g_iload_n C dX0_couldBeJoined_51 rfl rfl ?_
        refine g_iconst (v := 1) C dX0_couldBeJoined_52 (by decide) ?_
        refine g_iadd C dX0_couldBeJoined_53 ?_
        refine g_ialdN C (p + 1) dX0_couldBeJoined_54 rfl (nI_1 p) (show p + 1 < 16 by omega) (by decide) ?_
        refine g_callSEi (na := 2) C dX0_couldBeJoined_55 (c_hasBit hl (eG E) σ τ o _ _) gX0_couldBeJoined_X0_hasBit rfl rfl (by decide +kernel) rfl (Nat.le_of_ble_eq_true rfl) (by rw [R]; exact ⟨by decide, by decide⟩) (by rw [R]; exact ⟨by decide, by decide⟩) ?_
        refine g_if_eq (tgt := 65) C dX0_couldBeJoined_58 (by decide) (fun c_58 => ?_) (fun c_58 => ?_)
        · have e : cbj (τ 2) (τ 7) (τ 8) p = 0 := by rw [e0]; exact c_58
          refine g_iconst (v := 0) C dX0_couldBeJoined_65 (by decide) ?_
          exact g_zret C F dX0_couldBeJoined_66 (by first | exact Or.inl rfl | exact Or.inr rfl) (by decide) (by decide) ⟨by rw [e], rfl, rfl, rfl⟩
        · have e : cbj (τ 2) (τ 7) (τ 8) p = 1 := by rw [e0]; exact (hb_01 _ _).resolve_left c_58
          refine g_iconst (v := 1) C dX0_couldBeJoined_61 (by decide) ?_
          refine g_goto (tgt := 66) C dX0_couldBeJoined_62 (by decide) ?_
          exact g_zret C F dX0_couldBeJoined_66 (by first | exact Or.inl rfl | exact Or.inr rfl) (by decide) (by decide) ⟨by rw [e], rfl, rfl, rfl⟩
    · have e : cbj (τ 2) (τ 7) (τ 8) p = 0 := by
        unfold cbj
        rw [if_pos (Or.inr c_23)]
      refine g_iconst (v := 1) C dX0_couldBeJoined_26 (by decide) ?_
      refine g_goto (tgt := 31) C dX0_couldBeJoined_27 (by decide) ?_
      refine g_istore_n C [(2, _), (0, _), (1, _)] dX0_couldBeJoined_31 rfl (by decide) rfl ?_
      refine g_iload_n C dX0_couldBeJoined_32 rfl rfl ?_
      refine g_if_ne (tgt := 65) C dX0_couldBeJoined_33 (by decide) (fun c_33 => ?_) (fun c_33 => ?_)
      · refine g_iconst (v := 0) C dX0_couldBeJoined_65 (by decide) ?_
        exact g_zret C F dX0_couldBeJoined_66 (by first | exact Or.inl rfl | exact Or.inr rfl) (by decide) (by decide) ⟨by rw [e], rfl, rfl, rfl⟩
      · exact absurd c_33 (by decide)
  · have hp0 : p ≠ 0 := fun z => c_1 (by rw [z]; decide)
    refine g_aload_n C dX0_couldBeJoined_4 rfl rfl ?_
    refine g_getX C 8 dX0_couldBeJoined_5 mwX0_couldBeJoined_inX (by decide) mwX0_couldBeJoined_f35 rfl rfl ?_
    refine g_iload_n C dX0_couldBeJoined_8 rfl rfl ?_
    refine g_iconst (v := 1) C dX0_couldBeJoined_9 (by decide) ?_
    refine g_isub C dX0_couldBeJoined_10 ?_
    refine g_zaldN C (p - 1) dX0_couldBeJoined_11 rfl (nI_m1 hp0) (show p - 1 < 16 by omega) (by decide) ?_
    refine g_if_ne (tgt := 26) C dX0_couldBeJoined_12 (by decide) (fun c_12 => ?_) (fun c_12 => ?_)
    · have e : cbj (τ 2) (τ 7) (τ 8) p = 0 := by
        unfold cbj
        rw [if_pos (Or.inl ⟨hp0, c_12⟩)]
      refine g_iconst (v := 1) C dX0_couldBeJoined_26 (by decide) ?_
      refine g_goto (tgt := 31) C dX0_couldBeJoined_27 (by decide) ?_
      refine g_istore_n C [(2, _), (0, _), (1, _)] dX0_couldBeJoined_31 rfl (by decide) rfl ?_
      refine g_iload_n C dX0_couldBeJoined_32 rfl rfl ?_
      refine g_if_ne (tgt := 65) C dX0_couldBeJoined_33 (by decide) (fun c_33 => ?_) (fun c_33 => ?_)
      · refine g_iconst (v := 0) C dX0_couldBeJoined_65 (by decide) ?_
        exact g_zret C F dX0_couldBeJoined_66 (by first | exact Or.inl rfl | exact Or.inr rfl) (by decide) (by decide) ⟨by rw [e], rfl, rfl, rfl⟩
      · exact absurd c_33 (by decide)
    · have hpr : ¬ (p ≠ 0 ∧ τ 8 (p - 1) ≠ 0) := fun z => z.2 c_12
      refine g_aload_n C dX0_couldBeJoined_15 rfl rfl ?_
      refine g_getX C 8 dX0_couldBeJoined_16 mwX0_couldBeJoined_inX (by decide) mwX0_couldBeJoined_f35 rfl rfl ?_
      refine g_iload_n C dX0_couldBeJoined_19 rfl rfl ?_
      refine g_iconst (v := 1) C dX0_couldBeJoined_20 (by decide) ?_
      refine g_iadd C dX0_couldBeJoined_21 ?_
      refine g_zaldN C (p + 1) dX0_couldBeJoined_22 rfl (nI_1 p) (show p + 1 < 16 by omega) (by decide) ?_
      refine g_if_eq (tgt := 30) C dX0_couldBeJoined_23 (by decide) (fun c_23 => ?_) (fun c_23 => ?_)
      · have e0 : cbj (τ 2) (τ 7) (τ 8) p = hb (τ 2 (τ 7 p).toNatClampNeg) (τ 7 (p + 1)) := by
          unfold cbj
          rw [if_neg (fun z => z.elim hpr (fun y => y c_23))]
        refine g_iconst (v := 0) C dX0_couldBeJoined_30 (by decide) ?_
        refine g_istore_n C [(2, _), (0, _), (1, _)] dX0_couldBeJoined_31 rfl (by decide) rfl ?_
        refine g_iload_n C dX0_couldBeJoined_32 rfl rfl ?_
        refine g_if_ne (tgt := 65) C dX0_couldBeJoined_33 (by decide) (fun c_33 => ?_) (fun c_33 => ?_)
        · exact absurd rfl c_33
        · refine g_aload_n C dX0_couldBeJoined_36 rfl rfl ?_
          refine g_getX C 2 dX0_couldBeJoined_37 mwX0_couldBeJoined_inX (by decide) mwX0_couldBeJoined_f16 rfl rfl ?_
          refine g_aload_n C dX0_couldBeJoined_40 rfl rfl ?_
          refine g_getX C 7 dX0_couldBeJoined_41 mwX0_couldBeJoined_inX (by decide) mwX0_couldBeJoined_f32 rfl rfl ?_
          refine g_iload_n C dX0_couldBeJoined_44 rfl rfl ?_
          refine g_ialdN C (p) dX0_couldBeJoined_45 rfl rfl (show p < 16 by omega) (by decide) ?_
          refine g_iald C dX0_couldBeJoined_46 rfl (Iv_tin I (show p < nl by omega)) ?_
          refine g_aload_n C dX0_couldBeJoined_47 rfl rfl ?_
          refine g_getX C 7 dX0_couldBeJoined_48 mwX0_couldBeJoined_inX (by decide) mwX0_couldBeJoined_f32 rfl rfl ?_
          refine g_iload_n C dX0_couldBeJoined_51 rfl rfl ?_
          refine g_iconst (v := 1) C dX0_couldBeJoined_52 (by decide) ?_
          refine g_iadd C dX0_couldBeJoined_53 ?_
          refine g_ialdN C (p + 1) dX0_couldBeJoined_54 rfl (nI_1 p) (show p + 1 < 16 by omega) (by decide) ?_
          refine g_callSEi (na := 2) C dX0_couldBeJoined_55 (c_hasBit hl (eG E) σ τ o _ _) gX0_couldBeJoined_X0_hasBit rfl rfl (by decide +kernel) rfl (Nat.le_of_ble_eq_true rfl) (by rw [R]; exact ⟨by decide, by decide⟩) (by rw [R]; exact ⟨by decide, by decide⟩) ?_
          refine g_if_eq (tgt := 65) C dX0_couldBeJoined_58 (by decide) (fun c_58 => ?_) (fun c_58 => ?_)
          · have e : cbj (τ 2) (τ 7) (τ 8) p = 0 := by rw [e0]; exact c_58
            refine g_iconst (v := 0) C dX0_couldBeJoined_65 (by decide) ?_
            exact g_zret C F dX0_couldBeJoined_66 (by first | exact Or.inl rfl | exact Or.inr rfl) (by decide) (by decide) ⟨by rw [e], rfl, rfl, rfl⟩
          · have e : cbj (τ 2) (τ 7) (τ 8) p = 1 := by rw [e0]; exact (hb_01 _ _).resolve_left c_58
            refine g_iconst (v := 1) C dX0_couldBeJoined_61 (by decide) ?_
            refine g_goto (tgt := 66) C dX0_couldBeJoined_62 (by decide) ?_
            exact g_zret C F dX0_couldBeJoined_66 (by first | exact Or.inl rfl | exact Or.inr rfl) (by decide) (by decide) ⟨by rw [e], rfl, rfl, rfl⟩
      · have e : cbj (τ 2) (τ 7) (τ 8) p = 0 := by
          unfold cbj
          rw [if_pos (Or.inr c_23)]
        refine g_iconst (v := 1) C dX0_couldBeJoined_26 (by decide) ?_
        refine g_goto (tgt := 31) C dX0_couldBeJoined_27 (by decide) ?_
        refine g_istore_n C [(2, _), (0, _), (1, _)] dX0_couldBeJoined_31 rfl (by decide) rfl ?_
        refine g_iload_n C dX0_couldBeJoined_32 rfl rfl ?_
        refine g_if_ne (tgt := 65) C dX0_couldBeJoined_33 (by decide) (fun c_33 => ?_) (fun c_33 => ?_)
        · refine g_iconst (v := 0) C dX0_couldBeJoined_65 (by decide) ?_
          exact g_zret C F dX0_couldBeJoined_66 (by first | exact Or.inl rfl | exact Or.inr rfl) (by decide) (by decide) ⟨by rw [e], rfl, rfl, rfl⟩
        · exact absurd c_33 (by decide)
set_option maxRecDepth 100000 in
theorem mwX0_turnJoined_inX : ∀ w ∈ wsX00, w ∈ wsX0_turnJoined := by decide +kernel
set_option maxRecDepth 100000 in
theorem mwX0_turnJoined_f35 : Cond.fieldLink RX0 35 "TelegraphPrices" "joined" "[Z" ∈ wsX0_turnJoined := by decide +kernel
set_option maxHeartbeats 4000000 in
set_option maxRecDepth 100000 in
theorem c_turnJoinedOff {l : Launch} (hl : l.stackTraces = false) (Γ : gG) (σ : gS) (τ : gT) (o : gO) (nw nl lm : Nat) (p : Nat) (I : IX σ τ nw nl lm) (hp : p + 1 < nl) (hj : ¬ τ 8 p = 0) : Ct l yX0_turnJoined wsX0_turnJoined 3 96 0 0 [.ref (Γ.2.1 100), .int (nI p)] Γ σ τ o (pE (some (.int 0)) σ (uT τ 8 p 0) o) (noX) := by
  refine ct_of hl (by decide +kernel) rfl (Nat.le_of_ble_eq_true rfl) ?_
  intro E C F T hΓ hL R
  subst hΓ
  subst hL
  show G E 0 0 0 [(0, .ref ((eG E).2.1 100)), (1, .int (nI p))] [] σ τ o
  have hnw := Iv_nw I
  have hnl := Iv_nl I
  have h3 : σ 3 = nI nw := Iv_h3 I
  have h9 : σ 9 = nI nl := Iv_h9 I
  have h4 : ¬ σ 4 = 0 := Iv_ne I
  refine g_aload_n C dX0_turnJoined_0 rfl rfl ?_
  refine g_iload_n C dX0_turnJoined_1 rfl rfl ?_
  refine g_callVEv (Cl := RX0) (T := TX0) (N := 18) (ci := 0) (q0 := 0) (na := 1) C dX0_turnJoined_2 (c_needPlace hl (eG E) σ τ o _ (nI_pos (show p < 2 ^ 31 by omega)) (by rw [h9]; exact nI_lt (by omega) (by omega))) gX0_turnJoined_X0_needPlace rfl rfl (by decide +kernel) rfl rfl rfl (Nat.le_of_ble_eq_true rfl) (by rw [R]; exact ⟨by decide, by decide⟩) (by rw [R]; exact ⟨by decide, by decide⟩) ?_
  refine g_aload_n C dX0_turnJoined_5 rfl rfl ?_
  refine g_iload_n C dX0_turnJoined_6 rfl rfl ?_
  refine g_iconst (v := 1) C dX0_turnJoined_7 (by decide) ?_
  refine g_iadd C dX0_turnJoined_8 ?_
  refine g_topi (nI_1 p) ?_
  refine g_callVEv (Cl := RX0) (T := TX0) (N := 18) (ci := 0) (q0 := 0) (na := 1) C dX0_turnJoined_9 (c_needPlace hl (eG E) σ τ o _ (nI_pos (show p + 1 < 2 ^ 31 by omega)) (by rw [h9]; exact nI_lt (by omega) (by omega))) gX0_turnJoined_X0_needPlace rfl rfl (by decide +kernel) rfl rfl rfl (Nat.le_of_ble_eq_true rfl) (by rw [R]; exact ⟨by decide, by decide⟩) (by rw [R]; exact ⟨by decide, by decide⟩) ?_
  refine g_aload_n C dX0_turnJoined_12 rfl rfl ?_
  refine g_getX C 8 dX0_turnJoined_13 mwX0_turnJoined_inX (by decide) mwX0_turnJoined_f35 rfl rfl ?_
  refine g_iload_n C dX0_turnJoined_16 rfl rfl ?_
  refine g_zaldN C (p) dX0_turnJoined_17 rfl rfl (show p < 16 by omega) (by decide) ?_
  refine g_if_ne (tgt := 39) C dX0_turnJoined_18 (by decide) (fun c_18 => ?_) (fun c_18 => ?_)
  · refine g_aload_n C dX0_turnJoined_39 rfl rfl ?_
    refine g_getX C 8 dX0_turnJoined_40 mwX0_turnJoined_inX (by decide) mwX0_turnJoined_f35 rfl rfl ?_
    refine g_iload_n C dX0_turnJoined_43 rfl rfl ?_
    refine g_aload_n C dX0_turnJoined_44 rfl rfl ?_
    refine g_getX C 8 dX0_turnJoined_45 mwX0_turnJoined_inX (by decide) mwX0_turnJoined_f35 rfl rfl ?_
    refine g_iload_n C dX0_turnJoined_48 rfl rfl ?_
    refine g_zaldN C (p) dX0_turnJoined_49 rfl rfl (show p < 16 by omega) (by decide) ?_
    refine g_if_ne (tgt := 57) C dX0_turnJoined_50 (by decide) (fun c_50 => ?_) (fun c_50 => ?_)
    · refine g_iconst (v := 0) C dX0_turnJoined_57 (by decide) ?_
      refine g_zastN C (p) dX0_turnJoined_58 rfl rfl (show p < 16 by omega) (by decide) (Or.inl rfl) rfl ?_
      refine g_aload_n C dX0_turnJoined_59 rfl rfl ?_
      refine g_getX C 8 dX0_turnJoined_60 mwX0_turnJoined_inX (by decide) mwX0_turnJoined_f35 rfl rfl ?_
      refine g_iload_n C dX0_turnJoined_63 rfl rfl ?_
      refine g_zaldN C (p) dX0_turnJoined_64 rfl rfl (show p < 16 by omega) (by decide) ?_
      refine g_topi (show _ = (0 : Int32) by rw [uT_eq, upd_eq]) ?_
      exact g_zret C F dX0_turnJoined_65 (Or.inl rfl) (by decide) (by decide) ⟨rfl, rfl, rfl, rfl⟩
    · exact absurd c_50 hj
  · exact absurd c_18 hj
set_option maxHeartbeats 4000000 in
set_option maxRecDepth 100000 in
theorem c_turnJoinedOn {l : Launch} (hl : l.stackTraces = false) (Γ : gG) (σ : gS) (τ : gT) (o : gO) (nw nl lm : Nat) (p : Nat) (I : IX σ τ nw nl lm) (hp : p + 1 < nl) (hj : τ 8 p = 0) (hc : ¬ cbj (τ 2) (τ 7) (τ 8) p = 0) : Ct l yX0_turnJoined wsX0_turnJoined 3 96 0 0 [.ref (Γ.2.1 100), .int (nI p)] Γ σ τ o (pE (some (.int 1)) σ (uT τ 8 p 1) o) (noX) := by
  refine ct_of hl (by decide +kernel) rfl (Nat.le_of_ble_eq_true rfl) ?_
  intro E C F T hΓ hL R
  subst hΓ
  subst hL
  show G E 0 0 0 [(0, .ref ((eG E).2.1 100)), (1, .int (nI p))] [] σ τ o
  have hnw := Iv_nw I
  have hnl := Iv_nl I
  have h3 : σ 3 = nI nw := Iv_h3 I
  have h9 : σ 9 = nI nl := Iv_h9 I
  have h4 : ¬ σ 4 = 0 := Iv_ne I
  refine g_aload_n C dX0_turnJoined_0 rfl rfl ?_
  refine g_iload_n C dX0_turnJoined_1 rfl rfl ?_
  refine g_callVEv (Cl := RX0) (T := TX0) (N := 18) (ci := 0) (q0 := 0) (na := 1) C dX0_turnJoined_2 (c_needPlace hl (eG E) σ τ o _ (nI_pos (show p < 2 ^ 31 by omega)) (by rw [h9]; exact nI_lt (by omega) (by omega))) gX0_turnJoined_X0_needPlace rfl rfl (by decide +kernel) rfl rfl rfl (Nat.le_of_ble_eq_true rfl) (by rw [R]; exact ⟨by decide, by decide⟩) (by rw [R]; exact ⟨by decide, by decide⟩) ?_
  refine g_aload_n C dX0_turnJoined_5 rfl rfl ?_
  refine g_iload_n C dX0_turnJoined_6 rfl rfl ?_
  refine g_iconst (v := 1) C dX0_turnJoined_7 (by decide) ?_
  refine g_iadd C dX0_turnJoined_8 ?_
  refine g_topi (nI_1 p) ?_
  refine g_callVEv (Cl := RX0) (T := TX0) (N := 18) (ci := 0) (q0 := 0) (na := 1) C dX0_turnJoined_9 (c_needPlace hl (eG E) σ τ o _ (nI_pos (show p + 1 < 2 ^ 31 by omega)) (by rw [h9]; exact nI_lt (by omega) (by omega))) gX0_turnJoined_X0_needPlace rfl rfl (by decide +kernel) rfl rfl rfl (Nat.le_of_ble_eq_true rfl) (by rw [R]; exact ⟨by decide, by decide⟩) (by rw [R]; exact ⟨by decide, by decide⟩) ?_
  refine g_aload_n C dX0_turnJoined_12 rfl rfl ?_
  refine g_getX C 8 dX0_turnJoined_13 mwX0_turnJoined_inX (by decide) mwX0_turnJoined_f35 rfl rfl ?_
  refine g_iload_n C dX0_turnJoined_16 rfl rfl ?_
  refine g_zaldN C (p) dX0_turnJoined_17 rfl rfl (show p < 16 by omega) (by decide) ?_
  refine g_if_ne (tgt := 39) C dX0_turnJoined_18 (by decide) (fun c_18 => ?_) (fun c_18 => ?_)
  · exact absurd hj c_18
  · refine g_aload_n C dX0_turnJoined_21 rfl rfl ?_
    refine g_iload_n C dX0_turnJoined_22 rfl rfl ?_
    refine g_callVEi (Cl := RX0) (T := TX0) (N := 18) (ci := 0) (q0 := 0) (na := 1) C dX0_turnJoined_23 (c_couldBe hl (eG E) σ τ o nw nl lm p I hp) gX0_turnJoined_X0_couldBeJoined rfl rfl (by decide +kernel) rfl rfl rfl (Nat.le_of_ble_eq_true rfl) (by rw [R]; exact ⟨by decide, by decide⟩) (by rw [R]; exact ⟨by decide, by decide⟩) ?_
    refine g_if_ne (tgt := 39) C dX0_turnJoined_26 (by decide) (fun c_26 => ?_) (fun c_26 => ?_)
    · refine g_aload_n C dX0_turnJoined_39 rfl rfl ?_
      refine g_getX C 8 dX0_turnJoined_40 mwX0_turnJoined_inX (by decide) mwX0_turnJoined_f35 rfl rfl ?_
      refine g_iload_n C dX0_turnJoined_43 rfl rfl ?_
      refine g_aload_n C dX0_turnJoined_44 rfl rfl ?_
      refine g_getX C 8 dX0_turnJoined_45 mwX0_turnJoined_inX (by decide) mwX0_turnJoined_f35 rfl rfl ?_
      refine g_iload_n C dX0_turnJoined_48 rfl rfl ?_
      refine g_zaldN C (p) dX0_turnJoined_49 rfl rfl (show p < 16 by omega) (by decide) ?_
      refine g_if_ne (tgt := 57) C dX0_turnJoined_50 (by decide) (fun c_50 => ?_) (fun c_50 => ?_)
      · exact absurd hj c_50
      · refine g_iconst (v := 1) C dX0_turnJoined_53 (by decide) ?_
        refine g_goto (tgt := 58) C dX0_turnJoined_54 (by decide) ?_
        refine g_zastN C (p) dX0_turnJoined_58 rfl rfl (show p < 16 by omega) (by decide) (Or.inr rfl) rfl ?_
        refine g_aload_n C dX0_turnJoined_59 rfl rfl ?_
        refine g_getX C 8 dX0_turnJoined_60 mwX0_turnJoined_inX (by decide) mwX0_turnJoined_f35 rfl rfl ?_
        refine g_iload_n C dX0_turnJoined_63 rfl rfl ?_
        refine g_zaldN C (p) dX0_turnJoined_64 rfl rfl (show p < 16 by omega) (by decide) ?_
        refine g_topi (show _ = (1 : Int32) by rw [uT_eq, upd_eq]) ?_
        exact g_zret C F dX0_turnJoined_65 (Or.inr rfl) (by decide) (by decide) ⟨rfl, rfl, rfl, rfl⟩
    · exact absurd c_26 hc
set_option maxRecDepth 100000 in
theorem mwX0_turnJoined_k73 : Cond.classLink RX0 73 "java/lang/IllegalStateException" ∈ wsX0_turnJoined := by decide +kernel
set_option maxRecDepth 100000 in
theorem mwX0_turnJoined_n73 : Cond.initialized "java/lang/IllegalStateException" ∈ wsX0_turnJoined := by decide +kernel
set_option maxRecDepth 100000 in
theorem mwX0_turnJoined_a73 : ∀ w ∈ (vx_atS RX0 77 "java/lang/IllegalStateException" ["java/lang/RuntimeException", "java/lang/Exception"]).filter goodWord, w ∈ wsX0_turnJoined := by decide +kernel
set_option maxRecDepth 100000 in
theorem mwX0_meanCost_inX : ∀ w ∈ wsX00, w ∈ wsX0_meanCost := by decide +kernel
set_option maxRecDepth 100000 in
theorem mwX0_meanCost_f42 : Cond.fieldLink RX0 42 "TelegraphPrices" "sent" "I" ∈ wsX0_meanCost := by decide +kernel
set_option maxHeartbeats 4000000 in
set_option maxRecDepth 100000 in
theorem c_meanCost0 {l : Launch} (hl : l.stackTraces = false) (Γ : gG) (σ : gS) (τ : gT) (o : gO)  (h : σ 10 = 0) : Ct l yX0_meanCost wsX0_meanCost 1 32 0 0 [.ref (Γ.2.1 100)] Γ σ τ o (pE (some (.double FP.dconst0)) σ τ o) (noX) := by
  refine ct_of hl (by decide +kernel) rfl (Nat.le_of_ble_eq_true rfl) ?_
  intro E C F T hΓ hL R
  subst hΓ
  subst hL
  show G E 0 0 0 [(0, .ref ((eG E).2.1 100))] [] σ τ o
  refine g_aload_n C dX0_meanCost_0 rfl rfl ?_
  refine g_getX C 10 dX0_meanCost_1 mwX0_meanCost_inX (by decide) mwX0_meanCost_f42 rfl rfl ?_
  refine g_if_ne (tgt := 9) C dX0_meanCost_4 (by decide) (fun c_4 => ?_) (fun c_4 => ?_)
  · exact absurd h c_4
  · refine g_dconst0 C dX0_meanCost_7 ?_
    exact g_dret C F dX0_meanCost_8 (by decide) (by decide) ⟨rfl, rfl, rfl, rfl⟩
set_option maxRecDepth 100000 in
theorem mwX0_meanCost_f45 : Cond.fieldLink RX0 45 "TelegraphPrices" "earned" "I" ∈ wsX0_meanCost := by decide +kernel
set_option maxHeartbeats 4000000 in
set_option maxRecDepth 100000 in
theorem c_meanCost {l : Launch} (hl : l.stackTraces = false) (Γ : gG) (σ : gS) (τ : gT) (o : gO)  (h : ¬ σ 10 = 0) (hn : vf_n64 (FP.ddiv (FP.i2d (σ 11)) (FP.i2d (σ 10)))) : Ct l yX0_meanCost wsX0_meanCost 1 32 0 0 [.ref (Γ.2.1 100)] Γ σ τ o (pE (some (.double (FP.ddiv (FP.i2d (σ 11)) (FP.i2d (σ 10))))) σ τ o) (noX) := by
  refine ct_of hl (by decide +kernel) rfl (Nat.le_of_ble_eq_true rfl) ?_
  intro E C F T hΓ hL R
  subst hΓ
  subst hL
  show G E 0 0 0 [(0, .ref ((eG E).2.1 100))] [] σ τ o
  refine g_aload_n C dX0_meanCost_0 rfl rfl ?_
  refine g_getX C 10 dX0_meanCost_1 mwX0_meanCost_inX (by decide) mwX0_meanCost_f42 rfl rfl ?_
  refine g_if_ne (tgt := 9) C dX0_meanCost_4 (by decide) (fun c_4 => ?_) (fun c_4 => ?_)
  · refine g_aload_n C dX0_meanCost_9 rfl rfl ?_
    refine g_getX C 11 dX0_meanCost_10 mwX0_meanCost_inX (by decide) mwX0_meanCost_f45 rfl rfl ?_
    refine g_i2d C dX0_meanCost_13 ?_
    refine g_aload_n C dX0_meanCost_14 rfl rfl ?_
    refine g_getX C 10 dX0_meanCost_15 mwX0_meanCost_inX (by decide) mwX0_meanCost_f42 rfl rfl ?_
    refine g_i2d C dX0_meanCost_18 ?_
    refine g_ddiv C dX0_meanCost_19 hn ?_
    exact g_dret C F dX0_meanCost_20 (by decide) (by decide) ⟨rfl, rfl, rfl, rfl⟩
  · exact absurd c_4 h
end
section
/-! strike, reword, wordings, digest of the class -/
/-- g is f, from p on moved up by one, as far as at -/
def SH (p a : Nat) (f g : Nat → Int32) : Prop := (∀ q, q < p → g q = f q) ∧ (∀ q, p ≤ q → q < a → g q = f (q + 1)) ∧ ∀ q, a ≤ q → g q = f q
theorem SH_0 (p : Nat) (f : Nat → Int32) : SH p p f f := ⟨fun _ _ => rfl, fun q h1 h2 => by omega, fun _ _ => rfl⟩
theorem SH_next {p a : Nat} {f g : Nat → Int32} (h : SH p a f g) (hp : p ≤ a) : SH p (a + 1) f (upd g a (g (a + 1))) := by
  refine ⟨fun q hq => by rw [upd_ne (by omega)]; exact h.1 q hq, fun q h1 h2 => ?_, fun q hq => by rw [upd_ne (by omega)]; exact h.2.2 q (by omega)⟩
  by_cases e : q = a
  · subst e
    rw [upd_eq]
    exact h.2.2 (q + 1) (by omega)
  · rw [upd_ne e]
    exact h.2.1 q h1 (by omega)
/-- the place ahead is parted -/
def jz (p : Nat) (f : Nat → Int32) : Nat → Int32 := if p = 0 then f else upd f (p - 1) 0
theorem jz_01 {p : Nat} {f : Nat → Int32} (h : ∀ i, f i = 0 ∨ f i = 1) : ∀ i, jz p f i = 0 ∨ jz p f i = 1 := by
  intro i
  unfold jz
  split
  · exact h i
  · by_cases e : i = p - 1
    · rw [e, upd_eq]; exact Or.inl rfl
    · rw [upd_ne e]; exact h i
theorem upd_01 {f : Nat → Int32} {k : Nat} {x : Int32} (h : ∀ i, f i = 0 ∨ f i = 1) (hx : x = 0 ∨ x = 1) : ∀ i, upd f k x i = 0 ∨ upd f k x i = 1 := by
  intro i
  by_cases e : i = k
  · rw [e, upd_eq]; exact hx
  · rw [upd_ne e]; exact h i
/-- strike at p, on the way at a -/
def SK (t j p a : Nat) (τ τ' : gT) : Prop := (∀ c, c ≠ t → c ≠ j → τ' c = τ c) ∧ SH p a (τ t) (τ' t) ∧ SH p a (jz p (τ j)) (τ' j) ∧ ∀ i, τ' j i = 0 ∨ τ' j i = 1
theorem SK_next {t j p a : Nat} {τ τ' : gT} (htj : t ≠ j) (h : SK t j p a τ τ') (hp : p ≤ a) : SK t j p (a + 1) τ (uT (uT τ' t a (τ' t (a + 1))) j a (τ' j (a + 1))) := by
  obtain ⟨h1, h2, h3, h4⟩ := h
  refine ⟨fun c c1 c2 => by rw [uT_ne c2, uT_ne c1, h1 c c1 c2], ?_, ?_, ?_⟩
  · rw [uT_ne htj, uT_eq]
    exact SH_next h2 hp
  · rw [uT_eq, uT_ne htj.symm]
    exact SH_next h3 hp
  · rw [uT_eq, uT_ne htj.symm]
    exact upd_01 h4 (h4 (a + 1))
set_option maxRecDepth 100000 in
theorem mwX0_strike_inX : ∀ w ∈ wsX00, w ∈ wsX0_strike := by decide +kernel
set_option maxRecDepth 100000 in
theorem mwX0_strike_f39 : Cond.fieldLink RX0 39 "TelegraphPrices" "length" "I" ∈ wsX0_strike := by decide +kernel
set_option maxRecDepth 100000 in
theorem mwX0_strike_f32 : Cond.fieldLink RX0 32 "TelegraphPrices" "telegram" "[I" ∈ wsX0_strike := by decide +kernel
set_option maxRecDepth 100000 in
theorem mwX0_strike_f35 : Cond.fieldLink RX0 35 "TelegraphPrices" "joined" "[Z" ∈ wsX0_strike := by decide +kernel
set_option maxHeartbeats 4000000 in
set_option maxRecDepth 100000 in
theorem c_strike {l : Launch} (hl : l.stackTraces = false) (Γ : gG) (σ : gS) (τ : gT) (o : gO) (nw nl lm : Nat) (p : Nat) (I : IX σ τ nw nl lm) (hp : p < nl) : Ct l yX0_strike wsX0_strike 2 64 0 0 [.ref (Γ.2.1 100), .int (nI p)] Γ σ τ o (pI (fun r σ' τ' o' => r = nI (nl - 1) ∧ σ' = uS σ 9 (nI (nl - 1)) ∧ o' = o ∧ SK 7 8 p (nl - 1) τ τ')) (noX) := by
  refine ct_of hl (by decide +kernel) rfl (Nat.le_of_ble_eq_true rfl) ?_
  intro E C F T hΓ hL R
  subst hΓ
  subst hL
  show G E 0 0 0 [(0, .ref ((eG E).2.1 100)), (1, .int (nI p))] [] σ τ o
  have hnw := Iv_nw I
  have hnl := Iv_nl I
  have h3 : σ 3 = nI nw := Iv_h3 I
  have h9 : σ 9 = nI nl := Iv_h9 I
  have h4 : ¬ σ 4 = 0 := Iv_ne I
  have loop : ∀ m a : Nat, ∀ τ' : gT, a + m + 1 = nl → p ≤ a → SK 7 8 p a τ τ' → G E (0 + 0) (0 + 0) 20 [(2, .int (nI a)), (0, .ref ((eG E).2.1 100)), (1, .int (nI p))] [] σ τ' o := by
    intro m
    induction m with
    | zero =>
      intro a τ' ha hpa hN
      refine g_iload_n C dX0_strike_20 rfl rfl ?_
      refine g_iconst (v := 1) C dX0_strike_21 (by decide) ?_
      refine g_iadd C dX0_strike_22 ?_
      refine g_aload_n C dX0_strike_23 rfl rfl ?_
      refine g_getX C 9 dX0_strike_24 mwX0_strike_inX (by decide) mwX0_strike_f39 rfl rfl ?_
      refine g_icmp_ge (tgt := 64) C dX0_strike_27 (by decide) (fun c_27 => ?_) (fun c_27 => ?_)
      · refine g_aload_n C dX0_strike_64 rfl rfl ?_
        refine g_dup C dX0_strike_65 rfl ?_
        refine g_getX C 9 dX0_strike_66 mwX0_strike_inX (by decide) mwX0_strike_f39 rfl rfl ?_
        refine g_iconst (v := 1) C dX0_strike_69 (by decide) ?_
        refine g_isub C dX0_strike_70 ?_
        refine g_topi (show _ = nI (nl - 1) by rw [h9]; exact nI_m1 (by omega)) ?_
        refine g_putX C 9 dX0_strike_71 mwX0_strike_inX (by decide) mwX0_strike_f39 rfl rfl (by decide +kernel) rfl ?_
        refine g_aload_n C dX0_strike_74 rfl rfl ?_
        refine g_getX C 9 dX0_strike_75 mwX0_strike_inX (by decide) mwX0_strike_f39 rfl rfl ?_
        exact g_iret C F dX0_strike_78 (by decide) (by decide) ⟨_, rfl, rfl, rfl, rfl, by rw [show nl - 1 = a by omega]; exact hN⟩
      · exact absurd (by rw [nI_1, h9]; exact nI_le (by omega) (by omega)) c_27
    | succ m ih =>
      intro a τ' ha hpa hN
      refine g_iload_n C dX0_strike_20 rfl rfl ?_
      refine g_iconst (v := 1) C dX0_strike_21 (by decide) ?_
      refine g_iadd C dX0_strike_22 ?_
      refine g_aload_n C dX0_strike_23 rfl rfl ?_
      refine g_getX C 9 dX0_strike_24 mwX0_strike_inX (by decide) mwX0_strike_f39 rfl rfl ?_
      refine g_icmp_ge (tgt := 64) C dX0_strike_27 (by decide) (fun c_27 => ?_) (fun c_27 => ?_)
      · exact absurd (by rw [nI_1, h9] at c_27; exact c_27) (nI_ge (by omega) (by omega))
      · refine g_aload_n C dX0_strike_30 rfl rfl ?_
        refine g_getX C 7 dX0_strike_31 mwX0_strike_inX (by decide) mwX0_strike_f32 rfl rfl ?_
        refine g_iload_n C dX0_strike_34 rfl rfl ?_
        refine g_aload_n C dX0_strike_35 rfl rfl ?_
        refine g_getX C 7 dX0_strike_36 mwX0_strike_inX (by decide) mwX0_strike_f32 rfl rfl ?_
        refine g_iload_n C dX0_strike_39 rfl rfl ?_
        refine g_iconst (v := 1) C dX0_strike_40 (by decide) ?_
        refine g_iadd C dX0_strike_41 ?_
        refine g_ialdN C (a + 1) dX0_strike_42 rfl (nI_1 a) (show a + 1 < 16 by omega) (by decide) ?_
        refine g_iastN C (a) dX0_strike_43 rfl rfl (show a < 16 by omega) (by decide) rfl ?_
        refine g_aload_n C dX0_strike_44 rfl rfl ?_
        refine g_getX C 8 dX0_strike_45 mwX0_strike_inX (by decide) mwX0_strike_f35 rfl rfl ?_
        refine g_iload_n C dX0_strike_48 rfl rfl ?_
        refine g_aload_n C dX0_strike_49 rfl rfl ?_
        refine g_getX C 8 dX0_strike_50 mwX0_strike_inX (by decide) mwX0_strike_f35 rfl rfl ?_
        refine g_iload_n C dX0_strike_53 rfl rfl ?_
        refine g_iconst (v := 1) C dX0_strike_54 (by decide) ?_
        refine g_iadd C dX0_strike_55 ?_
        refine g_zaldN C (a + 1) dX0_strike_56 rfl (nI_1 a) (show a + 1 < 16 by omega) (by decide) ?_
        refine g_zastN C (a) dX0_strike_57 rfl rfl (show a < 16 by omega) (by decide) (hN.2.2.2 (a + 1)) rfl ?_
        refine g_iinc C 0 [(2, _), (0, _), (1, _)] dX0_strike_58 rfl (nI_i1 a) (by decide) rfl ?_
        refine g_goto (tgt := 20) C dX0_strike_61 (by decide) ?_
        exact ih (a + 1) _ (by omega) (by omega) (SK_next (by decide) hN hpa)
  refine g_aload_n C dX0_strike_0 rfl rfl ?_
  refine g_iload_n C dX0_strike_1 rfl rfl ?_
  refine g_callVEv (Cl := RX0) (T := TX0) (N := 18) (ci := 0) (q0 := 0) (na := 1) C dX0_strike_2 (c_needPlace hl (eG E) σ τ o _ (nI_pos (show p < 2 ^ 31 by omega)) (by rw [h9]; exact nI_lt (by omega) (by omega))) gX0_strike_X0_needPlace rfl rfl (by decide +kernel) rfl rfl rfl (Nat.le_of_ble_eq_true rfl) (by rw [R]; exact ⟨by decide, by decide⟩) (by rw [R]; exact ⟨by decide, by decide⟩) ?_
  refine g_iload_n C dX0_strike_5 rfl rfl ?_
  refine g_if_le (tgt := 18) C dX0_strike_6 (by decide) (fun c_6 => ?_) (fun c_6 => ?_)
  · have hp0 : p = 0 := by
      rcases Nat.eq_zero_or_pos p with z | z
      · exact z
      · exact absurd c_6 (nI_nle z (by omega))
    refine g_iload_n C dX0_strike_18 rfl rfl ?_
    refine g_istore_n C [(2, _), (0, _), (1, _)] dX0_strike_19 rfl (by decide) rfl ?_
    refine loop (nl - 1 - p) p _ (by omega) (Nat.le_refl _) ⟨fun _ _ _ => rfl, SH_0 _ _, ?_, Iv_jd I⟩
    unfold jz
    rw [if_pos hp0]
    exact SH_0 _ _
  · have hp0 : p ≠ 0 := fun z => c_6 (by rw [z]; decide)
    refine g_aload_n C dX0_strike_9 rfl rfl ?_
    refine g_getX C 8 dX0_strike_10 mwX0_strike_inX (by decide) mwX0_strike_f35 rfl rfl ?_
    refine g_iload_n C dX0_strike_13 rfl rfl ?_
    refine g_iconst (v := 1) C dX0_strike_14 (by decide) ?_
    refine g_isub C dX0_strike_15 ?_
    refine g_iconst (v := 0) C dX0_strike_16 (by decide) ?_
    refine g_zastN C (p - 1) dX0_strike_17 rfl (nI_m1 hp0) (show p - 1 < 16 by omega) (by decide) (Or.inl rfl) rfl ?_
    refine g_iload_n C dX0_strike_18 rfl rfl ?_
    refine g_istore_n C [(2, _), (0, _), (1, _)] dX0_strike_19 rfl (by decide) rfl ?_
    refine loop (nl - 1 - p) p _ (by omega) (Nat.le_refl _) ⟨fun c _ c2 => uT_ne c2, by rw [uT_ne (by decide)]; exact SH_0 _ _, ?_, ?_⟩
    · rw [uT_eq]
      unfold jz
      rw [if_neg hp0]
      exact SH_0 _ _
    · rw [uT_eq]
      exact upd_01 (Iv_jd I) (Or.inl rfl)
def wo (S Tg : Nat → Int32) : Nat → Int32
  | 0 => 1
  | p + 1 => if 1000000 < wo S Tg p * bcF (S (Tg p).toNatClampNeg) then 1000000 else wo S Tg p * bcF (S (Tg p).toNatClampNeg)
set_option maxRecDepth 100000 in
theorem mwX0_wordings_inX : ∀ w ∈ wsX00, w ∈ wsX0_wordings := by decide +kernel
set_option maxRecDepth 100000 in
theorem mwX0_wordings_f39 : Cond.fieldLink RX0 39 "TelegraphPrices" "length" "I" ∈ wsX0_wordings := by decide +kernel
set_option maxRecDepth 100000 in
theorem mwX0_wordings_f13 : Cond.fieldLink RX0 13 "TelegraphPrices" "standIns" "[I" ∈ wsX0_wordings := by decide +kernel
set_option maxRecDepth 100000 in
theorem mwX0_wordings_f32 : Cond.fieldLink RX0 32 "TelegraphPrices" "telegram" "[I" ∈ wsX0_wordings := by decide +kernel
set_option maxRecDepth 100000 in
theorem mwX0_wordings_c151 : Cond.constant RX0 151 (1000000) ∈ wsX0_wordings := by decide +kernel
set_option maxRecDepth 100000 in
theorem mwX0_wordings_l152 : Cond.methodLink RX0 152 Lib.Math.min.name ∈ wsX0_wordings := by decide +kernel
set_option maxRecDepth 100000 in
theorem mwX0_wordings_smin : Cond.static Lib.Math.min.name ∈ wsX0_wordings := by decide +kernel
set_option maxRecDepth 100000 in
theorem mwX0_wordings_iMath : Cond.initialized "java/lang/Math" ∈ wsX0_wordings := by decide +kernel
set_option maxRecDepth 100000 in
theorem mwX0_wordings_kmin : Cond.code Lib.Math.min.name Lib.Math.min.code 2 (some .int) ∈ wsX0_wordings := by decide +kernel
set_option maxHeartbeats 4000000 in
set_option maxRecDepth 100000 in
theorem c_wordings {l : Launch} (hl : l.stackTraces = false) (Γ : gG) (σ : gS) (τ : gT) (o : gO) (nw nl lm : Nat) (I : IX σ τ nw nl lm) : Ct l yX0_wordings wsX0_wordings 2 64 0 0 [.ref (Γ.2.1 100)] Γ σ τ o (pE (some (.int (wo (τ 1) (τ 7) nl))) σ τ o) (noX) := by
  refine ct_of hl (by decide +kernel) rfl (Nat.le_of_ble_eq_true rfl) ?_
  intro E C F T hΓ hL R
  subst hΓ
  subst hL
  show G E 0 0 0 [(0, .ref ((eG E).2.1 100))] [] σ τ o
  have hnw := Iv_nw I
  have hnl := Iv_nl I
  have h3 : σ 3 = nI nw := Iv_h3 I
  have h9 : σ 9 = nI nl := Iv_h9 I
  have h4 : ¬ σ 4 = 0 := Iv_ne I
  have loop : ∀ m p : Nat, p + m = nl → G E 0 0 4 [(2, .int (nI p)), (1, .int (wo (τ 1) (τ 7) p)), (0, .ref ((eG E).2.1 100))] [] σ τ o := by
    intro m
    induction m with
    | zero =>
      intro p hp
      refine g_iload_n C dX0_wordings_4 rfl rfl ?_
      refine g_aload_n C dX0_wordings_5 rfl rfl ?_
      refine g_getX C 9 dX0_wordings_6 mwX0_wordings_inX (by decide) mwX0_wordings_f39 rfl rfl ?_
      refine g_icmp_ge (tgt := 40) C dX0_wordings_9 (by decide) (fun c_9 => ?_) (fun c_9 => ?_)
      · refine g_iload_n C dX0_wordings_40 rfl rfl ?_
        exact g_iret C F dX0_wordings_41 (by decide) (by decide) ⟨by rw [show p = nl by omega], rfl, rfl, rfl⟩
      · exact absurd (by rw [h9]; exact nI_le (by omega) (by omega)) c_9
    | succ m ih =>
      intro p hp
      have hpl : p < nl := by omega
      refine g_iload_n C dX0_wordings_4 rfl rfl ?_
      refine g_aload_n C dX0_wordings_5 rfl rfl ?_
      refine g_getX C 9 dX0_wordings_6 mwX0_wordings_inX (by decide) mwX0_wordings_f39 rfl rfl ?_
      refine g_icmp_ge (tgt := 40) C dX0_wordings_9 (by decide) (fun c_9 => ?_) (fun c_9 => ?_)
      · exact absurd (by rw [h9] at c_9; exact c_9) (nI_ge (by omega) (by omega))
      · refine g_iload_n C dX0_wordings_12 rfl rfl ?_
        refine g_aload_n C dX0_wordings_13 rfl rfl ?_
        refine g_getX C 1 dX0_wordings_14 mwX0_wordings_inX (by decide) mwX0_wordings_f13 rfl rfl ?_
        refine g_aload_n C dX0_wordings_17 rfl rfl ?_
        refine g_getX C 7 dX0_wordings_18 mwX0_wordings_inX (by decide) mwX0_wordings_f32 rfl rfl ?_
        refine g_iload_n C dX0_wordings_21 rfl rfl ?_
        refine g_ialdN C (p) dX0_wordings_22 rfl rfl (show p < 16 by omega) (by decide) ?_
        refine g_iald C dX0_wordings_23 rfl (Iv_tin I hpl) ?_
        refine g_callSEi (na := 1) C dX0_wordings_24 (c_bitCount hl (eG E) σ τ o _) gX0_wordings_J6_bitCount_0f7a4 rfl rfl (by decide +kernel) rfl (Nat.le_of_ble_eq_true rfl) (by rw [R]; exact ⟨by decide, by decide⟩) (by rw [R]; exact ⟨by decide, by decide⟩) ?_
        refine g_imul C dX0_wordings_27 ?_
        refine g_ldc C dX0_wordings_28 mwX0_wordings_c151 ?_
        refine g_mmin C dX0_wordings_30 mwX0_wordings_l152 mwX0_wordings_smin mwX0_wordings_iMath mwX0_wordings_kmin (by rw [R]; exact ⟨by decide, Nat.le_of_ble_eq_true rfl, by decide, by decide⟩) ?_
        refine g_istore_n C [(1, _), (2, _), (0, _)] dX0_wordings_33 rfl (by decide) rfl ?_
        refine g_iinc C 1 [(2, _), (1, _), (0, _)] dX0_wordings_34 rfl (nI_i1 p) (by decide) rfl ?_
        refine g_goto (tgt := 4) C dX0_wordings_37 (by decide) ?_
        exact ih (p + 1) (by omega)
  refine g_iconst (v := 1) C dX0_wordings_0 (by decide) ?_
  refine g_istore_n C [(1, _), (0, _)] dX0_wordings_1 rfl (by decide) rfl ?_
  refine g_iconst (v := 0) C dX0_wordings_2 (by decide) ?_
  refine g_istore_n C [(2, _), (1, _), (0, _)] dX0_wordings_3 rfl (by decide) rfl ?_
  exact loop nl 0 (Nat.zero_add _)
/-- words and joins are those of the cheapest wording, as far as p -/
def RW (t j p : Nat) (w x : Nat → Int32) (τ τ' : gT) : Prop := (∀ c, c ≠ t → c ≠ j → τ' c = τ c) ∧ (∀ q, q < p → τ' t q = w q ∧ τ' j q = x q) ∧ ∀ q, p ≤ q → τ' t q = τ t q ∧ τ' j q = τ j q
theorem RW_next {t j p : Nat} {w x : Nat → Int32} {τ τ' : gT} (htj : t ≠ j) (h : RW t j p w x τ τ') {a b : Int32} (ha : a = w p) (hb : b = x p) : RW t j (p + 1) w x τ (uT (uT τ' t p a) j p b) := by
  obtain ⟨h1, h2, h3⟩ := h
  refine ⟨fun c c1 c2 => by rw [uT_ne c2, uT_ne c1, h1 c c1 c2], fun q hq => ?_, fun q hq => ?_⟩
  · rw [uT_ne htj, uT_eq, uT_eq, uT_ne htj.symm]
    by_cases e : q = p
    · subst e
      rw [upd_eq, upd_eq]
      exact ⟨ha, hb⟩
    · rw [upd_ne e, upd_ne e]
      exact h2 q (by omega)
  · rw [uT_ne htj, uT_eq, uT_eq, uT_ne htj.symm, upd_ne (by omega), upd_ne (by omega)]
    exact h3 q (by omega)
section
variable {nw nl lm : Nat} {σ : gS} {τ : gT}
/-- what stands in the cheapest wording is a word -/
theorem cwx_in (I : IX σ τ nw nl lm) : ∀ q, q < nl → ∃ w, w < nw ∧ cwd (prx σ τ nw nl) (Sx σ τ nw nl) (Ax σ τ nw nl) (Bx σ τ nw nl) q = nI w := by
  intro q hq
  have h12 := Iv_nw I
  have pair : ∀ p, prx σ τ nw nl p = true → ∃ a b, a < nw ∧ b < nw ∧ bpx σ τ nw nl p = nI (a * 100 + b) := by
    intro p hp
    have h := of_decide_eq_true hp
    rcases bp_fin (p := p) (J := τ 2) I with ⟨-, e⟩ | ⟨a, b, ha, hb, -, -, -, e⟩
    · exact absurd (Or.inl (by unfold bpx; rw [e])) h
    · exact ⟨a, b, ha, hb, by unfold bpx; rw [e]⟩
  unfold cwd
  by_cases h1 : isSec (prx σ τ nw nl) q = true
  · rw [if_pos h1]
    cases q with
    | zero => exact (Bool.false_ne_true h1).elim
    | succ p =>
      have h2 : prx σ τ nw nl p = true := by
        simp only [isSec, Bool.and_eq_true] at h1
        exact h1.2
      obtain ⟨a, b, ha, hb, e⟩ := pair p h2
      refine ⟨b, hb, ?_⟩
      show bpx σ τ nw nl p - bpx σ τ nw nl p / 100 * 100 = _
      rw [e]
      exact pr_rem (by omega) (by omega)
  · rw [if_neg h1]
    by_cases h2 : prx σ τ nw nl q = true
    · rw [if_pos h2]
      obtain ⟨a, b, ha, hb, e⟩ := pair q h2
      refine ⟨a, ha, ?_⟩
      show bpx σ τ nw nl q / 100 = _
      rw [e]
      exact pr_div (by omega) (by omega)
    · rw [if_neg h2]
      obtain ⟨a, ha, e⟩ := bw_fin I hq
      exact ⟨a, ha.1, by unfold Sx; rw [e]⟩
theorem prx_last (I : IX σ τ nw nl lm) {p : Nat} (hp : nl ≤ p + 1) : prx σ τ nw nl p = false := by
  refine decide_eq_false (fun z => z (Or.inl ?_))
  rcases bp_fin (p := p) (J := τ 2) I with ⟨-, e⟩ | ⟨a, b, -, -, hq, -⟩
  · unfold bpx
    rw [e]
  · have z := hq.2.1
    unfold mh at z
    rw [if_neg (by omega)] at z
    exact absurd rfl z
theorem cjx_last (I : IX σ τ nw nl lm) (h : 0 < nl) : cjd (prx σ τ nw nl) (nl - 1) = 0 := by
  unfold cjd
  rw [show nl - 1 + 1 = (nl - 1) + 1 from rfl]
  simp only [isSec, prx_last I (show nl ≤ nl - 1 + 1 by omega), Bool.and_false]
  rfl
theorem cjd_01 (pr : Nat → Bool) (q : Nat) : cjd pr q = 0 ∨ cjd pr q = 1 := by
  unfold cjd
  split
  · exact Or.inr rfl
  · exact Or.inl rfl
end
theorem Iv_rw {nw nl lm : Nat} {a3 a9 a4 : Int32} {L S Tg Jd Cj Tg' Jd' Cj' : Nat → Int32} (I : Iv nw nl lm a3 a9 a4 L S Tg Jd Cj) (h1 : ∀ i, i < nl → ∃ w, w < nw ∧ Tg' i = nI w) (h2 : ∀ i, Jd' i = 0 ∨ Jd' i = 1) (h3 : ∀ i, Cj' i = 0 ∨ Cj' i = 1) (h4 : 0 < nl → Jd' (nl - 1) = 0) : Iv nw nl lm a3 a9 a4 L S Tg' Jd' Cj' := by
  obtain ⟨x1, x2, x3, x4, x5, x6, x7, x8, x9, x10, x11, x12, x13⟩ := I
  exact ⟨x1, x2, x3, x4, x5, x6, x7, h1, h2, h3, h4, x12, x13⟩
/-- the state behind reword -/
def RWx (σ : gS) (τ : gT) (nw nl : Nat) (τ' : gT) : Prop := (∀ c, (c < 7 ∨ 8 < c) → (c < 12 ∨ c = 14 ∨ 17 < c) → τ' c = τ c) ∧ (∀ i, τ' 17 i = 0 ∨ τ' 17 i = 1) ∧ (∀ q, q < nl → τ' 7 q = cwd (prx σ τ nw nl) (Sx σ τ nw nl) (Ax σ τ nw nl) (Bx σ τ nw nl) q ∧ τ' 8 q = cjd (prx σ τ nw nl) q) ∧ ∀ q, nl ≤ q → τ' 7 q = τ 7 q ∧ τ' 8 q = τ 8 q
theorem RWx_I {nw nl lm : Nat} {σ : gS} {τ τ' : gT} (I : IX σ τ nw nl lm) (h : RWx σ τ nw nl τ') : IX σ τ' nw nl lm := by
  unfold IX
  rw [h.1 0 (by decide) (by decide), h.1 1 (by decide) (by decide)]
  refine Iv_rw I (fun i hi => by rw [(h.2.2.1 i hi).1]; exact cwx_in I i hi) (fun i => ?_) h.2.1 (fun h0 => by rw [(h.2.2.1 (nl - 1) (by omega)).2]; exact cjx_last I h0)
  rcases Nat.lt_or_ge i nl with q | q
  · rw [(h.2.2.1 i q).2]
    exact cjd_01 _ _
  · rw [(h.2.2.2 i q).2]
    exact Iv_jd I i
set_option maxRecDepth 100000 in
theorem mwX0_reword_inX : ∀ w ∈ wsX00, w ∈ wsX0_reword := by decide +kernel
set_option maxRecDepth 100000 in
theorem mwX0_reword_f39 : Cond.fieldLink RX0 39 "TelegraphPrices" "length" "I" ∈ wsX0_reword := by decide +kernel
set_option maxRecDepth 100000 in
theorem mwX0_reword_f32 : Cond.fieldLink RX0 32 "TelegraphPrices" "telegram" "[I" ∈ wsX0_reword := by decide +kernel
set_option maxRecDepth 100000 in
theorem mwX0_reword_f60 : Cond.fieldLink RX0 60 "TelegraphPrices" "cheapestWords" "[I" ∈ wsX0_reword := by decide +kernel
set_option maxRecDepth 100000 in
theorem mwX0_reword_f35 : Cond.fieldLink RX0 35 "TelegraphPrices" "joined" "[Z" ∈ wsX0_reword := by decide +kernel
set_option maxRecDepth 100000 in
theorem mwX0_reword_f63 : Cond.fieldLink RX0 63 "TelegraphPrices" "cheapestJoined" "[Z" ∈ wsX0_reword := by decide +kernel
set_option maxHeartbeats 4000000 in
set_option maxRecDepth 100000 in
theorem c_reword {l : Launch} (hl : l.stackTraces = false) (Γ : gG) (σ : gS) (τ : gT) (o : gO) (nw nl lm : Nat) (I : IX σ τ nw nl lm) : Ct l yX0_reword wsX0_reword 6 192 0 0 [.ref (Γ.2.1 100)] Γ σ τ o (pI (fun r σ' τ' o' => r = CTx σ τ nl - CTx σ τ' nl ∧ σ' = σ ∧ o' = o ∧ RWx σ τ nw nl τ')) (noX) := by
  refine ct_of hl (by decide +kernel) rfl (Nat.le_of_ble_eq_true rfl) ?_
  intro E C F T hΓ hL R
  subst hΓ
  subst hL
  show G E 0 0 0 [(0, .ref ((eG E).2.1 100))] [] σ τ o
  have hnw := Iv_nw I
  have hnl := Iv_nl I
  have h3 : σ 3 = nI nw := Iv_h3 I
  have h9 : σ 9 = nI nl := Iv_h9 I
  have h4 : ¬ σ 4 = 0 := Iv_ne I
  have loop : ∀ τ1 : gT, CH σ τ nw nl nl τ1 → ∀ m p : Nat, ∀ τ' : gT, p + m = nl → RW 7 8 p (cwd (prx σ τ nw nl) (Sx σ τ nw nl) (Ax σ τ nw nl) (Bx σ τ nw nl)) (cjd (prx σ τ nw nl)) τ1 τ' → G E (0 + 0 + 0) (0 + 0 + 0) 11 [(2, .int (nI p)), (1, .int (CTx σ τ nl)), (0, .ref ((eG E).2.1 100))] [] σ τ' o := by
    intro τ1 hC m
    induction m with
    | zero =>
      intro p τ' hp hN
      have e : p = nl := by omega
      subst e
      have hR : RWx σ τ nw p τ' := ⟨fun c c1 c2 => by rw [hN.1 c (by omega) (by omega), hC.1 c c2], fun i => by rw [hN.1 17 (by decide) (by decide)]; exact hC.2.2.2.1 i, hN.2.1, fun q hq => by rw [(hN.2.2 q hq).1, (hN.2.2 q hq).2, hC.1 7 (by decide), hC.1 8 (by decide)]; exact ⟨rfl, rfl⟩⟩
      refine g_iload_n C dX0_reword_11 rfl rfl ?_
      refine g_aload_n C dX0_reword_12 rfl rfl ?_
      refine g_getX C 9 dX0_reword_13 mwX0_reword_inX (by decide) mwX0_reword_f39 rfl rfl ?_
      refine g_icmp_ge (tgt := 49) C dX0_reword_16 (by decide) (fun c_16 => ?_) (fun c_16 => ?_)
      · refine g_iload_n C dX0_reword_49 rfl rfl ?_
        refine g_aload_n C dX0_reword_50 rfl rfl ?_
        refine g_callVEi (Cl := RX0) (T := TX0) (N := 18) (ci := 0) (q0 := 0) (na := 0) C dX0_reword_51 (c_count hl (eG E) σ τ' o nw p lm (RWx_I I hR)) gX0_reword_X0_count rfl rfl (by decide +kernel) rfl rfl rfl (Nat.le_of_ble_eq_true rfl) (by rw [R]; exact ⟨by decide, by decide⟩) (by rw [R]; exact ⟨by decide, by decide⟩) ?_
        refine g_isub C dX0_reword_54 ?_
        exact g_iret C F dX0_reword_55 (by decide) (by decide) ⟨_, rfl, rfl, rfl, rfl, hR⟩
      · exact absurd (by rw [h9]; exact i_rf _) c_16
    | succ m ih =>
      intro p τ' hp hN
      have hpl : p < nl := by omega
      refine g_iload_n C dX0_reword_11 rfl rfl ?_
      refine g_aload_n C dX0_reword_12 rfl rfl ?_
      refine g_getX C 9 dX0_reword_13 mwX0_reword_inX (by decide) mwX0_reword_f39 rfl rfl ?_
      refine g_icmp_ge (tgt := 49) C dX0_reword_16 (by decide) (fun c_16 => ?_) (fun c_16 => ?_)
      · exact absurd (by rw [h9] at c_16; exact c_16) (nI_ge (by omega) (by omega))
      · refine g_aload_n C dX0_reword_19 rfl rfl ?_
        refine g_getX C 7 dX0_reword_20 mwX0_reword_inX (by decide) mwX0_reword_f32 rfl rfl ?_
        refine g_iload_n C dX0_reword_23 rfl rfl ?_
        refine g_aload_n C dX0_reword_24 rfl rfl ?_
        refine g_getX C 16 dX0_reword_25 mwX0_reword_inX (by decide) mwX0_reword_f60 rfl rfl ?_
        refine g_iload_n C dX0_reword_28 rfl rfl ?_
        refine g_ialdN C (p) dX0_reword_29 rfl rfl (show p < 16 by omega) (by decide) ?_
        have eW : τ' 16 p = cwd (prx σ τ nw nl) (Sx σ τ nw nl) (Ax σ τ nw nl) (Bx σ τ nw nl) p := by rw [hN.1 16 (by decide) (by decide)]; exact (hC.2.2.2.2 p hpl).1
        refine g_iastN C (p) dX0_reword_30 rfl rfl (show p < 16 by omega) (by decide) rfl ?_
        refine g_aload_n C dX0_reword_31 rfl rfl ?_
        refine g_getX C 8 dX0_reword_32 mwX0_reword_inX (by decide) mwX0_reword_f35 rfl rfl ?_
        refine g_iload_n C dX0_reword_35 rfl rfl ?_
        refine g_aload_n C dX0_reword_36 rfl rfl ?_
        refine g_getX C 17 dX0_reword_37 mwX0_reword_inX (by decide) mwX0_reword_f63 rfl rfl ?_
        refine g_iload_n C dX0_reword_40 rfl rfl ?_
        have eJ : uT τ' 7 p (τ' 16 p) 17 p = cjd (prx σ τ nw nl) p := by rw [uT_ne (by decide), hN.1 17 (by decide) (by decide)]; exact (hC.2.2.2.2 p hpl).2
        refine g_zaldN C (p) dX0_reword_41 rfl rfl (show p < 16 by omega) (by decide) ?_
        refine g_zastN C (p) dX0_reword_42 rfl rfl (show p < 16 by omega) (by decide) (by rw [eJ]; exact cjd_01 _ _) rfl ?_
        refine g_iinc C 0 [(2, _), (1, _), (0, _)] dX0_reword_43 rfl (nI_i1 p) (by decide) rfl ?_
        refine g_goto (tgt := 11) C dX0_reword_46 (by decide) ?_
        exact ih (p + 1) _ (by omega) (RW_next (by decide) hN eW eJ)
  refine g_aload_n C dX0_reword_0 rfl rfl ?_
  refine g_callVEi (Cl := RX0) (T := TX0) (N := 18) (ci := 0) (q0 := 0) (na := 0) C dX0_reword_1 (c_count hl (eG E) σ τ o nw nl lm I) gX0_reword_X0_count rfl rfl (by decide +kernel) rfl rfl rfl (Nat.le_of_ble_eq_true rfl) (by rw [R]; exact ⟨by decide, by decide⟩) (by rw [R]; exact ⟨by decide, by decide⟩) ?_
  refine g_istore_n C [(1, _), (0, _)] dX0_reword_4 rfl (by decide) rfl ?_
  refine g_aload_n C dX0_reword_5 rfl rfl ?_
  refine g_callVv (Cl := RX0) (T := TX0) (N := 18) (ci := 0) (q0 := 0) (na := 0) C dX0_reword_6 (c_noteWording hl (eG E) σ τ o nw nl lm I) gX0_reword_X0_noteCheapestWording rfl rfl (by decide +kernel) rfl rfl rfl (Nat.le_of_ble_eq_true rfl) (by rw [R]; exact ⟨by decide, by decide⟩) (by rw [R]; exact ⟨by decide, by decide⟩) noX_kx (fun σ1 τ1 o1 hN1 => ?_)
  obtain ⟨e1, e2, hN⟩ := hN1
  rw [e1, e2]
  refine g_iconst (v := 0) C dX0_reword_9 (by decide) ?_
  refine g_istore_n C [(2, _), (1, _), (0, _)] dX0_reword_10 rfl (by decide) rfl ?_
  exact loop τ1 hN nl 0 τ1 (Nat.zero_add _) ⟨fun _ _ _ => rfl, fun q hq => absurd hq (Nat.not_lt_zero q), fun _ _ => ⟨rfl, rfl⟩⟩
end
section
/-! a Sim in numbers; its leaves -/
/-- so many limits for so many letters -/
def cN (lm x : Nat) : Nat := (x + lm - 1) / lm
theorem lm_cs {lm : Nat} (h : 3 ≤ lm ∧ lm ≤ 15) : lm = 3 ∨ lm = 4 ∨ lm = 5 ∨ lm = 6 ∨ lm = 7 ∨ lm = 8 ∨ lm = 9 ∨ lm = 10 ∨ lm = 11 ∨ lm = 12 ∨ lm = 13 ∨ lm = 14 ∨ lm = 15 := by omega
theorem cN_0 {lm x : Nat} (h : 3 ≤ lm ∧ lm ≤ 15) (h0 : x % lm = 0) : cN lm x = x / lm := by
  unfold cN
  rcases lm_cs h with rfl | rfl | rfl | rfl | rfl | rfl | rfl | rfl | rfl | rfl | rfl | rfl | rfl <;> omega
theorem cN_1 {lm x : Nat} (h : 3 ≤ lm ∧ lm ≤ 15) (h0 : ¬ x % lm = 0) : cN lm x = x / lm + 1 := by
  unfold cN
  rcases lm_cs h with rfl | rfl | rfl | rfl | rfl | rfl | rfl | rfl | rfl | rfl | rfl | rfl | rfl <;> omega
theorem cN_le {lm x : Nat} (h : 3 ≤ lm ∧ lm ≤ 15) : cN lm x ≤ x := by
  unfold cN
  rcases lm_cs h with rfl | rfl | rfl | rfl | rfl | rfl | rfl | rfl | rfl | rfl | rfl | rfl | rfl <;> omega
theorem cN_sub {lm x y : Nat} (h : 3 ≤ lm ∧ lm ≤ 15) : cN lm (x + y) ≤ cN lm x + cN lm y := by
  unfold cN
  rcases lm_cs h with rfl | rfl | rfl | rfl | rfl | rfl | rfl | rfl | rfl | rfl | rfl | rfl | rfl <;> omega
theorem cN_up {lm x : Nat} (h : 3 ≤ lm ∧ lm ≤ 15) : x ≤ cN lm x * lm ∧ (0 < x → (cN lm x - 1) * lm < x ∧ 0 < cN lm x) := by
  unfold cN
  rcases lm_cs h with rfl | rfl | rfl | rfl | rfl | rfl | rfl | rfl | rfl | rfl | rfl | rfl | rfl <;> omega
def ltF (t : gT) (w : Nat) : Nat := (t 6 w).toNatClampNeg
def tgF (t : gT) (i : Nat) : Nat := (t 9 i).toNatClampNeg
def mayF (t : gT) (w b : Nat) : Bool := decide (w = b) || decide (¬ t (20 + w) b = 0)
def jnF (t : gT) (a b : Nat) : Bool := decide (¬ t (40 + a) b = 0)
/-- what stands of a Sim: nw words, m places, the limit lm -/
def SV (nw m lm : Nat) (s : gS) (t : gT) : Prop := s 0 = nI nw ∧ s 1 = nI lm ∧ nw ≤ 12 ∧ m ≤ 16 ∧ (3 ≤ lm ∧ lm ≤ 15) ∧ (∀ i, i < m → t 9 i = nI (tgF t i) ∧ tgF t i < nw) ∧ (∀ w, w < nw → t 6 w = nI (ltF t w) ∧ 1 ≤ ltF t w ∧ ltF t w ≤ 30) ∧ (∀ a b, t (20 + a) b = 0 ∨ t (20 + a) b = 1) ∧ (∀ a b, t (40 + a) b = 0 ∨ t (40 + a) b = 1) ∧ ∀ i, t 10 i = 0 ∨ t 10 i = 1
section
variable {nw m lm : Nat} {s : gS} {t : gT}
theorem SV_0 (I : SV nw m lm s t) : s 0 = nI nw := I.1
theorem SV_1 (I : SV nw m lm s t) : s 1 = nI lm := I.2.1
theorem SV_nw (I : SV nw m lm s t) : nw ≤ 12 := I.2.2.1
theorem SV_m (I : SV nw m lm s t) : m ≤ 16 := I.2.2.2.1
theorem SV_lm (I : SV nw m lm s t) : 3 ≤ lm ∧ lm ≤ 15 := I.2.2.2.2.1
theorem SV_tg (I : SV nw m lm s t) {i : Nat} (h : i < m) : t 9 i = nI (tgF t i) ∧ tgF t i < nw := I.2.2.2.2.2.1 i h
theorem SV_lt (I : SV nw m lm s t) {w : Nat} (h : w < nw) : t 6 w = nI (ltF t w) ∧ 1 ≤ ltF t w ∧ ltF t w ≤ 30 := I.2.2.2.2.2.2.1 w h
theorem SV_st (I : SV nw m lm s t) (a b : Nat) : t (20 + a) b = 0 ∨ t (20 + a) b = 1 := I.2.2.2.2.2.2.2.1 a b
theorem SV_jn (I : SV nw m lm s t) (a b : Nat) : t (40 + a) b = 0 ∨ t (40 + a) b = 1 := I.2.2.2.2.2.2.2.2.1 a b
theorem SV_jd (I : SV nw m lm s t) (i : Nat) : t 10 i = 0 ∨ t 10 i = 1 := I.2.2.2.2.2.2.2.2.2 i
theorem SV_ne (I : SV nw m lm s t) : ¬ s 1 = 0 := by
  rw [SV_1 I]
  have := SV_lm I
  exact nI_ne0 (by omega) (by omega)
end
def zb (b : Bool) : Int32 := if b = true then 1 else 0
theorem zb_01 (b : Bool) : zb b = 0 ∨ zb b = 1 := by cases b <;> simp [zb]
set_option maxRecDepth 100000 in
theorem nwX1_counts_f7 : Cond.fieldLink RX1 7 "TelegraphPricesLaw$Sim" "limit" "I" ∈ wsX1_counts := by decide +kernel
set_option maxRecDepth 100000 in
theorem nwX1_counts_in : ∀ w ∈ wsX10, w ∈ wsX1_counts := by decide +kernel
set_option maxHeartbeats 4000000 in
set_option maxRecDepth 100000 in
theorem s_counts {l : Launch} (hl : l.stackTraces = false) (Γ : gG) (a : Nat → Nat) (m mj : Nat) (s : gS) (t : gT) (z : va_W) (lm y : Nat) (h1 : s 1 = nI lm) (h2 : 3 ≤ lm ∧ lm ≤ 15) (hy : y ≤ 1000) : CtJ l yX1_counts wsX1_counts 1 32 0 0 [.ref (a 100), .int (nI y)] Γ none (sW Γ a m mj s t ++ z) (jE (some (.int (nI (cN lm y)))) (sW Γ a m mj s t ++ z)) := by
  refine ctj_of (by decide +kernel) rfl (Nat.le_of_ble_eq_true rfl) ?_
  intro E C F N9 hΓ hL R
  subst hΓ
  subst hL
  show J E 0 0 0 [(0, .ref (a 100)), (1, .int (nI y))] [] (sW (eG E) a m mj s t ++ z)
  have hne : ¬ s 1 = 0 := by
    rw [h1]
    exact nI_ne0 (by omega) (by omega)
  refine j_iload_n C dX1_counts_0 rfl rfl ?_
  refine j_aload_n C dX1_counts_1 rfl rfl ?_
  refine j_get C 0 1 dX1_counts_2 nwX1_counts_in (by decide) nwX1_counts_f7 rfl rfl rfl ?_
  refine j_irem C dX1_counts_5 hne ?_
  refine j_if_ne (tgt := 18) C dX1_counts_6 (by decide) (fun c_6 => ?_) (fun c_6 => ?_)
  · have e : nI y / s 1 + 1 = nI (cN lm y) := by
      rw [h1] at c_6 ⊢
      rw [pk_rem (by omega) (by omega) (by omega)] at c_6
      rw [pk_div (by omega) (by omega) (by omega), nI_1, cN_1 h2 (fun q => c_6 (by rw [q]; rfl))]
    refine j_iload_n C dX1_counts_18 rfl rfl ?_
    refine j_aload_n C dX1_counts_19 rfl rfl ?_
    refine j_get C 0 1 dX1_counts_20 nwX1_counts_in (by decide) nwX1_counts_f7 rfl rfl rfl ?_
    refine j_idiv C dX1_counts_23 hne ?_
    refine j_iconst (v := 1) C dX1_counts_24 (by decide) ?_
    refine j_iadd C dX1_counts_25 ?_
    exact j_iret C F dX1_counts_26 (Nat.le_of_ble_eq_true rfl) (Nat.le_of_ble_eq_true rfl) ⟨by rw [e], rfl⟩
  · have e : nI y / s 1 = nI (cN lm y) := by
      rw [h1] at c_6 ⊢
      rw [pk_rem (by omega) (by omega) (by omega)] at c_6
      have e0 : y % lm = 0 := by
        rcases Nat.eq_zero_or_pos (y % lm) with q | q
        · exact q
        · exact absurd c_6 (nI_ne0 q (Nat.lt_of_le_of_lt (Nat.mod_le _ _) (by omega)))
      rw [pk_div (by omega) (by omega) (by omega), cN_0 h2 e0]
    refine j_iload_n C dX1_counts_9 rfl rfl ?_
    refine j_aload_n C dX1_counts_10 rfl rfl ?_
    refine j_get C 0 1 dX1_counts_11 nwX1_counts_in (by decide) nwX1_counts_f7 rfl rfl rfl ?_
    refine j_idiv C dX1_counts_14 hne ?_
    refine j_goto (tgt := 26) C dX1_counts_15 (by decide) ?_
    exact j_iret C F dX1_counts_26 (Nat.le_of_ble_eq_true rfl) (Nat.le_of_ble_eq_true rfl) ⟨by rw [e], rfl⟩
set_option maxRecDepth 100000 in
theorem nwX1_lifted_f31 : Cond.fieldLink RX1 31 "TelegraphPricesLaw$Sim" "word" "[I" ∈ wsX1_lifted := by decide +kernel
set_option maxRecDepth 100000 in
theorem nwX1_lifted_in : ∀ w ∈ wsX10, w ∈ wsX1_lifted := by decide +kernel
set_option maxRecDepth 100000 in
theorem nwX1_lifted_f13 : Cond.fieldLink RX1 13 "TelegraphPricesLaw$Sim" "least" "I" ∈ wsX1_lifted := by decide +kernel
set_option maxHeartbeats 4000000 in
set_option maxRecDepth 100000 in
theorem s_lifted {l : Launch} (hl : l.stackTraces = false) (Γ : gG) (a : Nat → Nat) (m mj : Nat) (s : gS) (t : gT) (z : va_W) (y : Int32) (hm : m ≤ 16) : CtJ l yX1_lifted wsX1_lifted 1 32 0 0 [.ref (a 100), .int y] Γ none (sW Γ a m mj s t ++ z) (jE (some (.int (al m (s 2) y))) (sW Γ a m mj s t ++ z)) := by
  refine ctj_of (by decide +kernel) rfl (Nat.le_of_ble_eq_true rfl) ?_
  intro E C F N9 hΓ hL R
  subst hΓ
  subst hL
  show J E 0 0 0 [(0, .ref (a 100)), (1, .int y)] [] (sW (eG E) a m mj s t ++ z)
  refine j_aload_n C dX1_lifted_0 rfl rfl ?_
  refine j_get C 0 9 dX1_lifted_1 nwX1_lifted_in (by decide) nwX1_lifted_f31 rfl rfl rfl ?_
  refine j_alen C 4 0 dX1_lifted_4 rfl rfl ?_
  refine j_if_ne (tgt := 12) C dX1_lifted_5 (by decide) (fun c_5 => ?_) (fun c_5 => ?_)
  · have hm0 : ¬ m = 0 := fun q => c_5 (by rw [q]; rfl)
    refine j_iload_n C dX1_lifted_12 rfl rfl ?_
    refine j_aload_n C dX1_lifted_13 rfl rfl ?_
    refine j_get C 0 2 dX1_lifted_14 nwX1_lifted_in (by decide) nwX1_lifted_f13 rfl rfl rfl ?_
    refine j_icmp_ge (tgt := 27) C dX1_lifted_17 (by decide) (fun c_17 => ?_) (fun c_17 => ?_)
    · have e : al m (s 2) y = y := by
        unfold al
        rw [if_neg hm0, if_neg (i_ng c_17)]
      refine j_iload_n C dX1_lifted_27 rfl rfl ?_
      exact j_iret C F dX1_lifted_28 (Nat.le_of_ble_eq_true rfl) (Nat.le_of_ble_eq_true rfl) ⟨by rw [e], rfl⟩
    · have e : al m (s 2) y = s 2 := by
        unfold al
        rw [if_neg hm0, if_pos (i_nle c_17)]
      refine j_aload_n C dX1_lifted_20 rfl rfl ?_
      refine j_get C 0 2 dX1_lifted_21 nwX1_lifted_in (by decide) nwX1_lifted_f13 rfl rfl rfl ?_
      refine j_goto (tgt := 28) C dX1_lifted_24 (by decide) ?_
      exact j_iret C F dX1_lifted_28 (Nat.le_of_ble_eq_true rfl) (Nat.le_of_ble_eq_true rfl) ⟨by rw [e], rfl⟩
  · have hm0 : m = 0 := by
      rcases Nat.eq_zero_or_pos m with q | q
      · exact q
      · exact absurd c_5 (nI_ne0 q (by omega))
    have e : al m (s 2) y = 0 := if_pos hm0
    refine j_iconst (v := 0) C dX1_lifted_8 (by decide) ?_
    refine j_goto (tgt := 28) C dX1_lifted_9 (by decide) ?_
    exact j_iret C F dX1_lifted_28 (Nat.le_of_ble_eq_true rfl) (Nat.le_of_ble_eq_true rfl) ⟨by rw [e], rfl⟩
set_option maxRecDepth 100000 in
theorem nwX1_may_f25 : Cond.fieldLink RX1 25 "TelegraphPricesLaw$Sim" "stand" "[[Z" ∈ wsX1_may := by decide +kernel
set_option maxRecDepth 100000 in
theorem nwX1_may_in : ∀ w ∈ wsX10, w ∈ wsX1_may := by decide +kernel
set_option maxHeartbeats 4000000 in
set_option maxRecDepth 100000 in
theorem s_may {l : Launch} (hl : l.stackTraces = false) (Γ : gG) (a : Nat → Nat) (m mj : Nat) (s : gS) (t : gT) (z : va_W) (w b : Nat) (hw : w < 12) (hb9 : b < 12) : CtJ l yX1_may wsX1_may 1 32 0 0 [.ref (a 100), .int (nI w), .int (nI b)] Γ none (sW Γ a m mj s t ++ z) (jE (some (.int (zb (mayF t w b)))) (sW Γ a m mj s t ++ z)) := by
  refine ctj_of (by decide +kernel) rfl (Nat.le_of_ble_eq_true rfl) ?_
  intro E C F N9 hΓ hL R
  subst hΓ
  subst hL
  show J E 0 0 0 [(0, .ref (a 100)), (1, .int (nI w)), (2, .int (nI b))] [] (sW (eG E) a m mj s t ++ z)
  refine j_iload_n C dX1_may_0 rfl rfl ?_
  refine j_iload_n C dX1_may_1 rfl rfl ?_
  refine j_icmp_eq (tgt := 16) C dX1_may_2 (by decide) (fun c_2 => ?_) (fun c_2 => ?_)
  · have e : zb (mayF t w b) = 1 := by
      have q : w = b := by
        have := congrArg Int32.toNatClampNeg c_2
        rw [nI_clamp (by omega), nI_clamp (by omega)] at this
        exact this
      simp [zb, mayF, q]
    refine j_iconst (v := 1) C dX1_may_16 (by decide) ?_
    refine j_goto (tgt := 21) C dX1_may_17 (by decide) ?_
    exact j_zret C F dX1_may_21 (by first | exact Or.inl rfl | exact Or.inr rfl) (Nat.le_of_ble_eq_true rfl) (Nat.le_of_ble_eq_true rfl) ⟨by rw [e], rfl⟩
  · have hwb : ¬ w = b := fun q => c_2 (by rw [q])
    refine j_aload_n C dX1_may_5 rfl rfl ?_
    refine j_get C 0 7 dX1_may_6 nwX1_may_in (by decide) nwX1_may_f25 rfl rfl rfl ?_
    refine j_iload_n C dX1_may_9 rfl rfl ?_
    refine jS_row C 2 7 20 (w) dX1_may_10 rfl rfl hw ?_
    refine j_iload_n C dX1_may_11 rfl rfl ?_
    refine jS_st C [] (w) (b) dX1_may_12 rfl hw hb9 ?_
    refine j_if_eq (tgt := 20) C dX1_may_13 (by decide) (fun c_13 => ?_) (fun c_13 => ?_)
    · have e : zb (mayF t w b) = 0 := by simp [zb, mayF, hwb, c_13]
      refine j_iconst (v := 0) C dX1_may_20 (by decide) ?_
      exact j_zret C F dX1_may_21 (by first | exact Or.inl rfl | exact Or.inr rfl) (Nat.le_of_ble_eq_true rfl) (Nat.le_of_ble_eq_true rfl) ⟨by rw [e], rfl⟩
    · have e : zb (mayF t w b) = 1 := by simp [zb, mayF, c_13]
      refine j_iconst (v := 1) C dX1_may_16 (by decide) ?_
      refine j_goto (tgt := 21) C dX1_may_17 (by decide) ?_
      exact j_zret C F dX1_may_21 (by first | exact Or.inl rfl | exact Or.inr rfl) (Nat.le_of_ble_eq_true rfl) (Nat.le_of_ble_eq_true rfl) ⟨by rw [e], rfl⟩
/-- the sum, and the letters that wait, ahead of place p -/
def ssF (lm : Nat) (lt tg : Nat → Nat) (jd : Nat → Bool) : Nat → Nat × Nat
  | 0 => (0, 0)
  | p + 1 => if jd p = true then ((ssF lm lt tg jd p).1, (ssF lm lt tg jd p).2 + lt (tg p)) else ((ssF lm lt tg jd p).1 + cN lm ((ssF lm lt tg jd p).2 + lt (tg p)), 0)
theorem ssF_w {lm : Nat} {lt tg : Nat → Nat} {jd : Nat → Bool} : ∀ p, (∀ i, i < p → lt (tg i) ≤ 30) → (ssF lm lt tg jd p).2 ≤ 30 * p := by
  intro p
  induction p with
  | zero => exact fun _ => Nat.le_refl _
  | succ p ih =>
    intro h
    have h1 := ih (fun i hi => h i (by omega))
    have h2 := h p (by omega)
    show (if jd p = true then _ else _ : Nat × Nat).2 ≤ _
    by_cases q : jd p = true
    · rw [if_pos q]
      show _ + _ ≤ _
      omega
    · rw [if_neg q]
      exact Nat.zero_le _
def jdF (t : gT) (i : Nat) : Bool := decide (¬ t 10 i = 0)
abbrev SSx (lm : Nat) (t : gT) : Nat → Nat × Nat := ssF lm (ltF t) (tgF t) (jdF t)
set_option maxRecDepth 100000 in
theorem nwX1_sum_f19 : Cond.fieldLink RX1 19 "TelegraphPricesLaw$Sim" "letters" "[I" ∈ wsX1_sum := by decide +kernel
set_option maxRecDepth 100000 in
theorem nwX1_sum_in : ∀ w ∈ wsX10, w ∈ wsX1_sum := by decide +kernel
set_option maxHeartbeats 4000000 in
set_option maxRecDepth 100000 in
theorem s_sum {l : Launch} (hl : l.stackTraces = false) (Γ : gG) (a : Nat → Nat) (m : Nat) (s : gS) (t : gT) (z : va_W) (nw lm : Nat) (I : SV nw m lm s t) : CtJ l yX1_sum wsX1_sum 2 64 0 0 [.ref (a 100), .ref (a 9), .ref (a 10)] Γ none (sW Γ a m m s t ++ z) (jE (some (.int (nI (SSx lm t m).1))) (sW Γ a m m s t ++ z)) := by
  refine ctj_of (by decide +kernel) rfl (Nat.le_of_ble_eq_true rfl) ?_
  intro E C F N9 hΓ hL R
  subst hΓ
  subst hL
  show J E 0 0 0 [(0, .ref (a 100)), (1, .ref (a 9)), (2, .ref (a 10))] [] (sW (eG E) a m m s t ++ z)
  have hnw := SV_nw I
  have hm := SV_m I
  have loop : ∀ d p : Nat, p + d = m → J E 0 0 8 [(5, .int (nI p)), (4, .int (nI (SSx lm t p).2)), (3, .int (nI (SSx lm t p).1)), (0, .ref (a 100)), (1, .ref (a 9)), (2, .ref (a 10))] [] (sW (eG E) a m m s t ++ z) := by
    intro d
    induction d with
    | zero =>
      intro p hp
      refine j_iload C dX1_sum_8 rfl ?_
      refine j_aload_n C dX1_sum_10 rfl rfl ?_
      refine j_alen C 4 0 dX1_sum_11 rfl rfl ?_
      refine j_icmp_ge (tgt := 57) C dX1_sum_12 (by decide) (fun c_12 => ?_) (fun c_12 => ?_)
      · refine j_iload_n C dX1_sum_57 rfl rfl ?_
        exact j_iret C F dX1_sum_58 (Nat.le_of_ble_eq_true rfl) (Nat.le_of_ble_eq_true rfl) ⟨by rw [show p = m by omega], rfl⟩
      · exact absurd (nI_le (by omega) (by omega)) c_12
    | succ d ih =>
      intro p hp
      have hpm : p < m := by omega
      obtain ⟨e9, h9⟩ := SV_tg I hpm
      obtain ⟨e6, h6a, h6b⟩ := SV_lt I h9
      have hw : (SSx lm t p).2 ≤ 30 * p := ssF_w (lm := lm) (lt := ltF t) (tg := tgF t) (jd := jdF t) p (fun i hi => (SV_lt I (SV_tg I (show i < m by omega)).2).2.2)
      refine j_iload C dX1_sum_8 rfl ?_
      refine j_aload_n C dX1_sum_10 rfl rfl ?_
      refine j_alen C 4 0 dX1_sum_11 rfl rfl ?_
      refine j_icmp_ge (tgt := 57) C dX1_sum_12 (by decide) (fun c_12 => ?_) (fun c_12 => ?_)
      · exact absurd c_12 (nI_ge (by omega) (by omega))
      · refine j_iload C dX1_sum_15 rfl ?_
        refine j_aload_n C dX1_sum_17 rfl rfl ?_
        refine j_get C 0 6 dX1_sum_18 nwX1_sum_in (by decide) nwX1_sum_f19 rfl rfl rfl ?_
        refine j_aload_n C dX1_sum_21 rfl rfl ?_
        refine j_iload C dX1_sum_22 rfl ?_
        refine j_iald C 4 (p) dX1_sum_24 rfl rfl hpm (by omega) ?_
        rw [e9]
        refine j_iald C 1 (tgF t p) dX1_sum_25 rfl rfl (show tgF t p < 12 by omega) (by decide) ?_
        rw [e6]
        refine j_iadd C dX1_sum_26 ?_
        rw [nI_add]
        refine j_istore C [(4, _), (5, _), (3, _), (0, _), (1, _), (2, _)] dX1_sum_27 (by decide) rfl ?_
        refine j_aload_n C dX1_sum_29 rfl rfl ?_
        refine j_iload C dX1_sum_30 rfl ?_
        refine j_zald C 5 (p) dX1_sum_32 rfl rfl hpm (by omega) ?_
        refine j_if_eq (tgt := 39) C dX1_sum_33 (by decide) (fun c_33 => ?_) (fun c_33 => ?_)
        · have e : SSx lm t (p + 1) = ((SSx lm t p).1 + cN lm ((SSx lm t p).2 + ltF t (tgF t p)), 0) := by
            show (if jdF t p = true then _ else _) = _
            rw [if_neg (by simp [jdF, c_33])]
          refine j_iload_n C dX1_sum_39 rfl rfl ?_
          refine j_aload_n C dX1_sum_40 rfl rfl ?_
          refine j_iload C dX1_sum_41 rfl ?_
          refine j_callE (q0 := 0) (na := 1) C dX1_sum_43 (s_counts hl (eG E) a m m s t z lm _ (SV_1 I) (SV_lm I) (by omega)) gX1_sum_X1_counts rfl rfl (by decide +kernel) rfl rfl (Nat.le_of_ble_eq_true rfl) (by rw [R]; exact ⟨Nat.le_of_ble_eq_true rfl, Nat.le_of_ble_eq_true rfl⟩) (by rw [R]; exact ⟨Nat.le_of_ble_eq_true rfl, Nat.le_of_ble_eq_true rfl⟩) ?_
          refine j_iadd C dX1_sum_46 ?_
          rw [nI_add]
          refine j_istore_n C [(3, _), (4, _), (5, _), (0, _), (1, _), (2, _)] dX1_sum_47 rfl (by decide) rfl ?_
          refine j_iconst (v := 0) C dX1_sum_48 (by decide) ?_
          refine j_istore C [(4, _), (3, _), (5, _), (0, _), (1, _), (2, _)] dX1_sum_49 (by decide) rfl ?_
          refine j_iinc C 2 [(5, _), (4, _), (3, _), (0, _), (1, _), (2, _)] dX1_sum_51 rfl (nI_i1 p) (by decide) rfl ?_
          refine j_goto (tgt := 8) C dX1_sum_54 (by decide) ?_
          rw [← hp] at ih
          have g := ih (p + 1) (by omega)
          rw [hp] at g
          rw [e] at g
          exact g
        · have e : SSx lm t (p + 1) = ((SSx lm t p).1, (SSx lm t p).2 + ltF t (tgF t p)) := by
            show (if jdF t p = true then _ else _) = _
            rw [if_pos (by simp [jdF, c_33])]
          refine j_goto (tgt := 51) C dX1_sum_36 (by decide) ?_
          refine j_iinc C 1 [(5, _), (4, _), (3, _), (0, _), (1, _), (2, _)] dX1_sum_51 rfl (nI_i1 p) (by decide) rfl ?_
          refine j_goto (tgt := 8) C dX1_sum_54 (by decide) ?_
          rw [← hp] at ih
          have g := ih (p + 1) (by omega)
          rw [hp] at g
          rw [e] at g
          exact g
  refine j_iconst (v := 0) C dX1_sum_0 (by decide) ?_
  refine j_istore_n C [(3, _), (0, _), (1, _), (2, _)] dX1_sum_1 rfl (by decide) rfl ?_
  refine j_iconst (v := 0) C dX1_sum_2 (by decide) ?_
  refine j_istore C [(4, _), (3, _), (0, _), (1, _), (2, _)] dX1_sum_3 (by decide) rfl ?_
  refine j_iconst (v := 0) C dX1_sum_5 (by decide) ?_
  refine j_istore C [(5, _), (4, _), (3, _), (0, _), (1, _), (2, _)] dX1_sum_6 (by decide) rfl ?_
  exact loop m 0 (Nat.zero_add _)
set_option maxRecDepth 100000 in
theorem nwX1_count_f31 : Cond.fieldLink RX1 31 "TelegraphPricesLaw$Sim" "word" "[I" ∈ wsX1_count := by decide +kernel
set_option maxRecDepth 100000 in
theorem nwX1_count_in : ∀ w ∈ wsX10, w ∈ wsX1_count := by decide +kernel
set_option maxRecDepth 100000 in
theorem nwX1_count_f34 : Cond.fieldLink RX1 34 "TelegraphPricesLaw$Sim" "joined" "[Z" ∈ wsX1_count := by decide +kernel
set_option maxHeartbeats 4000000 in
set_option maxRecDepth 100000 in
theorem s_count {l : Launch} (hl : l.stackTraces = false) (Γ : gG) (a : Nat → Nat) (m : Nat) (s : gS) (t : gT) (z : va_W) (nw lm : Nat) (I : SV nw m lm s t) : CtJ l yX1_count wsX1_count 3 96 0 0 [.ref (a 100)] Γ none (sW Γ a m m s t ++ z) (jE (some (.int (al m (s 2) (nI (SSx lm t m).1)))) (sW Γ a m m s t ++ z)) := by
  refine ctj_of (by decide +kernel) rfl (Nat.le_of_ble_eq_true rfl) ?_
  intro E C F N9 hΓ hL R
  subst hΓ
  subst hL
  show J E 0 0 0 [(0, .ref (a 100))] [] (sW (eG E) a m m s t ++ z)
  refine j_aload_n C dX1_count_0 rfl rfl ?_
  refine j_aload_n C dX1_count_1 rfl rfl ?_
  refine j_aload_n C dX1_count_2 rfl rfl ?_
  refine j_get C 0 9 dX1_count_3 nwX1_count_in (by decide) nwX1_count_f31 rfl rfl rfl ?_
  refine j_aload_n C dX1_count_6 rfl rfl ?_
  refine j_get C 0 10 dX1_count_7 nwX1_count_in (by decide) nwX1_count_f34 rfl rfl rfl ?_
  refine j_callE (q0 := 0) (na := 2) C dX1_count_10 (s_sum hl (eG E) a m s t z nw lm I) gX1_count_X1_sum rfl rfl (by decide +kernel) rfl rfl (Nat.le_of_ble_eq_true rfl) (by rw [R]; exact ⟨Nat.le_of_ble_eq_true rfl, Nat.le_of_ble_eq_true rfl⟩) (by rw [R]; exact ⟨Nat.le_of_ble_eq_true rfl, Nat.le_of_ble_eq_true rfl⟩) ?_
  refine j_callE (q0 := 0) (na := 1) C dX1_count_13 (s_lifted hl (eG E) a m m s t z _ (SV_m I)) gX1_count_X1_lifted rfl rfl (by decide +kernel) rfl rfl (Nat.le_of_ble_eq_true rfl) (by rw [R]; exact ⟨Nat.le_of_ble_eq_true rfl, Nat.le_of_ble_eq_true rfl⟩) (by rw [R]; exact ⟨Nat.le_of_ble_eq_true rfl, Nat.le_of_ble_eq_true rfl⟩) ?_
  exact j_iret C F dX1_count_16 (Nat.le_of_ble_eq_true rfl) (Nat.le_of_ble_eq_true rfl) ⟨rfl, rfl⟩
end
section
/-! upTo, cheapest -/
def uB (x0 : Nat) (c : Nat → Nat) (ok : Nat → Bool) (m0 : Nat) : Nat → Nat
  | 0 => m0
  | b + 1 => if ok b = true then min (uB x0 c ok m0 b) (x0 + c b) else uB x0 c ok m0 b
theorem uB_no {x0 m0 b : Nat} {c : Nat → Nat} {ok : Nat → Bool} (h : ok b = false) : uB x0 c ok m0 (b + 1) = uB x0 c ok m0 b := by
  show (if ok b = true then _ else _) = _
  rw [if_neg (by rw [h]; decide)]
theorem uB_yes {x0 m0 b : Nat} {c : Nat → Nat} {ok : Nat → Bool} (h : ok b = true) : uB x0 c ok m0 (b + 1) = min (uB x0 c ok m0 b) (x0 + c b) := by
  show (if ok b = true then _ else _) = _
  rw [if_pos h]
theorem uB_le {x0 m0 : Nat} {c : Nat → Nat} {ok : Nat → Bool} : ∀ b, uB x0 c ok m0 b ≤ m0 := by
  intro b
  induction b with
  | zero => exact Nat.le_refl _
  | succ b ih =>
    cases h : ok b with
    | false => rw [uB_no h]; exact ih
    | true => rw [uB_yes h]; omega
def uA (p u1 u0 N : Nat) (c1 : Nat → Nat) (c2 : Nat → Nat → Nat) (ok : Nat → Bool) (ok2 : Nat → Nat → Bool) : Nat → Nat
  | 0 => 9999
  | a + 1 => if ok a = true then (if p = 0 then min (uA p u1 u0 N c1 c2 ok ok2 a) (u1 + c1 a) else uB u0 (fun b => c2 b a) (fun b => ok2 b a) (min (uA p u1 u0 N c1 c2 ok ok2 a) (u1 + c1 a)) N) else uA p u1 u0 N c1 c2 ok ok2 a
section
variable {p u1 u0 N a : Nat} {c1 : Nat → Nat} {c2 : Nat → Nat → Nat} {ok : Nat → Bool} {ok2 : Nat → Nat → Bool}
theorem uA_no (h : ok a = false) : uA p u1 u0 N c1 c2 ok ok2 (a + 1) = uA p u1 u0 N c1 c2 ok ok2 a := by
  show (if ok a = true then _ else _) = _
  rw [if_neg (by rw [h]; decide)]
theorem uA_z (h : ok a = true) (h0 : p = 0) : uA p u1 u0 N c1 c2 ok ok2 (a + 1) = min (uA p u1 u0 N c1 c2 ok ok2 a) (u1 + c1 a) := by
  show (if ok a = true then _ else _) = _
  rw [if_pos h, if_pos h0]
theorem uA_p (h : ok a = true) (h0 : ¬ p = 0) : uA p u1 u0 N c1 c2 ok ok2 (a + 1) = uB u0 (fun b => c2 b a) (fun b => ok2 b a) (min (uA p u1 u0 N c1 c2 ok ok2 a) (u1 + c1 a)) N := by
  show (if ok a = true then _ else _) = _
  rw [if_pos h, if_neg h0]
end
theorem uA_le {p u1 u0 N : Nat} {c1 : Nat → Nat} {c2 : Nat → Nat → Nat} {ok : Nat → Bool} {ok2 : Nat → Nat → Bool} : ∀ a, uA p u1 u0 N c1 c2 ok ok2 a ≤ 9999 := by
  intro a
  induction a with
  | zero => exact Nat.le_refl _
  | succ a ih =>
    cases h : ok a with
    | false => rw [uA_no h]; exact ih
    | true =>
      by_cases h0 : p = 0
      · rw [uA_z h h0]; omega
      · rw [uA_p h h0]
        exact Nat.le_trans (uB_le N) (by omega)
def uU (lm N : Nat) (lt : Nat → Nat) (may jn : Nat → Nat → Bool) (tg : Nat → Nat) : Nat → Nat × Nat
  | 0 => (0, 0)
  | p + 1 => (uA p (uU lm N lt may jn tg p).1 (uU lm N lt may jn tg p).2 N (fun a => cN lm (lt a)) (fun b a => cN lm (lt a + lt b)) (fun a => may (tg p) a) (fun b a => may (tg (p - 1)) b && jn b a) N, (uU lm N lt may jn tg p).1)
theorem uU_le {lm N : Nat} {lt : Nat → Nat} {may jn : Nat → Nat → Bool} {tg : Nat → Nat} : ∀ p, (uU lm N lt may jn tg p).1 ≤ 9999 := by
  intro p
  cases p with
  | zero => exact Nat.zero_le _
  | succ p => exact uA_le _
theorem uU_2 {lm N : Nat} {lt : Nat → Nat} {may jn : Nat → Nat → Bool} {tg : Nat → Nat} {p : Nat} (h : ¬ p = 0) : (uU lm N lt may jn tg p).2 = (uU lm N lt may jn tg (p - 1)).1 := by
  cases p with
  | zero => exact absurd rfl h
  | succ p => rfl
theorem nI_min {x y : Nat} (hx : x < 2 ^ 31) (hy : y < 2 ^ 31) : (if nI y < nI x then nI y else nI x) = nI (min x y) := by
  by_cases q : y < x
  · rw [if_pos ((nI_ltI hy hx).mpr q), show min x y = y by omega]
  · rw [if_neg (fun z => q ((nI_ltI hy hx).mp z)), show min x y = x by omega]
theorem nI_eq0 {x : Nat} (h : nI x = 0) (hx : x < 2 ^ 31) : x = 0 := by
  rcases Nat.eq_zero_or_pos x with q | q
  · exact q
  · exact absurd h (nI_ne0 q hx)
theorem zb_0 {b : Bool} (h : zb b = 0) : b = false := by cases b with | false => rfl | true => exact absurd h (by decide)
theorem zb_1 {b : Bool} (h : ¬ zb b = 0) : b = true := by cases b with | true => rfl | false => exact absurd rfl h
abbrev UUx (lm nw : Nat) (t : gT) : Nat → Nat × Nat := uU lm nw (ltF t) (mayF t) (jnF t) (tgF t)
abbrev UAx (lm nw : Nat) (t : gT) (p : Nat) : Nat → Nat := uA p (UUx lm nw t p).1 (UUx lm nw t p).2 nw (fun a => cN lm (ltF t a)) (fun b a => cN lm (ltF t a + ltF t b)) (fun a => mayF t (tgF t p) a) (fun b a => mayF t (tgF t (p - 1)) b && jnF t b a)
abbrev UBx (lm nw : Nat) (t : gT) (p a m0 : Nat) : Nat → Nat := uB (UUx lm nw t p).2 (fun b => cN lm (ltF t a + ltF t b)) (fun b => mayF t (tgF t (p - 1)) b && jnF t b a) m0
set_option maxRecDepth 100000 in
theorem nwX1_upTo_f31 : Cond.fieldLink RX1 31 "TelegraphPricesLaw$Sim" "word" "[I" ∈ wsX1_upTo := by decide +kernel
set_option maxRecDepth 100000 in
theorem nwX1_upTo_in : ∀ w ∈ wsX10, w ∈ wsX1_upTo := by decide +kernel
set_option maxRecDepth 100000 in
theorem nwX1_upTo_f49 : Cond.fieldLink RX1 49 "TelegraphPricesLaw$Sim" "words" "I" ∈ wsX1_upTo := by decide +kernel
set_option maxRecDepth 100000 in
theorem nwX1_upTo_f28 : Cond.fieldLink RX1 28 "TelegraphPricesLaw$Sim" "join" "[[Z" ∈ wsX1_upTo := by decide +kernel
set_option maxRecDepth 100000 in
theorem nwX1_upTo_f19 : Cond.fieldLink RX1 19 "TelegraphPricesLaw$Sim" "letters" "[I" ∈ wsX1_upTo := by decide +kernel
set_option maxRecDepth 100000 in
theorem nwX1_upTo_l56 : Cond.methodLink RX1 56 Lib.Math.min.name ∈ wsX1_upTo := by decide +kernel
set_option maxRecDepth 100000 in
theorem nwX1_upTo_smin : Cond.static Lib.Math.min.name ∈ wsX1_upTo := by decide +kernel
set_option maxRecDepth 100000 in
theorem nwX1_upTo_iMath : Cond.initialized "java/lang/Math" ∈ wsX1_upTo := by decide +kernel
set_option maxRecDepth 100000 in
theorem nwX1_upTo_kmin : Cond.code Lib.Math.min.name Lib.Math.min.code 2 (some .int) ∈ wsX1_upTo := by decide +kernel
set_option maxRecDepth 100000 in
theorem nwX1_upTo_arI : Cond.arrayClass .int ∈ wsX1_upTo := by decide +kernel
set_option maxHeartbeats 4000000 in
set_option maxRecDepth 100000 in
theorem s_upTo {l : Launch} (hl : l.stackTraces = false) (Γ : gG) (a : Nat → Nat) (m mj : Nat) (s : gS) (t : gT) (z : va_W) (nw lm : Nat) (I : SV nw m lm s t) : CtJ l yX1_upTo wsX1_upTo 3 96 1 17 [.ref (a 100)] Γ none (sW Γ a m mj s t ++ z) (fun v w' => ∃ (q : Nat) (f : Nat → Int32), v = some (.ref q) ∧ w' = sW Γ a m mj s t ++ ((q, .inl (Γ.2.2.1, m + 1, .inl f)) :: z) ∧ ∀ j, j ≤ m → f j = nI (UUx lm nw t j).1) := by
  refine ctj_of (by decide +kernel) rfl (Nat.le_of_ble_eq_true rfl) ?_
  intro E C F N9 hΓ hL R
  subst hΓ
  subst hL
  show J E 0 0 0 [(0, .ref (a 100))] [] (sW (eG E) a m mj s t ++ z)
  have hnw := SV_nw I
  have hm := SV_m I
  have loop : ∀ (q d p : Nat) (f : Nat → Int32), p + d = m → (∀ j, j ≤ p → f j = nI (UUx lm nw t j).1) → J E (0 + 1) (0 + 17) 12 [(2, .int (nI p)), (0, .ref (a 100)), (1, .ref q)] [] (sW (eG E) a m mj s t ++ ((q, .inl (jC0 E, m + 1, .inl f)) :: z)) := by
    intro q d
    induction d with
    | zero =>
      intro p f hp hf
      refine j_iload_n C dX1_upTo_12 rfl rfl ?_
      refine j_aload_n C dX1_upTo_13 rfl rfl ?_
      refine j_get C 0 9 dX1_upTo_14 nwX1_upTo_in (by decide) nwX1_upTo_f31 rfl rfl rfl ?_
      refine j_alen C 4 0 dX1_upTo_17 rfl rfl ?_
      refine j_icmp_ge (tgt := 183) C dX1_upTo_18 (by decide) (fun c_18 => ?_) (fun c_18 => ?_)
      · refine j_aload_n C dX1_upTo_183 rfl rfl ?_
        exact j_aret C F (Or.inr ⟨_, rfl⟩) dX1_upTo_184 (Nat.le_of_ble_eq_true rfl) (Nat.le_of_ble_eq_true rfl) ⟨q, f, rfl, rfl, fun j hj => hf j (by omega)⟩
      · exact absurd (nI_le (by omega) (by omega)) c_18
    | succ d ih =>
      intro p f hp hf
      have hpm : p < m := by omega
      obtain ⟨e9, h9⟩ := SV_tg I hpm
      have hU1 : (UUx lm nw t p).1 ≤ 9999 := uU_le p
      have hU0 : (UUx lm nw t p).2 ≤ 9999 := by
        by_cases h0 : p = 0
        · subst h0
          exact Nat.zero_le _
        · rw [uU_2 h0]
          exact uU_le _
      have la : ∀ (e a9 : Nat) (f : Nat → Int32), a9 + e = nw → (∀ j, j ≤ p → f j = nI (UUx lm nw t j).1) → f (p + 1) = nI (UAx lm nw t p a9) → J E (0 + 1) (0 + 17) 31 [(3, .int (nI a9)), (2, .int (nI p)), (0, .ref (a 100)), (1, .ref q)] [] (sW (eG E) a m mj s t ++ ((q, .inl (jC0 E, m + 1, .inl f)) :: z)) := by
        intro e
        induction e with
        | zero =>
          intro a9 f ha hf hv
          rw [show a9 = nw by omega] at hv ⊢
          refine j_iload_n C dX1_upTo_31 rfl rfl ?_
          refine j_aload_n C dX1_upTo_32 rfl rfl ?_
          refine j_get C 0 0 dX1_upTo_33 nwX1_upTo_in (by decide) nwX1_upTo_f49 rfl rfl rfl ?_
          refine j_icmp_ge (tgt := 177) C dX1_upTo_36 (by decide) (fun c_36 => ?_) (fun c_36 => ?_)
          · refine j_iinc C 1 [(2, _), (3, _), (0, _), (1, _)] dX1_upTo_177 rfl (nI_i1 p) (by decide) rfl ?_
            refine j_goto (tgt := 12) C dX1_upTo_180 (by decide) ?_
            refine j_lv [0, 2, 3] [(2, _), (0, _), (1, _)] rfl ?_
            exact ih (p + 1) f (by omega) (fun j hj => by
              rcases (show j ≤ p ∨ j = p + 1 by omega) with h | h
              · exact hf j h
              · rw [h]; exact hv)
          · exact absurd (by rw [SV_0 I]; exact i_rf _) c_36
        | succ e ih2 =>
          intro a9 f ha hf hv
          have han : a9 < nw := by omega
          obtain ⟨e6, h6a, h6b⟩ := SV_lt I han
          have hA : UAx lm nw t p a9 ≤ 9999 := uA_le a9
          have hc1 := cN_le (x := ltF t a9) (SV_lm I)
          have nxt : ∀ f : Nat → Int32, (∀ j, j ≤ p → f j = nI (UUx lm nw t j).1) → f (p + 1) = nI (UAx lm nw t p (a9 + 1)) → J E (0 + 1) (0 + 17) 171 [(3, .int (nI a9)), (2, .int (nI p)), (0, .ref (a 100)), (1, .ref q)] [] (sW (eG E) a m mj s t ++ ((q, .inl (jC0 E, m + 1, .inl f)) :: z)) := by
            intro f hf hv
            refine j_iinc C 0 [(3, _), (2, _), (0, _), (1, _)] dX1_upTo_171 rfl (nI_i1 a9) (by decide) rfl ?_
            refine j_goto (tgt := 31) C dX1_upTo_174 (by decide) ?_
            exact ih2 (a9 + 1) f (by omega) hf hv
          have lb : ∀ (m0 : Nat), m0 ≤ 9999 → ¬ p = 0 → (∀ f : Nat → Int32, (∀ j, j ≤ p → f j = nI (UUx lm nw t j).1) → f (p + 1) = nI (UBx lm nw t p a9 m0 nw) → J E (0 + 1) (0 + 17) 171 [(3, .int (nI a9)), (2, .int (nI p)), (0, .ref (a 100)), (1, .ref q)] [] (sW (eG E) a m mj s t ++ ((q, .inl (jC0 E, m + 1, .inl f)) :: z))) → ∀ (g b : Nat) (f : Nat → Int32), b + g = nw → (∀ j, j ≤ p → f j = nI (UUx lm nw t j).1) → f (p + 1) = nI (UBx lm nw t p a9 m0 b) → J E (0 + 1) (0 + 17) 86 [(4, .int (nI b)), (3, .int (nI a9)), (2, .int (nI p)), (0, .ref (a 100)), (1, .ref q)] [] (sW (eG E) a m mj s t ++ ((q, .inl (jC0 E, m + 1, .inl f)) :: z)) := by
            intro m0 hm0 h0 fin g
            induction g with
            | zero =>
              intro b f hb hf hv
              refine j_iload_n C dX1_upTo_86 rfl rfl ?_
              refine j_if_le (tgt := 171) C dX1_upTo_87 (by decide) (fun c_87 => ?_) (fun c_87 => ?_)
              · exact absurd c_87 (show ¬ nI p ≤ nI 0 from nI_ge (by omega) (by omega))
              · refine j_iload C dX1_upTo_90 rfl ?_
                refine j_aload_n C dX1_upTo_92 rfl rfl ?_
                refine j_get C 0 0 dX1_upTo_93 nwX1_upTo_in (by decide) nwX1_upTo_f49 rfl rfl rfl ?_
                refine j_icmp_ge (tgt := 171) C dX1_upTo_96 (by decide) (fun c_96 => ?_) (fun c_96 => ?_)
                · refine j_lv [1, 2, 3, 4] [(3, _), (2, _), (0, _), (1, _)] rfl ?_
                  exact fin f hf (by rw [hv, show b = nw by omega])
                · exact absurd (by rw [SV_0 I, show b = nw by omega]; exact i_rf _) c_96
            | succ g ih3 =>
              intro b f hb hf hv
              have hbn : b < nw := by omega
              obtain ⟨e6b, h6c, h6d⟩ := SV_lt I hbn
              obtain ⟨e9b, h9b⟩ := SV_tg I (show p - 1 < m by omega)
              have hB : UBx lm nw t p a9 m0 b ≤ m0 := uB_le b
              have hc2 := cN_le (x := ltF t a9 + ltF t b) (SV_lm I)
              have f0 : f (p - 1) = nI (UUx lm nw t p).2 := by rw [hf (p - 1) (by omega), uU_2 h0]
              refine j_iload_n C dX1_upTo_86 rfl rfl ?_
              refine j_if_le (tgt := 171) C dX1_upTo_87 (by decide) (fun c_87 => ?_) (fun c_87 => ?_)
              · exact absurd c_87 (show ¬ nI p ≤ nI 0 from nI_ge (by omega) (by omega))
              · refine j_iload C dX1_upTo_90 rfl ?_
                refine j_aload_n C dX1_upTo_92 rfl rfl ?_
                refine j_get C 0 0 dX1_upTo_93 nwX1_upTo_in (by decide) nwX1_upTo_f49 rfl rfl rfl ?_
                refine j_icmp_ge (tgt := 171) C dX1_upTo_96 (by decide) (fun c_96 => ?_) (fun c_96 => ?_)
                · exact absurd (by rw [SV_0 I] at c_96; exact c_96) (nI_ge (by omega) (by omega))
                · refine j_aload_n C dX1_upTo_99 rfl rfl ?_
                  refine j_aload_n C dX1_upTo_100 rfl rfl ?_
                  refine j_get C 0 9 dX1_upTo_101 nwX1_upTo_in (by decide) nwX1_upTo_f31 rfl rfl rfl ?_
                  refine j_iload_n C dX1_upTo_104 rfl rfl ?_
                  refine j_iconst (v := 1) C dX1_upTo_105 (by decide) ?_
                  refine j_isub C dX1_upTo_106 ?_
                  refine j_iald C 4 (p - 1) dX1_upTo_107 rfl (nI_m1 h0) (by omega) (by omega) ?_
                  rw [e9b]
                  refine j_iload C dX1_upTo_108 rfl ?_
                  refine j_callE (q0 := 0) (na := 2) C dX1_upTo_110 (s_may hl (eG E) a m mj s t _ (tgF t (p - 1)) b (by omega) (by omega)) gX1_upTo_X1_may rfl rfl (by decide +kernel) rfl rfl (Nat.le_of_ble_eq_true rfl) (by rw [R]; exact ⟨Nat.le_of_ble_eq_true rfl, Nat.le_of_ble_eq_true rfl⟩) (by rw [R]; exact ⟨Nat.le_of_ble_eq_true rfl, Nat.le_of_ble_eq_true rfl⟩) ?_
                  refine j_if_eq (tgt := 165) C dX1_upTo_113 (by decide) (fun c_113 => ?_) (fun c_113 => ?_)
                  · have hno : (mayF t (tgF t (p - 1)) b && jnF t b a9) = false := by rw [zb_0 c_113]; rfl
                    have eB : UBx lm nw t p a9 m0 (b + 1) = UBx lm nw t p a9 m0 b := uB_no hno
                    refine j_iinc C 0 [(4, _), (3, _), (2, _), (0, _), (1, _)] dX1_upTo_165 rfl (nI_i1 b) (by decide) rfl ?_
                    refine j_goto (tgt := 86) C dX1_upTo_168 (by decide) ?_
                    exact ih3 (b + 1) f (by omega) hf (by rw [hv, eB])
                  · have hm1 := zb_1 c_113
                    refine j_aload_n C dX1_upTo_116 rfl rfl ?_
                    refine j_get C 0 8 dX1_upTo_117 nwX1_upTo_in (by decide) nwX1_upTo_f28 rfl rfl rfl ?_
                    refine j_iload C dX1_upTo_120 rfl ?_
                    refine jS_row C 3 8 40 (b) dX1_upTo_122 rfl rfl (by omega) ?_
                    refine j_iload_n C dX1_upTo_123 rfl rfl ?_
                    refine jS_jn C [] (b) (a9) dX1_upTo_124 rfl (by omega) (by omega) ?_
                    refine j_if_eq (tgt := 165) C dX1_upTo_125 (by decide) (fun c_125 => ?_) (fun c_125 => ?_)
                    · have hno : (mayF t (tgF t (p - 1)) b && jnF t b a9) = false := by simp [jnF, c_125]
                      have eB : UBx lm nw t p a9 m0 (b + 1) = UBx lm nw t p a9 m0 b := uB_no hno
                      refine j_iinc C 0 [(4, _), (3, _), (2, _), (0, _), (1, _)] dX1_upTo_165 rfl (nI_i1 b) (by decide) rfl ?_
                      refine j_goto (tgt := 86) C dX1_upTo_168 (by decide) ?_
                      exact ih3 (b + 1) f (by omega) hf (by rw [hv, eB])
                    · have hyes : (mayF t (tgF t (p - 1)) b && jnF t b a9) = true := by simp [jnF, c_125, hm1]
                      have eB : UBx lm nw t p a9 m0 (b + 1) = min (UBx lm nw t p a9 m0 b) ((UUx lm nw t p).2 + cN lm (ltF t a9 + ltF t b)) := uB_yes hyes
                      refine j_aload_n C dX1_upTo_128 rfl rfl ?_
                      refine j_iload_n C dX1_upTo_129 rfl rfl ?_
                      refine j_iconst (v := 1) C dX1_upTo_130 (by decide) ?_
                      refine j_iadd C dX1_upTo_131 ?_
                      refine j_aload_n C dX1_upTo_132 rfl rfl ?_
                      refine j_iload_n C dX1_upTo_133 rfl rfl ?_
                      refine j_iconst (v := 1) C dX1_upTo_134 (by decide) ?_
                      refine j_iadd C dX1_upTo_135 ?_
                      refine j_iald C 30 (p + 1) dX1_upTo_136 rfl (nI_1 p) (by omega) (by omega) ?_
                      rw [hv]
                      refine j_aload_n C dX1_upTo_137 rfl rfl ?_
                      refine j_iload_n C dX1_upTo_138 rfl rfl ?_
                      refine j_iconst (v := 1) C dX1_upTo_139 (by decide) ?_
                      refine j_isub C dX1_upTo_140 ?_
                      refine j_iald C 30 (p - 1) dX1_upTo_141 rfl (nI_m1 h0) (by omega) (by omega) ?_
                      rw [f0]
                      refine j_aload_n C dX1_upTo_142 rfl rfl ?_
                      refine j_aload_n C dX1_upTo_143 rfl rfl ?_
                      refine j_get C 0 6 dX1_upTo_144 nwX1_upTo_in (by decide) nwX1_upTo_f19 rfl rfl rfl ?_
                      refine j_iload_n C dX1_upTo_147 rfl rfl ?_
                      refine j_iald C 1 (a9) dX1_upTo_148 rfl rfl (by omega) (by decide) ?_
                      rw [e6]
                      refine j_aload_n C dX1_upTo_149 rfl rfl ?_
                      refine j_get C 0 6 dX1_upTo_150 nwX1_upTo_in (by decide) nwX1_upTo_f19 rfl rfl rfl ?_
                      refine j_iload C dX1_upTo_153 rfl ?_
                      refine j_iald C 1 (b) dX1_upTo_155 rfl rfl (by omega) (by decide) ?_
                      rw [e6b]
                      refine j_iadd C dX1_upTo_156 ?_
                      rw [nI_add]
                      refine j_callE (q0 := 0) (na := 1) C dX1_upTo_157 (s_counts hl (eG E) a m mj s t _ lm _ (SV_1 I) (SV_lm I) (by omega)) gX1_upTo_X1_counts rfl rfl (by decide +kernel) rfl rfl (Nat.le_of_ble_eq_true rfl) (by rw [R]; exact ⟨Nat.le_of_ble_eq_true rfl, Nat.le_of_ble_eq_true rfl⟩) (by rw [R]; exact ⟨Nat.le_of_ble_eq_true rfl, Nat.le_of_ble_eq_true rfl⟩) ?_
                      refine j_iadd C dX1_upTo_160 ?_
                      refine j_topi (nI_add _ _) ?_
                      refine j_mmin C dX1_upTo_161 nwX1_upTo_l56 nwX1_upTo_smin nwX1_upTo_iMath nwX1_upTo_kmin (by rw [R]; exact ⟨by decide, Nat.le_of_ble_eq_true rfl, Nat.le_of_ble_eq_true rfl, Nat.le_of_ble_eq_true rfl⟩) ?_
                      refine j_topi (nI_min (by omega) (by omega)) ?_
                      refine jT_iast C (p + 1) dX1_upTo_164 (nI_1 p) (by omega) (by omega) ?_
                      refine j_iinc C 0 [(4, _), (3, _), (2, _), (0, _), (1, _)] dX1_upTo_165 rfl (nI_i1 b) (by decide) rfl ?_
                      refine j_goto (tgt := 86) C dX1_upTo_168 (by decide) ?_
                      exact ih3 (b + 1) (upd f (p + 1) (nI (min (UBx lm nw t p a9 m0 b) ((UUx lm nw t p).2 + cN lm (ltF t a9 + ltF t b))))) (by omega) (fun j hj => by rw [upd_ne (by omega)]; exact hf j hj) (by rw [upd_eq, eB])
          refine j_iload_n C dX1_upTo_31 rfl rfl ?_
          refine j_aload_n C dX1_upTo_32 rfl rfl ?_
          refine j_get C 0 0 dX1_upTo_33 nwX1_upTo_in (by decide) nwX1_upTo_f49 rfl rfl rfl ?_
          refine j_icmp_ge (tgt := 177) C dX1_upTo_36 (by decide) (fun c_36 => ?_) (fun c_36 => ?_)
          · exact absurd (by rw [SV_0 I] at c_36; exact c_36) (nI_ge (by omega) (by omega))
          · refine j_aload_n C dX1_upTo_39 rfl rfl ?_
            refine j_aload_n C dX1_upTo_40 rfl rfl ?_
            refine j_get C 0 9 dX1_upTo_41 nwX1_upTo_in (by decide) nwX1_upTo_f31 rfl rfl rfl ?_
            refine j_iload_n C dX1_upTo_44 rfl rfl ?_
            refine j_iald C 4 (p) dX1_upTo_45 rfl rfl hpm (by omega) ?_
            rw [e9]
            refine j_iload_n C dX1_upTo_46 rfl rfl ?_
            refine j_callE (q0 := 0) (na := 2) C dX1_upTo_47 (s_may hl (eG E) a m mj s t _ (tgF t p) a9 (by omega) (by omega)) gX1_upTo_X1_may rfl rfl (by decide +kernel) rfl rfl (Nat.le_of_ble_eq_true rfl) (by rw [R]; exact ⟨Nat.le_of_ble_eq_true rfl, Nat.le_of_ble_eq_true rfl⟩) (by rw [R]; exact ⟨Nat.le_of_ble_eq_true rfl, Nat.le_of_ble_eq_true rfl⟩) ?_
            refine j_if_ne (tgt := 56) C dX1_upTo_50 (by decide) (fun c_50 => ?_) (fun c_50 => ?_)
            · have hok := zb_1 c_50
              refine j_aload_n C dX1_upTo_56 rfl rfl ?_
              refine j_iload_n C dX1_upTo_57 rfl rfl ?_
              refine j_iconst (v := 1) C dX1_upTo_58 (by decide) ?_
              refine j_iadd C dX1_upTo_59 ?_
              refine j_aload_n C dX1_upTo_60 rfl rfl ?_
              refine j_iload_n C dX1_upTo_61 rfl rfl ?_
              refine j_iconst (v := 1) C dX1_upTo_62 (by decide) ?_
              refine j_iadd C dX1_upTo_63 ?_
              refine j_iald C 30 (p + 1) dX1_upTo_64 rfl (nI_1 p) (by omega) (by omega) ?_
              rw [hv]
              refine j_aload_n C dX1_upTo_65 rfl rfl ?_
              refine j_iload_n C dX1_upTo_66 rfl rfl ?_
              refine j_iald C 30 (p) dX1_upTo_67 rfl rfl (by omega) (by omega) ?_
              rw [hf p (Nat.le_refl p)]
              refine j_aload_n C dX1_upTo_68 rfl rfl ?_
              refine j_aload_n C dX1_upTo_69 rfl rfl ?_
              refine j_get C 0 6 dX1_upTo_70 nwX1_upTo_in (by decide) nwX1_upTo_f19 rfl rfl rfl ?_
              refine j_iload_n C dX1_upTo_73 rfl rfl ?_
              refine j_iald C 1 (a9) dX1_upTo_74 rfl rfl (by omega) (by decide) ?_
              rw [e6]
              refine j_callE (q0 := 0) (na := 1) C dX1_upTo_75 (s_counts hl (eG E) a m mj s t _ lm _ (SV_1 I) (SV_lm I) (by omega)) gX1_upTo_X1_counts rfl rfl (by decide +kernel) rfl rfl (Nat.le_of_ble_eq_true rfl) (by rw [R]; exact ⟨Nat.le_of_ble_eq_true rfl, Nat.le_of_ble_eq_true rfl⟩) (by rw [R]; exact ⟨Nat.le_of_ble_eq_true rfl, Nat.le_of_ble_eq_true rfl⟩) ?_
              refine j_iadd C dX1_upTo_78 ?_
              refine j_topi (nI_add _ _) ?_
              refine j_mmin C dX1_upTo_79 nwX1_upTo_l56 nwX1_upTo_smin nwX1_upTo_iMath nwX1_upTo_kmin (by rw [R]; exact ⟨by decide, Nat.le_of_ble_eq_true rfl, Nat.le_of_ble_eq_true rfl, Nat.le_of_ble_eq_true rfl⟩) ?_
              refine j_topi (nI_min (by omega) (by omega)) ?_
              refine jT_iast C (p + 1) dX1_upTo_82 (nI_1 p) (by omega) (by omega) ?_
              refine j_iconst (v := 0) C dX1_upTo_83 (by decide) ?_
              refine j_istore C [(4, _), (3, _), (2, _), (0, _), (1, _)] dX1_upTo_84 (by decide) rfl ?_
              by_cases h0 : p = 0
              · have nx := nxt (upd f (p + 1) (nI (min (UAx lm nw t p a9) ((UUx lm nw t p).1 + cN lm (ltF t a9))))) (fun j hj => by rw [upd_ne (by omega)]; exact hf j hj) (by rw [upd_eq, show UAx lm nw t p (a9 + 1) = (min (UAx lm nw t p a9) ((UUx lm nw t p).1 + cN lm (ltF t a9))) from uA_z hok h0])
                refine j_iload_n C dX1_upTo_86 rfl rfl ?_
                refine j_if_le (tgt := 171) C dX1_upTo_87 (by decide) (fun c_87 => ?_) (fun c_87 => ?_)
                · refine j_lv [1, 2, 3, 4] [(3, _), (2, _), (0, _), (1, _)] rfl ?_
                  exact nx
                · exact absurd (by rw [h0]; exact i_rf _) c_87
              · exact lb (min (UAx lm nw t p a9) ((UUx lm nw t p).1 + cN lm (ltF t a9))) (by omega) h0 (fun f2 hf2 hv2 => nxt f2 hf2 (by rw [hv2, show UAx lm nw t p (a9 + 1) = UBx lm nw t p a9 (min (UAx lm nw t p a9) ((UUx lm nw t p).1 + cN lm (ltF t a9))) nw from uA_p hok h0])) nw 0 _ (Nat.zero_add _) (fun j hj => by rw [upd_ne (by omega)]; exact hf j hj) (by rw [upd_eq]; rfl)
            · have hno : mayF t (tgF t p) a9 = false := zb_0 c_50
              refine j_goto (tgt := 171) C dX1_upTo_53 (by decide) ?_
              exact nxt f hf (by rw [hv, show UAx lm nw t p (a9 + 1) = UAx lm nw t p a9 from uA_no hno])
      refine j_iload_n C dX1_upTo_12 rfl rfl ?_
      refine j_aload_n C dX1_upTo_13 rfl rfl ?_
      refine j_get C 0 9 dX1_upTo_14 nwX1_upTo_in (by decide) nwX1_upTo_f31 rfl rfl rfl ?_
      refine j_alen C 4 0 dX1_upTo_17 rfl rfl ?_
      refine j_icmp_ge (tgt := 183) C dX1_upTo_18 (by decide) (fun c_18 => ?_) (fun c_18 => ?_)
      · exact absurd c_18 (nI_ge (by omega) (by omega))
      · refine j_aload_n C dX1_upTo_21 rfl rfl ?_
        refine j_iload_n C dX1_upTo_22 rfl rfl ?_
        refine j_iconst (v := 1) C dX1_upTo_23 (by decide) ?_
        refine j_iadd C dX1_upTo_24 ?_
        refine j_sipush (v := 9999) C dX1_upTo_25 (by decide) ?_
        refine jT_iast C (p + 1) dX1_upTo_28 (nI_1 p) (by omega) (by omega) ?_
        refine j_iconst (v := 0) C dX1_upTo_29 (by decide) ?_
        refine j_istore_n C [(3, _), (2, _), (0, _), (1, _)] dX1_upTo_30 rfl (by decide) rfl ?_
        exact la nw 0 _ (Nat.zero_add _) (fun j hj => by rw [upd_ne (by omega)]; exact hf j hj) (by rw [upd_eq]; rfl)
  refine j_aload_n C dX1_upTo_0 rfl rfl ?_
  refine j_get C 0 9 dX1_upTo_1 nwX1_upTo_in (by decide) nwX1_upTo_f31 rfl rfl rfl ?_
  refine j_alen C 4 0 dX1_upTo_4 rfl rfl ?_
  refine j_iconst (v := 1) C dX1_upTo_5 (by decide) ?_
  refine j_iadd C dX1_upTo_6 ?_
  refine j_newI C (m + 1) (17) dX1_upTo_7 nwX1_upTo_arI (nI_1 m) (by omega) (by decide) (by rw [R]; exact Nat.le_of_ble_eq_true rfl) (by rw [R]; exact Nat.le_of_ble_eq_true rfl) (fun q => ?_)
  refine j_behind ?_
  refine j_astore_n C [(1, _), (0, _)] dX1_upTo_9 rfl (by decide) rfl ?_
  refine j_iconst (v := 0) C dX1_upTo_10 (by decide) ?_
  refine j_istore_n C [(2, _), (1, _), (0, _)] dX1_upTo_11 rfl (by decide) rfl ?_
  refine j_lv [0, 2, 1] [(2, _), (0, _), (1, _)] rfl ?_
  exact loop q m 0 _ (Nat.zero_add _) (fun j hj => by rw [show j = 0 by omega]; rfl)
set_option maxRecDepth 100000 in
theorem nwX1_cheapest_f31 : Cond.fieldLink RX1 31 "TelegraphPricesLaw$Sim" "word" "[I" ∈ wsX1_cheapest := by decide +kernel
set_option maxRecDepth 100000 in
theorem nwX1_cheapest_in : ∀ w ∈ wsX10, w ∈ wsX1_cheapest := by decide +kernel
set_option maxHeartbeats 4000000 in
set_option maxRecDepth 100000 in
theorem s_cheapest {l : Launch} (hl : l.stackTraces = false) (Γ : gG) (a : Nat → Nat) (m mj : Nat) (s : gS) (t : gT) (z : va_W) (nw lm : Nat) (I : SV nw m lm s t) : CtJ l yX1_cheapest wsX1_cheapest 4 128 1 17 [.ref (a 100)] Γ none (sW Γ a m mj s t ++ z) (jE (some (.int (al m (s 2) (nI (UUx lm nw t m).1)))) (sW Γ a m mj s t ++ z)) := by
  refine ctj_of (by decide +kernel) rfl (Nat.le_of_ble_eq_true rfl) ?_
  intro E C F N9 hΓ hL R
  subst hΓ
  subst hL
  show J E 0 0 0 [(0, .ref (a 100))] [] (sW (eG E) a m mj s t ++ z)
  have hm := SV_m I
  refine j_aload_n C dX1_cheapest_0 rfl rfl ?_
  refine j_aload_n C dX1_cheapest_1 rfl rfl ?_
  refine j_callP (q0 := 0) (na := 0) C dX1_cheapest_2 (s_upTo hl (eG E) a m mj s t z nw lm I) gX1_cheapest_X1_upTo rfl rfl (by decide +kernel) rfl rfl (Nat.le_of_ble_eq_true rfl) (by rw [R]; exact ⟨Nat.le_of_ble_eq_true rfl, Nat.le_of_ble_eq_true rfl⟩) (by rw [R]; exact ⟨Nat.le_of_ble_eq_true rfl, Nat.le_of_ble_eq_true rfl⟩) (fun v w' hq => ?_)
  obtain ⟨q, f, rfl, rfl, hf⟩ := hq
  show J E _ _ _ _ (.ref q :: _) _
  refine j_aload_n C dX1_cheapest_5 rfl rfl ?_
  refine j_get C 0 9 dX1_cheapest_6 nwX1_cheapest_in (by decide) nwX1_cheapest_f31 rfl rfl rfl ?_
  refine j_alen C 4 0 dX1_cheapest_9 rfl rfl ?_
  refine j_iald C 30 (m) dX1_cheapest_10 rfl rfl (by omega) (by omega) ?_
  rw [hf m (Nat.le_refl m)]
  refine j_callE (q0 := 0) (na := 1) C dX1_cheapest_11 (s_lifted hl (eG E) a m mj s t _ _ hm) gX1_cheapest_X1_lifted rfl rfl (by decide +kernel) rfl rfl (Nat.le_of_ble_eq_true rfl) (by rw [R]; exact ⟨Nat.le_of_ble_eq_true rfl, Nat.le_of_ble_eq_true rfl⟩) (by rw [R]; exact ⟨Nat.le_of_ble_eq_true rfl, Nat.le_of_ble_eq_true rfl⟩) ?_
  refine j_drop1 ?_
  exact j_iret C F dX1_cheapest_14 (Nat.le_of_ble_eq_true rfl) (Nat.le_of_ble_eq_true rfl) ⟨rfl, rfl⟩
end
section
/-! the constructor of a Sim -/
section
variable {E : gE} {cc : ByteArray} {nL : Nat} {own : String} {ws : List Cond} {x : jS} {k n pc : Nat} {lv : List (Nat × Value)} {st : List Value} {w : va_W}
theorem j_objInit (C : jC E cc nL own ws x) {idx b : Nat} (d : decode cc pc = .ok (.invokespecial idx, 3)) (h1 : Cond.methodLink own idx objectInit ∈ ws) (h2 : Cond.instanceMethod objectInit ∈ ws) (h3 : Cond.code objectInit ⟨#[0xb1]⟩ 1 none ∈ ws) (hR : 1 ≤ (eR E).frames ∧ (st.map fun v => v.category).sum + 12 ≤ (eR E).locals) (kk : J E k n (pc + 3) lv st w) : J E k n pc lv (.ref b :: st) w := fun H locs ls hP hD hS hl =>
  W.objInit C.1 C.2.1 C.2.2.2.1 (C.2.2.2.2.1 _ h1) (C.2.2.2.2.1 _ h2) (C.2.2.2.2.1 _ h3) rfl hl.1 rfl d hR.1 (by show 2 * 0 + _ + 12 ≤ _; omega) (kk H locs ls hP hD hS hl)
/-- new boolean[12][12], its rows one by one -/
theorem j_new2L (C : jC E cc nL own ws x) {idx : Nat} (d : decode cc pc = .ok (.multianewarray idx 2, 4)) (h1 : Cond.classLink own idx "[[Z" ∈ ws) (h2 : Cond.arrayClass .boolean ∈ ws) (hk : k + 13 ≤ (eR E).cells) (hn : n + 156 ≤ (eR E).slots) (kk : ∀ (q : Nat) (r : Nat → Nat), J E (k + 13) (n + 156) (pc + 4) lv (.ref q :: st) ((q, .inl (jC2 E, 12, .inr (.inr (.inr (.inr (fun i => if i < 12 then some (r i) else none)))))) :: (r 0, .inl (jC1 E, 12, .inl (fun _ => 0))) :: (r 1, .inl (jC1 E, 12, .inl (fun _ => 0))) :: (r 2, .inl (jC1 E, 12, .inl (fun _ => 0))) :: (r 3, .inl (jC1 E, 12, .inl (fun _ => 0))) :: (r 4, .inl (jC1 E, 12, .inl (fun _ => 0))) :: (r 5, .inl (jC1 E, 12, .inl (fun _ => 0))) :: (r 6, .inl (jC1 E, 12, .inl (fun _ => 0))) :: (r 7, .inl (jC1 E, 12, .inl (fun _ => 0))) :: (r 8, .inl (jC1 E, 12, .inl (fun _ => 0))) :: (r 9, .inl (jC1 E, 12, .inl (fun _ => 0))) :: (r 10, .inl (jC1 E, 12, .inl (fun _ => 0))) :: (r 11, .inl (jC1 E, 12, .inl (fun _ => 0))) :: w)) : J E k n pc lv (.int 12 :: .int 12 :: st) w := j_new2 C d h1 h2 hk hn (fun q r => kk q r)
end
def s0 : gS := fun c => if c = 1 then 10 else if c = 2 then 5 else if c = 3 then 2 else 0
/-- where the cells of a new Sim lie -/
def a0 (b q1 q2 q3 q4 q5 : Nat) (r r2 : Nat → Nat) : Nat → Nat := fun c => if c = 100 then b else if c = 6 then q1 else if c = 7 then q2 else if c = 8 then q3 else if c = 9 then q4 else if c = 10 then q5 else if c < 40 then r (c - 20) else r2 (c - 40)
theorem a0_r (b q1 q2 q3 q4 q5 : Nat) (r r2 : Nat → Nat) : aR (a0 b q1 q2 q3 q4 q5 r r2) 20 = fun i => if i < 12 then some (r i) else none := by
  funext i
  show (if i < 12 then some (a0 b q1 q2 q3 q4 q5 r r2 (20 + i)) else none) = _
  by_cases h : i < 12
  · rw [if_pos h, if_pos h]
    unfold a0
    rw [if_neg (by omega), if_neg (by omega), if_neg (by omega), if_neg (by omega), if_neg (by omega), if_neg (by omega), if_pos (by omega), show 20 + i - 20 = i by omega]
  · rw [if_neg h, if_neg h]
theorem a0_r2 (b q1 q2 q3 q4 q5 : Nat) (r r2 : Nat → Nat) : aR (a0 b q1 q2 q3 q4 q5 r r2) 40 = fun i => if i < 12 then some (r2 i) else none := by
  funext i
  show (if i < 12 then some (a0 b q1 q2 q3 q4 q5 r r2 (40 + i)) else none) = _
  by_cases h : i < 12
  · rw [if_pos h, if_pos h]
    unfold a0
    rw [if_neg (by omega), if_neg (by omega), if_neg (by omega), if_neg (by omega), if_neg (by omega), if_neg (by omega), if_neg (by omega), show 40 + i - 40 = i by omega]
  · rw [if_neg h, if_neg h]
set_option maxRecDepth 100000 in
theorem nwX1_init_in : ∀ w ∈ wsX10, w ∈ wsX1_init := by decide +kernel
set_option maxRecDepth 100000 in
theorem nwX1_init_o1 : Cond.methodLink RX1 1 objectInit ∈ wsX1_init := by decide +kernel
set_option maxRecDepth 100000 in
theorem nwX1_init_o2 : Cond.instanceMethod objectInit ∈ wsX1_init := by decide +kernel
set_option maxRecDepth 100000 in
theorem nwX1_init_o3 : Cond.code objectInit ⟨#[0xb1]⟩ 1 none ∈ wsX1_init := by decide +kernel
set_option maxRecDepth 100000 in
theorem nwX1_init_f7 : Cond.fieldLink RX1 7 "TelegraphPricesLaw$Sim" "limit" "I" ∈ wsX1_init := by decide +kernel
set_option maxRecDepth 100000 in
theorem nwX1_init_f13 : Cond.fieldLink RX1 13 "TelegraphPricesLaw$Sim" "least" "I" ∈ wsX1_init := by decide +kernel
set_option maxRecDepth 100000 in
theorem nwX1_init_f16 : Cond.fieldLink RX1 16 "TelegraphPricesLaw$Sim" "coins" "I" ∈ wsX1_init := by decide +kernel
set_option maxRecDepth 100000 in
theorem nwX1_init_arI : Cond.arrayClass .int ∈ wsX1_init := by decide +kernel
set_option maxRecDepth 100000 in
theorem nwX1_init_f19 : Cond.fieldLink RX1 19 "TelegraphPricesLaw$Sim" "letters" "[I" ∈ wsX1_init := by decide +kernel
set_option maxRecDepth 100000 in
theorem nwX1_init_zz : Cond.classLink RX1 23 "[[Z" ∈ wsX1_init := by decide +kernel
set_option maxRecDepth 100000 in
theorem nwX1_init_arZ : Cond.arrayClass .boolean ∈ wsX1_init := by decide +kernel
set_option maxRecDepth 100000 in
theorem nwX1_init_f25 : Cond.fieldLink RX1 25 "TelegraphPricesLaw$Sim" "stand" "[[Z" ∈ wsX1_init := by decide +kernel
set_option maxRecDepth 100000 in
theorem nwX1_init_f28 : Cond.fieldLink RX1 28 "TelegraphPricesLaw$Sim" "join" "[[Z" ∈ wsX1_init := by decide +kernel
set_option maxRecDepth 100000 in
theorem nwX1_init_f31 : Cond.fieldLink RX1 31 "TelegraphPricesLaw$Sim" "word" "[I" ∈ wsX1_init := by decide +kernel
set_option maxRecDepth 100000 in
theorem nwX1_init_f34 : Cond.fieldLink RX1 34 "TelegraphPricesLaw$Sim" "joined" "[Z" ∈ wsX1_init := by decide +kernel
set_option maxHeartbeats 8000000 in
set_option maxRecDepth 100000 in
theorem s_init {l : Launch} (hl : l.stackTraces = false) (Γ : gG) (b : Nat) (z : va_W) : CtJ l yX1_init wsX1_init 2 64 29 324 [.ref b] Γ none (jO b :: z) (fun v w' => v = none ∧ ∃ a : Nat → Nat, a 100 = b ∧ w' = sW Γ a 0 0 s0 zT ++ z) := by
  refine ctj_of (by decide +kernel) rfl (Nat.le_of_ble_eq_true rfl) ?_
  intro E C F N9 hΓ hL R
  subst hΓ
  subst hL
  show J E 0 0 0 [(0, .ref b)] [] (jO b :: z)
  refine j_aload_n C dX1_init_0 rfl rfl ?_
  refine j_objInit C dX1_init_1 nwX1_init_o1 nwX1_init_o2 nwX1_init_o3 (by rw [R]; exact ⟨Nat.le_of_ble_eq_true rfl, Nat.le_of_ble_eq_true rfl⟩) ?_
  refine j_aload_n C dX1_init_4 rfl rfl ?_
  refine j_bipush (v := 10) C dX1_init_5 (by decide) ?_
  refine j_put C 0 1 (ty := .int) (w' := (b, .inr (1, [.int 0, .int 10, .int 0, .int 0, .int 0, .int 0, .null, .null, .null, .null, .null])) :: z) dX1_init_7 nwX1_init_in (by decide) nwX1_init_f7 rfl rfl rfl (by decide +kernel) rfl rfl (Nat.le_of_ble_eq_true rfl) rfl ?_
  refine j_aload_n C dX1_init_10 rfl rfl ?_
  refine j_iconst (v := 5) C dX1_init_11 (by decide) ?_
  refine j_put C 0 2 (ty := .int) (w' := (b, .inr (1, [.int 0, .int 10, .int 5, .int 0, .int 0, .int 0, .null, .null, .null, .null, .null])) :: z) dX1_init_12 nwX1_init_in (by decide) nwX1_init_f13 rfl rfl rfl (by decide +kernel) rfl rfl (Nat.le_of_ble_eq_true rfl) rfl ?_
  refine j_aload_n C dX1_init_15 rfl rfl ?_
  refine j_iconst (v := 2) C dX1_init_16 (by decide) ?_
  refine j_put C 0 3 (ty := .int) (w' := (b, .inr (1, [.int 0, .int 10, .int 5, .int 2, .int 0, .int 0, .null, .null, .null, .null, .null])) :: z) dX1_init_17 nwX1_init_in (by decide) nwX1_init_f16 rfl rfl rfl (by decide +kernel) rfl rfl (Nat.le_of_ble_eq_true rfl) rfl ?_
  refine j_aload_n C dX1_init_20 rfl rfl ?_
  refine j_bipush (v := 12) C dX1_init_21 (by decide) ?_
  refine j_newI C 12 12 dX1_init_23 nwX1_init_arI rfl (by decide) (by decide) (by rw [R]; exact Nat.le_of_ble_eq_true rfl) (by rw [R]; exact Nat.le_of_ble_eq_true rfl) (fun q1 => ?_)
  refine j_putF C 1 6 (ty := .array .int) (w' := (q1, .inl (jC0 E, 12, .inl (fun _ => 0))) :: (b, .inr (1, [.int 0, .int 10, .int 5, .int 2, .int 0, .int 0, .ref q1, .null, .null, .null, .null])) :: z) dX1_init_25 nwX1_init_in (by decide) nwX1_init_f19 rfl rfl N9 rfl (by decide +kernel) rfl rfl (Nat.le_of_ble_eq_true rfl) rfl ?_
  refine j_aload_n C dX1_init_28 rfl rfl ?_
  refine j_bipush (v := 12) C dX1_init_29 (by decide) ?_
  refine j_bipush (v := 12) C dX1_init_31 (by decide) ?_
  refine j_new2L C dX1_init_33 nwX1_init_zz nwX1_init_arZ (by rw [R]; exact Nat.le_of_ble_eq_true rfl) (by rw [R]; exact Nat.le_of_ble_eq_true rfl) (fun q2 r => ?_)
  refine j_putF C 14 7 (ty := .array (.array .boolean)) (w' := (q2, .inl (jC2 E, 12, .inr (.inr (.inr (.inr (fun i => if i < 12 then some (r i) else none)))))) :: (r 0, .inl (jC1 E, 12, .inl (fun _ => 0))) :: (r 1, .inl (jC1 E, 12, .inl (fun _ => 0))) :: (r 2, .inl (jC1 E, 12, .inl (fun _ => 0))) :: (r 3, .inl (jC1 E, 12, .inl (fun _ => 0))) :: (r 4, .inl (jC1 E, 12, .inl (fun _ => 0))) :: (r 5, .inl (jC1 E, 12, .inl (fun _ => 0))) :: (r 6, .inl (jC1 E, 12, .inl (fun _ => 0))) :: (r 7, .inl (jC1 E, 12, .inl (fun _ => 0))) :: (r 8, .inl (jC1 E, 12, .inl (fun _ => 0))) :: (r 9, .inl (jC1 E, 12, .inl (fun _ => 0))) :: (r 10, .inl (jC1 E, 12, .inl (fun _ => 0))) :: (r 11, .inl (jC1 E, 12, .inl (fun _ => 0))) :: (q1, .inl (jC0 E, 12, .inl (fun _ => 0))) :: (b, .inr (1, [.int 0, .int 10, .int 5, .int 2, .int 0, .int 0, .ref q1, .ref q2, .null, .null, .null])) :: z) dX1_init_37 nwX1_init_in (by decide) nwX1_init_f25 rfl rfl N9 rfl (by decide +kernel) rfl rfl (Nat.le_of_ble_eq_true rfl) rfl ?_
  refine j_aload_n C dX1_init_40 rfl rfl ?_
  refine j_bipush (v := 12) C dX1_init_41 (by decide) ?_
  refine j_bipush (v := 12) C dX1_init_43 (by decide) ?_
  refine j_new2L C dX1_init_45 nwX1_init_zz nwX1_init_arZ (by rw [R]; exact Nat.le_of_ble_eq_true rfl) (by rw [R]; exact Nat.le_of_ble_eq_true rfl) (fun q3 r2 => ?_)
  refine j_putF C 27 8 (ty := .array (.array .boolean)) (w' := (q3, .inl (jC2 E, 12, .inr (.inr (.inr (.inr (fun i => if i < 12 then some (r2 i) else none)))))) :: (r2 0, .inl (jC1 E, 12, .inl (fun _ => 0))) :: (r2 1, .inl (jC1 E, 12, .inl (fun _ => 0))) :: (r2 2, .inl (jC1 E, 12, .inl (fun _ => 0))) :: (r2 3, .inl (jC1 E, 12, .inl (fun _ => 0))) :: (r2 4, .inl (jC1 E, 12, .inl (fun _ => 0))) :: (r2 5, .inl (jC1 E, 12, .inl (fun _ => 0))) :: (r2 6, .inl (jC1 E, 12, .inl (fun _ => 0))) :: (r2 7, .inl (jC1 E, 12, .inl (fun _ => 0))) :: (r2 8, .inl (jC1 E, 12, .inl (fun _ => 0))) :: (r2 9, .inl (jC1 E, 12, .inl (fun _ => 0))) :: (r2 10, .inl (jC1 E, 12, .inl (fun _ => 0))) :: (r2 11, .inl (jC1 E, 12, .inl (fun _ => 0))) :: (q2, .inl (jC2 E, 12, .inr (.inr (.inr (.inr (fun i => if i < 12 then some (r i) else none)))))) :: (r 0, .inl (jC1 E, 12, .inl (fun _ => 0))) :: (r 1, .inl (jC1 E, 12, .inl (fun _ => 0))) :: (r 2, .inl (jC1 E, 12, .inl (fun _ => 0))) :: (r 3, .inl (jC1 E, 12, .inl (fun _ => 0))) :: (r 4, .inl (jC1 E, 12, .inl (fun _ => 0))) :: (r 5, .inl (jC1 E, 12, .inl (fun _ => 0))) :: (r 6, .inl (jC1 E, 12, .inl (fun _ => 0))) :: (r 7, .inl (jC1 E, 12, .inl (fun _ => 0))) :: (r 8, .inl (jC1 E, 12, .inl (fun _ => 0))) :: (r 9, .inl (jC1 E, 12, .inl (fun _ => 0))) :: (r 10, .inl (jC1 E, 12, .inl (fun _ => 0))) :: (r 11, .inl (jC1 E, 12, .inl (fun _ => 0))) :: (q1, .inl (jC0 E, 12, .inl (fun _ => 0))) :: (b, .inr (1, [.int 0, .int 10, .int 5, .int 2, .int 0, .int 0, .ref q1, .ref q2, .ref q3, .null, .null])) :: z) dX1_init_49 nwX1_init_in (by decide) nwX1_init_f28 rfl rfl N9 rfl (by decide +kernel) rfl rfl (Nat.le_of_ble_eq_true rfl) rfl ?_
  refine j_aload_n C dX1_init_52 rfl rfl ?_
  refine j_iconst (v := 0) C dX1_init_53 (by decide) ?_
  refine j_newI C 0 0 dX1_init_54 nwX1_init_arI rfl (by decide) (by decide) (by rw [R]; exact Nat.le_of_ble_eq_true rfl) (by rw [R]; exact Nat.le_of_ble_eq_true rfl) (fun q4 => ?_)
  refine j_put C 28 9 (ty := .array .int) (w' := (q4, .inl (jC0 E, 0, .inl (fun _ => 0))) :: (q3, .inl (jC2 E, 12, .inr (.inr (.inr (.inr (fun i => if i < 12 then some (r2 i) else none)))))) :: (r2 0, .inl (jC1 E, 12, .inl (fun _ => 0))) :: (r2 1, .inl (jC1 E, 12, .inl (fun _ => 0))) :: (r2 2, .inl (jC1 E, 12, .inl (fun _ => 0))) :: (r2 3, .inl (jC1 E, 12, .inl (fun _ => 0))) :: (r2 4, .inl (jC1 E, 12, .inl (fun _ => 0))) :: (r2 5, .inl (jC1 E, 12, .inl (fun _ => 0))) :: (r2 6, .inl (jC1 E, 12, .inl (fun _ => 0))) :: (r2 7, .inl (jC1 E, 12, .inl (fun _ => 0))) :: (r2 8, .inl (jC1 E, 12, .inl (fun _ => 0))) :: (r2 9, .inl (jC1 E, 12, .inl (fun _ => 0))) :: (r2 10, .inl (jC1 E, 12, .inl (fun _ => 0))) :: (r2 11, .inl (jC1 E, 12, .inl (fun _ => 0))) :: (q2, .inl (jC2 E, 12, .inr (.inr (.inr (.inr (fun i => if i < 12 then some (r i) else none)))))) :: (r 0, .inl (jC1 E, 12, .inl (fun _ => 0))) :: (r 1, .inl (jC1 E, 12, .inl (fun _ => 0))) :: (r 2, .inl (jC1 E, 12, .inl (fun _ => 0))) :: (r 3, .inl (jC1 E, 12, .inl (fun _ => 0))) :: (r 4, .inl (jC1 E, 12, .inl (fun _ => 0))) :: (r 5, .inl (jC1 E, 12, .inl (fun _ => 0))) :: (r 6, .inl (jC1 E, 12, .inl (fun _ => 0))) :: (r 7, .inl (jC1 E, 12, .inl (fun _ => 0))) :: (r 8, .inl (jC1 E, 12, .inl (fun _ => 0))) :: (r 9, .inl (jC1 E, 12, .inl (fun _ => 0))) :: (r 10, .inl (jC1 E, 12, .inl (fun _ => 0))) :: (r 11, .inl (jC1 E, 12, .inl (fun _ => 0))) :: (q1, .inl (jC0 E, 12, .inl (fun _ => 0))) :: (b, .inr (1, [.int 0, .int 10, .int 5, .int 2, .int 0, .int 0, .ref q1, .ref q2, .ref q3, .ref q4, .null])) :: z) dX1_init_56 nwX1_init_in (by decide) nwX1_init_f31 rfl rfl rfl (by decide +kernel) rfl rfl (Nat.le_of_ble_eq_true rfl) rfl ?_
  refine j_aload_n C dX1_init_59 rfl rfl ?_
  refine j_iconst (v := 0) C dX1_init_60 (by decide) ?_
  refine j_newZ C 0 0 dX1_init_61 nwX1_init_arZ rfl (by decide) (by decide) (by rw [R]; exact Nat.le_of_ble_eq_true rfl) (by rw [R]; exact Nat.le_of_ble_eq_true rfl) (fun q5 => ?_)
  refine j_put C 29 10 (ty := .array .boolean) (w' := (q5, .inl (jC1 E, 0, .inl (fun _ => 0))) :: (q4, .inl (jC0 E, 0, .inl (fun _ => 0))) :: (q3, .inl (jC2 E, 12, .inr (.inr (.inr (.inr (fun i => if i < 12 then some (r2 i) else none)))))) :: (r2 0, .inl (jC1 E, 12, .inl (fun _ => 0))) :: (r2 1, .inl (jC1 E, 12, .inl (fun _ => 0))) :: (r2 2, .inl (jC1 E, 12, .inl (fun _ => 0))) :: (r2 3, .inl (jC1 E, 12, .inl (fun _ => 0))) :: (r2 4, .inl (jC1 E, 12, .inl (fun _ => 0))) :: (r2 5, .inl (jC1 E, 12, .inl (fun _ => 0))) :: (r2 6, .inl (jC1 E, 12, .inl (fun _ => 0))) :: (r2 7, .inl (jC1 E, 12, .inl (fun _ => 0))) :: (r2 8, .inl (jC1 E, 12, .inl (fun _ => 0))) :: (r2 9, .inl (jC1 E, 12, .inl (fun _ => 0))) :: (r2 10, .inl (jC1 E, 12, .inl (fun _ => 0))) :: (r2 11, .inl (jC1 E, 12, .inl (fun _ => 0))) :: (q2, .inl (jC2 E, 12, .inr (.inr (.inr (.inr (fun i => if i < 12 then some (r i) else none)))))) :: (r 0, .inl (jC1 E, 12, .inl (fun _ => 0))) :: (r 1, .inl (jC1 E, 12, .inl (fun _ => 0))) :: (r 2, .inl (jC1 E, 12, .inl (fun _ => 0))) :: (r 3, .inl (jC1 E, 12, .inl (fun _ => 0))) :: (r 4, .inl (jC1 E, 12, .inl (fun _ => 0))) :: (r 5, .inl (jC1 E, 12, .inl (fun _ => 0))) :: (r 6, .inl (jC1 E, 12, .inl (fun _ => 0))) :: (r 7, .inl (jC1 E, 12, .inl (fun _ => 0))) :: (r 8, .inl (jC1 E, 12, .inl (fun _ => 0))) :: (r 9, .inl (jC1 E, 12, .inl (fun _ => 0))) :: (r 10, .inl (jC1 E, 12, .inl (fun _ => 0))) :: (r 11, .inl (jC1 E, 12, .inl (fun _ => 0))) :: (q1, .inl (jC0 E, 12, .inl (fun _ => 0))) :: (b, .inr (1, [.int 0, .int 10, .int 5, .int 2, .int 0, .int 0, .ref q1, .ref q2, .ref q3, .ref q4, .ref q5])) :: z) dX1_init_63 nwX1_init_in (by decide) nwX1_init_f34 rfl rfl rfl (by decide +kernel) rfl rfl (Nat.le_of_ble_eq_true rfl) rfl ?_
  have e : sW (eG E) (a0 b q1 q2 q3 q4 q5 r r2) 0 0 s0 zT = sWr (eG E) (a0 b q1 q2 q3 q4 q5 r r2) 0 0 s0 zT (fun i => if i < 12 then some (r i) else none) (fun i => if i < 12 then some (r2 i) else none) := by
    unfold sW
    rw [a0_r, a0_r2]
  refine j_part (X := [(q5, .inl (jC1 E, 0, .inl (fun _ => 0))), (q4, .inl (jC0 E, 0, .inl (fun _ => 0))), (q3, .inl (jC2 E, 12, .inr (.inr (.inr (.inr (fun i => if i < 12 then some (r2 i) else none)))))), (r2 0, .inl (jC1 E, 12, .inl (fun _ => 0))), (r2 1, .inl (jC1 E, 12, .inl (fun _ => 0))), (r2 2, .inl (jC1 E, 12, .inl (fun _ => 0))), (r2 3, .inl (jC1 E, 12, .inl (fun _ => 0))), (r2 4, .inl (jC1 E, 12, .inl (fun _ => 0))), (r2 5, .inl (jC1 E, 12, .inl (fun _ => 0))), (r2 6, .inl (jC1 E, 12, .inl (fun _ => 0))), (r2 7, .inl (jC1 E, 12, .inl (fun _ => 0))), (r2 8, .inl (jC1 E, 12, .inl (fun _ => 0))), (r2 9, .inl (jC1 E, 12, .inl (fun _ => 0))), (r2 10, .inl (jC1 E, 12, .inl (fun _ => 0))), (r2 11, .inl (jC1 E, 12, .inl (fun _ => 0))), (q2, .inl (jC2 E, 12, .inr (.inr (.inr (.inr (fun i => if i < 12 then some (r i) else none)))))), (r 0, .inl (jC1 E, 12, .inl (fun _ => 0))), (r 1, .inl (jC1 E, 12, .inl (fun _ => 0))), (r 2, .inl (jC1 E, 12, .inl (fun _ => 0))), (r 3, .inl (jC1 E, 12, .inl (fun _ => 0))), (r 4, .inl (jC1 E, 12, .inl (fun _ => 0))), (r 5, .inl (jC1 E, 12, .inl (fun _ => 0))), (r 6, .inl (jC1 E, 12, .inl (fun _ => 0))), (r 7, .inl (jC1 E, 12, .inl (fun _ => 0))), (r 8, .inl (jC1 E, 12, .inl (fun _ => 0))), (r 9, .inl (jC1 E, 12, .inl (fun _ => 0))), (r 10, .inl (jC1 E, 12, .inl (fun _ => 0))), (r 11, .inl (jC1 E, 12, .inl (fun _ => 0))), (q1, .inl (jC0 E, 12, .inl (fun _ => 0))), (b, .inr (1, [.int 0, .int 10, .int 5, .int 2, .int 0, .int 0, .ref q1, .ref q2, .ref q3, .ref q4, .ref q5]))]) (cx := sWr (eG E) (a0 b q1 q2 q3 q4 q5 r r2) 0 0 s0 zT (fun i => if i < 12 then some (r i) else none) (fun i => if i < 12 then some (r2 i) else none)) (pl := z) [29, 28, 15, 2, 1, 0, 16, 17, 18, 19, 20, 21, 22, 23, 24, 25, 26, 27, 3, 4, 5, 6, 7, 8, 9, 10, 11, 12, 13, 14] (by decide) rfl ?_
  rw [← e]
  exact j_vret C F dX1_init_66 (Nat.le_of_ble_eq_true rfl) (Nat.le_of_ble_eq_true rfl) ⟨rfl, (a0 b q1 q2 q3 q4 q5 r r2), rfl, rfl⟩
end
section
/-! rest -/
/-- copied: letters below l, rows of stand and join below a, of the row a below b -/
def CP (nw : Nat) (t : gT) (l a b : Nat) (t2 : gT) : Prop := (∀ w, w < l → t2 6 w = t 6 w) ∧ (∀ w c, (w < a ∧ c < nw) ∨ (w = a ∧ c < b) → t2 (20 + w) c = t (20 + w) c ∧ t2 (40 + w) c = t (40 + w) c) ∧ (∀ w c, t2 (20 + w) c = 0 ∨ t2 (20 + w) c = 1) ∧ (∀ w c, t2 (40 + w) c = 0 ∨ t2 (40 + w) c = 1) ∧ ∀ i, t2 10 i = 0
section
variable {nw l a b : Nat} {t t2 : gT}
theorem CP_0 : CP nw t 0 0 0 zT := ⟨fun w h => absurd h (Nat.not_lt_zero w), fun w c h => by omega, fun _ _ => Or.inl rfl, fun _ _ => Or.inl rfl, fun _ => rfl⟩
theorem CP_l (h : CP nw t a a 0 t2) : CP nw t (a + 1) a 0 (uT t2 6 a (t 6 a)) := by
  obtain ⟨h1, h2, h3, h4, h5⟩ := h
  refine ⟨fun w hw => ?_, fun w c hc => by rw [uT_ne (by omega), uT_ne (by omega)]; exact h2 w c hc, fun w c => by rw [uT_ne (by omega)]; exact h3 w c, fun w c => by rw [uT_ne (by omega)]; exact h4 w c, fun i => by rw [uT_ne (by omega)]; exact h5 i⟩
  rw [uT_eq]
  by_cases q : w = a
  · rw [q, upd_eq]
  · rw [upd_ne q]
    exact h1 w (by omega)
theorem CP_b (ha : a < 12) (h : CP nw t l a b t2) (s1 : t (20 + a) b = 0 ∨ t (20 + a) b = 1) (s2 : t (40 + a) b = 0 ∨ t (40 + a) b = 1) : CP nw t l a (b + 1) (uT (uT t2 (20 + a) b (t (20 + a) b)) (40 + a) b (t (40 + a) b)) := by
  obtain ⟨h1, h2, h3, h4, h5⟩ := h
  have k1 : ∀ w c, uT (uT t2 (20 + a) b (t (20 + a) b)) (40 + a) b (t (40 + a) b) (20 + w) c = (if 20 + w = 40 + a then upd (t2 (40 + a)) b (t (40 + a) b) c else if w = a then upd (t2 (20 + a)) b (t (20 + a) b) c else t2 (20 + w) c) := by
    intro w c
    by_cases q : 20 + w = 40 + a
    · rw [if_pos q, q, uT_eq, uT_ne (by omega)]
    · rw [if_neg q, uT_ne q]
      by_cases q2 : w = a
      · rw [if_pos q2, q2, uT_eq]
      · rw [if_neg q2, uT_ne (by omega)]
  have k2 : ∀ w c, uT (uT t2 (20 + a) b (t (20 + a) b)) (40 + a) b (t (40 + a) b) (40 + w) c = (if w = a then upd (t2 (40 + a)) b (t (40 + a) b) c else t2 (40 + w) c) := by
    intro w c
    by_cases q : w = a
    · rw [if_pos q, q, uT_eq, uT_ne (by omega)]
    · rw [if_neg q, uT_ne (by omega), uT_ne (by omega)]
  have u : ∀ (f : Nat → Int32) (v : Int32) (c : Nat), (∀ c, f c = 0 ∨ f c = 1) → (v = 0 ∨ v = 1) → upd f b v c = 0 ∨ upd f b v c = 1 := by
    intro f v c hf hv
    by_cases q : c = b
    · rw [q, upd_eq]; exact hv
    · rw [upd_ne q]; exact hf c
  refine ⟨fun w hw => by rw [uT_ne (by omega), uT_ne (by omega)]; exact h1 w hw, fun w c hc => ?_, fun w c => ?_, fun w c => ?_, fun i => by rw [uT_ne (by omega), uT_ne (by omega)]; exact h5 i⟩
  · rw [k1, k2, if_neg (show ¬ 20 + w = 40 + a by omega)]
    by_cases q : w = a
    · rw [if_pos q, if_pos q, q]
      by_cases q2 : c = b
      · rw [q2, upd_eq, upd_eq]
        exact ⟨rfl, rfl⟩
      · rw [upd_ne q2, upd_ne q2]
        exact h2 a c (Or.inr ⟨rfl, by omega⟩)
    · rw [if_neg q, if_neg q]
      exact h2 w c (Or.inl ⟨by omega, by omega⟩)
  · rw [k1]
    by_cases q : 20 + w = 40 + a
    · rw [if_pos q]
      exact u _ _ _ (h4 a) s2
    · rw [if_neg q]
      by_cases q2 : w = a
      · rw [if_pos q2]
        exact u _ _ _ (h3 a) s1
      · rw [if_neg q2]
        exact h3 w c
  · rw [k2]
    by_cases q : w = a
    · rw [if_pos q]
      exact u _ _ _ (h4 a) s2
    · rw [if_neg q]
      exact h4 w c
theorem CP_n (h : CP nw t l a nw t2) : CP nw t l (a + 1) 0 t2 := ⟨h.1, fun w c hc => h.2.1 w c (by omega), h.2.2⟩
end
/-- what the rest of a Sim holds -/
def RSt (nw m lm f : Nat) (t : gT) (s2 : gS) (t2 : gT) : Prop := s2 2 = 0 ∧ SV nw (m - f) lm s2 t2 ∧ (∀ w, w < nw → ltF t2 w = ltF t w) ∧ (∀ a b, a < nw → b < nw → mayF t2 a b = mayF t a b ∧ jnF t2 a b = jnF t a b) ∧ ∀ i, i < m - f → tgF t2 i = tgF t (f + i)
theorem uA1_ne {τ : gT} {c a : Nat} {f : Nat → Int32} (h : a ≠ c) : uA1 τ c f a = τ a := by
  unfold uA1
  rw [if_neg h]
theorem uA1_eq {τ : gT} {c : Nat} {f : Nat → Int32} : uA1 τ c f c = f := by
  unfold uA1
  rw [if_pos rfl]
set_option maxRecDepth 100000 in
theorem nwX1_rest_f31 : Cond.fieldLink RX1 31 "TelegraphPricesLaw$Sim" "word" "[I" ∈ wsX1_rest := by decide +kernel
set_option maxRecDepth 100000 in
theorem nwX1_rest_in : ∀ w ∈ wsX10, w ∈ wsX1_rest := by decide +kernel
set_option maxRecDepth 100000 in
theorem nwX1_rest_f49 : Cond.fieldLink RX1 49 "TelegraphPricesLaw$Sim" "words" "I" ∈ wsX1_rest := by decide +kernel
set_option maxRecDepth 100000 in
theorem nwX1_rest_arI : Cond.arrayClass .int ∈ wsX1_rest := by decide +kernel
set_option maxRecDepth 100000 in
theorem nwX1_rest_f25 : Cond.fieldLink RX1 25 "TelegraphPricesLaw$Sim" "stand" "[[Z" ∈ wsX1_rest := by decide +kernel
set_option maxRecDepth 100000 in
theorem nwX1_rest_f28 : Cond.fieldLink RX1 28 "TelegraphPricesLaw$Sim" "join" "[[Z" ∈ wsX1_rest := by decide +kernel
set_option maxRecDepth 100000 in
theorem nwX1_rest_f19 : Cond.fieldLink RX1 19 "TelegraphPricesLaw$Sim" "letters" "[I" ∈ wsX1_rest := by decide +kernel
set_option maxRecDepth 100000 in
theorem nwX1_rest_k8 : Cond.classLink RX1 8 RX1 ∈ wsX1_rest := by decide +kernel
set_option maxRecDepth 100000 in
theorem nwX1_rest_ins : Cond.instantiable RX1 11 ∈ wsX1_rest := by decide +kernel
set_option maxRecDepth 100000 in
theorem nwX1_rest_ini : Cond.initialized RX1 ∈ wsX1_rest := by decide +kernel
set_option maxRecDepth 100000 in
theorem nwX1_rest_iin : Cond.instanceMethod yX1_init ∈ wsX1_rest := by decide +kernel
set_option maxRecDepth 100000 in
theorem nwX1_rest_lin : Cond.methodLink RX1 66 yX1_init ∈ wsX1_rest := by decide +kernel
set_option maxRecDepth 100000 in
theorem nwX1_rest_f7 : Cond.fieldLink RX1 7 "TelegraphPricesLaw$Sim" "limit" "I" ∈ wsX1_rest := by decide +kernel
set_option maxRecDepth 100000 in
theorem nwX1_rest_f13 : Cond.fieldLink RX1 13 "TelegraphPricesLaw$Sim" "least" "I" ∈ wsX1_rest := by decide +kernel
set_option maxHeartbeats 4000000 in
set_option maxRecDepth 100000 in
theorem s_rest {l : Launch} (hl : l.stackTraces = false) (Γ : gG) (a : Nat → Nat) (m mj : Nat) (s : gS) (t : gT) (z : va_W) (nw lm f : Nat) (I : SV nw m lm s t) (hf : f ≤ m) : CtJ l yX1_rest wsX1_rest 3 96 31 351 [.ref (a 100), .int (nI f)] Γ none (sW Γ a m mj s t ++ z) (fun v w' => ∃ (a2 : Nat → Nat) (s2 : gS) (t2 : gT), v = some (.ref (a2 100)) ∧ w' = sW Γ a2 (m - f) 0 s2 t2 ++ (sW Γ a m mj s t ++ z) ∧ RSt nw m lm f t s2 t2) := by
  refine ctj_of (by decide +kernel) rfl (Nat.le_of_ble_eq_true rfl) ?_
  intro E C F N9 hΓ hL R
  subst hΓ
  subst hL
  show J E 0 0 0 [(0, .ref (a 100)), (1, .int (nI f))] [] (sW (eG E) a m mj s t ++ z)
  have hnw := SV_nw I
  have hm := SV_m I
  have rst : ∀ t2 : gT, CP nw t nw nw 0 t2 → (∀ i, i < m - f → t2 9 i = t 9 (f + i)) → RSt nw m lm f t (uS (uS (uS s0 0 (s 0)) 1 (s 1)) 2 0) t2 := by
    intro t2 hc hw
    have e6 : ∀ w, w < nw → t2 6 w = t 6 w := hc.1
    have e9 : ∀ i, i < m - f → tgF t2 i = tgF t (f + i) := fun i hi => by unfold tgF; rw [hw i hi]
    have el : ∀ w, w < nw → ltF t2 w = ltF t w := fun w h => by unfold ltF; rw [e6 w h]
    have e2 : ∀ a b, a < nw → b < nw → t2 (20 + a) b = t (20 + a) b ∧ t2 (40 + a) b = t (40 + a) b := fun a b h1 h2 => hc.2.1 a b (Or.inl ⟨h1, h2⟩)
    refine ⟨rfl, ⟨SV_0 I, SV_1 I, hnw, by omega, SV_lm I, fun i hi => ?_, fun w h => ?_, hc.2.2.1, hc.2.2.2.1, fun i => Or.inl (hc.2.2.2.2 i)⟩, el, fun a b h1 h2 => ?_, e9⟩
    · rw [e9 i hi, hw i hi]
      exact SV_tg I (by omega)
    · rw [el w h, e6 w h]
      exact SV_lt I h
    · unfold mayF jnF
      rw [(e2 a b h1 h2).1, (e2 a b h1 h2).2]
      exact ⟨rfl, rfl⟩
  have rst := fun {t2 : gT} => rst t2
  have lw : ∀ (a2 : Nat → Nat) (q : Nat) (d p : Nat) (t2 : gT), p + d = m - f → CP nw t nw nw 0 t2 → (∀ i, i < p → t2 9 i = t 9 (f + i)) → J E (0 + 1 + 29 + 1) (0 + 11 + 324 + 16) 126 [(3, .int (nI p)), (2, .ref (a2 100)), (1, .int (nI f)), (0, .ref (a 100))] [] (sW (eG E) (aU a2 9 q) (m - f) 0 (uS (uS (uS s0 0 (s 0)) 1 (s 1)) 2 0) t2 ++ (sW (eG E) a m mj s t ++ z)) := by
    intro a2 q d
    induction d with
    | zero =>
      intro p t2 hp hc hw
      refine j_iload_n C dX1_rest_126 rfl rfl ?_
      refine j_aload_n C dX1_rest_127 rfl rfl ?_
      refine j_get C 0 9 dX1_rest_128 nwX1_rest_in (by decide) nwX1_rest_f31 rfl rfl rfl ?_
      refine j_alen C 4 0 dX1_rest_131 rfl rfl ?_
      refine j_icmp_ge (tgt := 155) C dX1_rest_132 (by decide) (fun c_132 => ?_) (fun c_132 => ?_)
      · refine j_aload_n C dX1_rest_155 rfl rfl ?_
        exact j_aret C F (Or.inl ⟨_, rfl⟩) dX1_rest_156 (Nat.le_of_ble_eq_true rfl) (Nat.le_of_ble_eq_true rfl) ⟨aU a2 9 q, (uS (uS (uS s0 0 (s 0)) 1 (s 1)) 2 0), t2, rfl, rfl, rst hc (fun i hi => hw i (by omega))⟩
      · exact absurd (nI_le (by omega) (by omega)) c_132
    | succ d ih =>
      intro p t2 hp hc hw
      have hpm : p < m - f := by omega
      refine j_iload_n C dX1_rest_126 rfl rfl ?_
      refine j_aload_n C dX1_rest_127 rfl rfl ?_
      refine j_get C 0 9 dX1_rest_128 nwX1_rest_in (by decide) nwX1_rest_f31 rfl rfl rfl ?_
      refine j_alen C 4 0 dX1_rest_131 rfl rfl ?_
      refine j_icmp_ge (tgt := 155) C dX1_rest_132 (by decide) (fun c_132 => ?_) (fun c_132 => ?_)
      · exact absurd c_132 (nI_ge (by omega) (by omega))
      · refine j_aload_n C dX1_rest_135 rfl rfl ?_
        refine j_get C 0 9 dX1_rest_136 nwX1_rest_in (by decide) nwX1_rest_f31 rfl rfl rfl ?_
        refine j_iload_n C dX1_rest_139 rfl rfl ?_
        refine j_aload_n C dX1_rest_140 rfl rfl ?_
        refine j_get C 30 9 dX1_rest_141 nwX1_rest_in (by decide) nwX1_rest_f31 rfl rfl rfl ?_
        refine j_iload_n C dX1_rest_144 rfl rfl ?_
        refine j_iload_n C dX1_rest_145 rfl rfl ?_
        refine j_iadd C dX1_rest_146 ?_
        refine j_iald C 34 (f + p) dX1_rest_147 rfl (nI_add f p) (by omega) (by omega) ?_
        refine jS_iast C [] 4 9 (p) dX1_rest_148 rfl rfl hpm (by omega) rfl ?_
        refine j_iinc C 0 [(3, _), (2, _), (1, _), (0, _)] dX1_rest_149 rfl (nI_i1 p) (by decide) rfl ?_
        refine j_goto (tgt := 126) C dX1_rest_152 (by decide) ?_
        refine ih (p + 1) _ (by omega) ?_ ?_
        · exact ⟨fun w h => by rw [uT_ne (by omega)]; exact hc.1 w h, fun w c h => by rw [uT_ne (by omega), uT_ne (by omega)]; exact hc.2.1 w c h, fun w c => by rw [uT_ne (by omega)]; exact hc.2.2.1 w c, fun w c => by rw [uT_ne (by omega)]; exact hc.2.2.2.1 w c, fun i => by rw [uT_ne (by omega)]; exact hc.2.2.2.2 i⟩
        · intro i hi
          rw [uT_eq]
          by_cases e : i = p
          · rw [e, upd_eq]
          · rw [upd_ne e]
            exact hw i (by omega)
  have la : ∀ (a2 : Nat → Nat) (d a9 : Nat) (t2 : gT), a9 + d = nw → CP nw t a9 a9 0 t2 → J E (0 + 1 + 29) (0 + 11 + 324) 31 [(3, .int (nI a9)), (2, .ref (a2 100)), (1, .int (nI f)), (0, .ref (a 100))] [] (sW (eG E) a2 0 0 (uS (uS (uS s0 0 (s 0)) 1 (s 1)) 2 0) t2 ++ (sW (eG E) a m mj s t ++ z)) := by
    intro a2 d
    induction d with
    | zero =>
      intro a9 t2 ha hc
      refine j_iload_n C dX1_rest_31 rfl rfl ?_
      refine j_aload_n C dX1_rest_32 rfl rfl ?_
      refine j_get C 30 0 dX1_rest_33 nwX1_rest_in (by decide) nwX1_rest_f49 rfl rfl rfl ?_
      refine j_icmp_ge (tgt := 111) C dX1_rest_36 (by decide) (fun c_36 => ?_) (fun c_36 => ?_)
      · refine j_aload_n C dX1_rest_111 rfl rfl ?_
        refine j_aload_n C dX1_rest_112 rfl rfl ?_
        refine j_get C 30 9 dX1_rest_113 nwX1_rest_in (by decide) nwX1_rest_f31 rfl rfl rfl ?_
        refine j_alen C 34 0 dX1_rest_116 rfl rfl ?_
        refine j_iload_n C dX1_rest_117 rfl rfl ?_
        refine j_isub C dX1_rest_118 ?_
        rw [pk_sub hf]
        refine j_newI C (m - f) (16) dX1_rest_119 nwX1_rest_arI rfl (by omega) (by decide) (by rw [R]; exact Nat.le_of_ble_eq_true rfl) (by rw [R]; exact Nat.le_of_ble_eq_true rfl) (fun q => ?_)
        refine j_behind ?_
        refine jS_word C dX1_rest_121 nwX1_rest_in nwX1_rest_f31 ?_
        refine j_iconst (v := 0) C dX1_rest_124 (by decide) ?_
        refine j_istore_n C [(3, _), (2, _), (1, _), (0, _)] dX1_rest_125 rfl (by decide) rfl ?_
        refine lw a2 q (m - f) 0 _ (Nat.zero_add _) ?_ (fun i hi => absurd hi (Nat.not_lt_zero i))
        have e : a9 = nw := by omega
        subst e
        exact ⟨fun w h => by rw [uA1_ne (by omega)]; exact hc.1 w h, fun w c h => by rw [uA1_ne (by omega), uA1_ne (by omega)]; exact hc.2.1 w c h, fun w c => by rw [uA1_ne (by omega)]; exact hc.2.2.1 w c, fun w c => by rw [uA1_ne (by omega)]; exact hc.2.2.2.1 w c, fun i => by rw [uA1_ne (by omega)]; exact hc.2.2.2.2 i⟩
      · exact absurd (by rw [SV_0 I]; exact nI_le (by omega) (by omega)) c_36
    | succ d ih =>
      intro a9 t2 ha hc
      have han : a9 < nw := by omega
      have lb : ∀ (e b : Nat) (t2 : gT), b + e = nw → CP nw t (a9 + 1) a9 b t2 → J E (0 + 1 + 29) (0 + 11 + 324) 54 [(4, .int (nI b)), (3, .int (nI a9)), (2, .ref (a2 100)), (1, .int (nI f)), (0, .ref (a 100))] [] (sW (eG E) a2 0 0 (uS (uS (uS s0 0 (s 0)) 1 (s 1)) 2 0) t2 ++ (sW (eG E) a m mj s t ++ z)) := by
        intro e
        induction e with
        | zero =>
          intro b t2 hb hc
          refine j_iload C dX1_rest_54 rfl ?_
          refine j_aload_n C dX1_rest_56 rfl rfl ?_
          refine j_get C 30 0 dX1_rest_57 nwX1_rest_in (by decide) nwX1_rest_f49 rfl rfl rfl ?_
          refine j_icmp_ge (tgt := 105) C dX1_rest_60 (by decide) (fun c_60 => ?_) (fun c_60 => ?_)
          · refine j_iinc C 1 [(3, _), (4, _), (2, _), (1, _), (0, _)] dX1_rest_105 rfl (nI_i1 a9) (by decide) rfl ?_
            refine j_goto (tgt := 31) C dX1_rest_108 (by decide) ?_
            refine j_lv [0, 2, 3, 4] [(3, _), (2, _), (1, _), (0, _)] rfl ?_
            rw [show b = nw by omega] at hc
            exact ih (a9 + 1) t2 (by omega) (CP_n hc)
          · exact absurd (by rw [SV_0 I, show b = nw by omega]; exact i_rf _) c_60
        | succ e ih2 =>
          intro b t2 hb hc
          have hbn : b < nw := by omega
          refine j_iload C dX1_rest_54 rfl ?_
          refine j_aload_n C dX1_rest_56 rfl rfl ?_
          refine j_get C 30 0 dX1_rest_57 nwX1_rest_in (by decide) nwX1_rest_f49 rfl rfl rfl ?_
          refine j_icmp_ge (tgt := 105) C dX1_rest_60 (by decide) (fun c_60 => ?_) (fun c_60 => ?_)
          · exact absurd (by rw [SV_0 I] at c_60; exact c_60) (nI_ge (by omega) (by omega))
          · refine j_aload_n C dX1_rest_63 rfl rfl ?_
            refine j_get C 0 7 dX1_rest_64 nwX1_rest_in (by decide) nwX1_rest_f25 rfl rfl rfl ?_
            refine j_iload_n C dX1_rest_67 rfl rfl ?_
            refine jS_row C 2 7 20 (a9) dX1_rest_68 rfl rfl (by omega) ?_
            refine j_iload C dX1_rest_69 rfl ?_
            refine j_aload_n C dX1_rest_71 rfl rfl ?_
            refine j_get C 30 7 dX1_rest_72 nwX1_rest_in (by decide) nwX1_rest_f25 rfl rfl rfl ?_
            refine j_iload_n C dX1_rest_75 rfl rfl ?_
            refine jS_row C 32 7 20 (a9) dX1_rest_76 rfl rfl (by omega) ?_
            refine j_iload C dX1_rest_77 rfl ?_
            refine jS_st C (sW _ _ _ _ _ _) (a9) (b) dX1_rest_79 rfl (by omega) (by omega) ?_
            refine jS_stput C [] (a9) (b) dX1_rest_80 rfl (by omega) (by omega) (SV_st I a9 b) ?_
            refine j_aload_n C dX1_rest_81 rfl rfl ?_
            refine j_get C 0 8 dX1_rest_82 nwX1_rest_in (by decide) nwX1_rest_f28 rfl rfl rfl ?_
            refine j_iload_n C dX1_rest_85 rfl rfl ?_
            refine jS_row C 3 8 40 (a9) dX1_rest_86 rfl rfl (by omega) ?_
            refine j_iload C dX1_rest_87 rfl ?_
            refine j_aload_n C dX1_rest_89 rfl rfl ?_
            refine j_get C 30 8 dX1_rest_90 nwX1_rest_in (by decide) nwX1_rest_f28 rfl rfl rfl ?_
            refine j_iload_n C dX1_rest_93 rfl rfl ?_
            refine jS_row C 33 8 40 (a9) dX1_rest_94 rfl rfl (by omega) ?_
            refine j_iload C dX1_rest_95 rfl ?_
            refine jS_jn C (sW _ _ _ _ _ _) (a9) (b) dX1_rest_97 rfl (by omega) (by omega) ?_
            refine jS_jnput C [] (a9) (b) dX1_rest_98 rfl (by omega) (by omega) (SV_jn I a9 b) ?_
            refine j_iinc C 0 [(4, _), (3, _), (2, _), (1, _), (0, _)] dX1_rest_99 rfl (nI_i1 b) (by decide) rfl ?_
            refine j_goto (tgt := 54) C dX1_rest_102 (by decide) ?_
            exact ih2 (b + 1) _ (by omega) (CP_b (by omega) hc (SV_st I a9 b) (SV_jn I a9 b))
      refine j_iload_n C dX1_rest_31 rfl rfl ?_
      refine j_aload_n C dX1_rest_32 rfl rfl ?_
      refine j_get C 30 0 dX1_rest_33 nwX1_rest_in (by decide) nwX1_rest_f49 rfl rfl rfl ?_
      refine j_icmp_ge (tgt := 111) C dX1_rest_36 (by decide) (fun c_36 => ?_) (fun c_36 => ?_)
      · exact absurd (by rw [SV_0 I] at c_36; exact c_36) (nI_ge (by omega) (by omega))
      · refine j_aload_n C dX1_rest_39 rfl rfl ?_
        refine j_get C 0 6 dX1_rest_40 nwX1_rest_in (by decide) nwX1_rest_f19 rfl rfl rfl ?_
        refine j_iload_n C dX1_rest_43 rfl rfl ?_
        refine j_aload_n C dX1_rest_44 rfl rfl ?_
        refine j_get C 30 6 dX1_rest_45 nwX1_rest_in (by decide) nwX1_rest_f19 rfl rfl rfl ?_
        refine j_iload_n C dX1_rest_48 rfl rfl ?_
        refine j_iald C 31 (a9) dX1_rest_49 rfl rfl (by omega) (by decide) ?_
        refine jS_iast C [] 1 6 (a9) dX1_rest_50 rfl rfl (by omega) (by decide) rfl ?_
        refine j_iconst (v := 0) C dX1_rest_51 (by decide) ?_
        refine j_istore C [(4, _), (3, _), (2, _), (1, _), (0, _)] dX1_rest_52 (by decide) rfl ?_
        exact lb nw 0 _ (Nat.zero_add _) (CP_l hc)
  refine j_new C dX1_rest_0 nwX1_rest_in nwX1_rest_k8 nwX1_rest_ins nwX1_rest_ini (by rw [R]; exact Nat.le_of_ble_eq_true rfl) (by rw [R]; exact Nat.le_of_ble_eq_true rfl) (fun b2 => ?_)
  refine j_dup C dX1_rest_3 rfl ?_
  refine j_callI C dX1_rest_4 (s_init hl (eG E) b2 _) gX1_rest_X1_init rfl nwX1_rest_ini nwX1_rest_lin nwX1_rest_iin rfl (Nat.le_of_ble_eq_true rfl) (by rw [R]; exact ⟨Nat.le_of_ble_eq_true rfl, Nat.le_of_ble_eq_true rfl⟩) (by rw [R]; exact ⟨Nat.le_of_ble_eq_true rfl, Nat.le_of_ble_eq_true rfl⟩) (fun v w' hq => ?_)
  obtain ⟨rfl, a2, rfl, rfl⟩ := hq
  show J E _ _ _ _ [.ref (a2 100)] _
  refine j_astore_n C [(2, _), (0, _), (1, _)] dX1_rest_7 rfl (by decide) rfl ?_
  refine j_aload_n C dX1_rest_8 rfl rfl ?_
  refine j_aload_n C dX1_rest_9 rfl rfl ?_
  refine j_get C 30 0 dX1_rest_10 nwX1_rest_in (by decide) nwX1_rest_f49 rfl rfl rfl ?_
  refine jS_put C [] 0 0 dX1_rest_13 nwX1_rest_in (by decide) nwX1_rest_f49 rfl rfl (by decide +kernel) rfl (Nat.le_of_ble_eq_true rfl) rfl ?_
  refine j_aload_n C dX1_rest_16 rfl rfl ?_
  refine j_aload_n C dX1_rest_17 rfl rfl ?_
  refine j_get C 30 1 dX1_rest_18 nwX1_rest_in (by decide) nwX1_rest_f7 rfl rfl rfl ?_
  refine jS_put C [] 0 1 dX1_rest_21 nwX1_rest_in (by decide) nwX1_rest_f7 rfl rfl (by decide +kernel) rfl (Nat.le_of_ble_eq_true rfl) rfl ?_
  refine j_aload_n C dX1_rest_24 rfl rfl ?_
  refine j_iconst (v := 0) C dX1_rest_25 (by decide) ?_
  refine jS_put C [] 0 2 dX1_rest_26 nwX1_rest_in (by decide) nwX1_rest_f13 rfl rfl (by decide +kernel) rfl (Nat.le_of_ble_eq_true rfl) rfl ?_
  refine j_iconst (v := 0) C dX1_rest_29 (by decide) ?_
  refine j_istore_n C [(3, _), (2, _), (0, _), (1, _)] dX1_rest_30 rfl (by decide) rfl ?_
  refine j_lv [0, 1, 3, 2] [(3, _), (2, _), (1, _), (0, _)] rfl ?_
  exact la a2 nw 0 zT (Nat.zero_add _) CP_0
end
section
/-! wording -/
theorem uB_cong {x0 : Nat} {c c2 : Nat → Nat} {ok ok2 : Nat → Bool} {m0 : Nat} : ∀ b, (∀ i, i < b → c i = c2 i ∧ ok i = ok2 i) → uB x0 c ok m0 b = uB x0 c2 ok2 m0 b := by
  intro b
  induction b with
  | zero => exact fun _ => rfl
  | succ b ih =>
    intro h
    show (if ok b = true then _ else _) = (if ok2 b = true then _ else _)
    rw [ih (fun i hi => h i (by omega)), (h b (by omega)).1, (h b (by omega)).2]
theorem uA_cong {p u1 u0 N : Nat} {c1 d1 : Nat → Nat} {c2 d2 : Nat → Nat → Nat} {ok k1 : Nat → Bool} {ok2 k2 : Nat → Nat → Bool} : ∀ a, a ≤ N → (∀ i, i < N → c1 i = d1 i ∧ ok i = k1 i) → (∀ i j, i < N → j < N → c2 i j = d2 i j ∧ (¬ p = 0 → ok2 i j = k2 i j)) → uA p u1 u0 N c1 c2 ok ok2 a = uA p u1 u0 N d1 d2 k1 k2 a := by
  intro a
  induction a with
  | zero => exact fun _ _ _ => rfl
  | succ a ih =>
    intro ha h1 h2
    have e := ih (by omega) h1 h2
    cases hk : k1 a with
    | false => rw [uA_no (by rw [(h1 a (by omega)).2, hk]), uA_no hk, e]
    | true =>
      have hk2 : ok a = true := by rw [(h1 a (by omega)).2, hk]
      by_cases h0 : p = 0
      · rw [uA_z hk2 h0, uA_z hk h0, e, (h1 a (by omega)).1]
      · rw [uA_p hk2 h0, uA_p hk h0, e, (h1 a (by omega)).1]
        exact uB_cong N (fun i hi => ⟨(h2 i a hi (by omega)).1, (h2 i a hi (by omega)).2 h0⟩)
theorem uU_cong {lm N : Nat} {lt lt2 : Nat → Nat} {may may2 jn jn2 : Nat → Nat → Bool} {tg tg2 : Nat → Nat} (h1 : ∀ w, w < N → lt w = lt2 w) (h2 : ∀ a b, a < N → b < N → may a b = may2 a b ∧ jn a b = jn2 a b) : ∀ k, (∀ i, i < k → tg i = tg2 i ∧ tg i < N) → uU lm N lt may jn tg k = uU lm N lt2 may2 jn2 tg2 k := by
  intro k
  induction k with
  | zero => exact fun _ => rfl
  | succ p ih =>
    intro h3
    have e := ih (fun i hi => h3 i (by omega))
    show ((uA p _ _ N _ _ _ _ N, _) : Nat × Nat) = (uA p _ _ N _ _ _ _ N, _)
    rw [e]
    refine congrArg (fun v => (v, (uU lm N lt2 may2 jn2 tg2 p).1)) (uA_cong N (Nat.le_refl N) (fun i hi => ⟨by rw [h1 i hi], ?_⟩) (fun i j hi hj => ⟨by rw [h1 i hi, h1 j hj], fun h0 => ?_⟩))
    · rw [(h2 (tg p) i (h3 p (by omega)).2 hi).1, (h3 p (by omega)).1]
    · rw [(h2 (tg (p - 1)) i (h3 (p - 1) (by omega)).2 hi).1, (h3 (p - 1) (by omega)).1, (h2 i j hi hj).2]
/-- what the places from p on count at the least -/
def Lx (lm nw m : Nat) (t : gT) (p : Nat) : Nat := (uU lm nw (ltF t) (mayF t) (jnF t) (fun i => tgF t (p + i)) (m - p)).1
theorem Lx_le {lm nw m : Nat} {t : gT} {p : Nat} : Lx lm nw m t p ≤ 9999 := uU_le _
theorem Lx_m {lm nw m : Nat} {t : gT} : Lx lm nw m t m = 0 := by
  unfold Lx
  rw [Nat.sub_self]
  rfl
theorem Lx_rest {lm nw m mj f : Nat} {s s2 : gS} {t t2 : gT} (I : SV nw m lm s t) (h : RSt nw m lm f t s2 t2) (hf : f < m) : al (m - f) (s2 2) (nI (UUx lm nw t2 (m - f)).1) = nI (Lx lm nw m t f) := by
  obtain ⟨e2, -, hl, hm, ht⟩ := h
  have e : UUx lm nw t2 (m - f) = uU lm nw (ltF t) (mayF t) (jnF t) (fun i => tgF t (f + i)) (m - f) := uU_cong hl hm (m - f) (fun i hi => ⟨ht i hi, by rw [ht i hi]; exact (SV_tg I (by omega)).2⟩)
  have hle := Lx_le (lm := lm) (nw := nw) (m := m) (t := t) (p := f)
  unfold al
  rw [if_neg (by omega), e2, e]
  exact if_neg (nI_nlt (b := 0) (Nat.zero_le _) (by unfold Lx at hle; omega))
/-- a word alone, a pair, that reaches the least -/
def Q1 (lm nw m : Nat) (t : gT) (p a : Nat) : Prop := mayF t (tgF t p) a = true ∧ cN lm (ltF t a) + Lx lm nw m t (p + 1) = Lx lm nw m t p
def Q2 (lm nw m : Nat) (t : gT) (p a b : Nat) : Prop := mayF t (tgF t p) a = true ∧ mayF t (tgF t (p + 1)) b = true ∧ jnF t a b = true ∧ cN lm (ltF t a + ltF t b) + Lx lm nw m t (p + 2) = Lx lm nw m t p
/-- the least of them -/
def WS (lm nw m : Nat) (t : gT) (pr : Nat → Bool) (S A B : Nat → Nat) : Prop := ∀ p, p < m →
  (pr p = false → S p < nw ∧ Q1 lm nw m t p (S p) ∧ ∀ a, a < S p → ¬ Q1 lm nw m t p a) ∧
  (pr p = true → p + 1 < m ∧ (∀ a, a < nw → ¬ Q1 lm nw m t p a) ∧ A p < nw ∧ B p < nw ∧ Q2 lm nw m t p (A p) (B p) ∧ ∀ a b, a < nw → b < nw → Q2 lm nw m t p a b → 12 * A p + B p ≤ 12 * a + b)
/-- what the wording holds -/
def wq (pr : Nat → Bool) (S A B : Nat → Nat) (q : Nat) : Nat := if isSec pr q = true then B (q - 1) else if pr q = true then 100 + A q else S q
/-- its, behind the words from i on -/
def V1 (lm nw m : Nat) (t : gT) (p i : Nat) (v : Int32) : Prop := (v = -1 ∧ ∀ a, i ≤ a → a < nw → ¬ Q1 lm nw m t p a) ∨ ∃ a0, i ≤ a0 ∧ a0 < nw ∧ Q1 lm nw m t p a0 ∧ (∀ a, i ≤ a → a < a0 → ¬ Q1 lm nw m t p a) ∧ v = nI a0
/-- the wording, behind the pairs from K on -/
def V2 (lm nw m : Nat) (t : gT) (p : Nat) (f0 : Nat → Int32) (K : Nat) (f : Nat → Int32) : Prop := (∀ q, q ≠ p → q ≠ p + 1 → f q = f0 q) ∧ ((∀ a b, a < nw → b < nw → K ≤ 12 * a + b → ¬ Q2 lm nw m t p a b) ∨ ∃ a0 b0, a0 < nw ∧ b0 < nw ∧ K ≤ 12 * a0 + b0 ∧ Q2 lm nw m t p a0 b0 ∧ (∀ a b, a < nw → b < nw → K ≤ 12 * a + b → Q2 lm nw m t p a b → 12 * a0 + b0 ≤ 12 * a + b) ∧ f p = nI (100 + a0) ∧ f (p + 1) = nI b0)
section
variable {lm nw m p : Nat} {t : gT}
theorem V1_0 : V1 lm nw m t p nw (-1) := Or.inl ⟨rfl, fun a h1 h2 => by omega⟩
theorem V1_no {i : Nat} {v : Int32} (h : V1 lm nw m t p (i + 1) v) (hq : ¬ Q1 lm nw m t p i) : V1 lm nw m t p i v := by
  have k : ∀ a, i ≤ a → (i + 1 ≤ a ∨ a = i) := fun a h => by omega
  rcases h with ⟨h1, h2⟩ | ⟨a0, h1, h2, h3, h4, h5⟩
  · refine Or.inl ⟨h1, fun a ha hn => ?_⟩
    rcases k a ha with g | g
    · exact h2 a g hn
    · rw [g]; exact hq
  · refine Or.inr ⟨a0, by omega, h2, h3, fun a ha hn => ?_, h5⟩
    rcases k a ha with g | g
    · exact h4 a g hn
    · rw [g]; exact hq
theorem V1_yes {i : Nat} (hi : i < nw) (hq : Q1 lm nw m t p i) : V1 lm nw m t p i (nI i) := Or.inr ⟨i, Nat.le_refl i, hi, hq, fun a h1 h2 => by omega, rfl⟩
theorem V2_0 {f0 : Nat → Int32} (hw : nw ≤ 12) : V2 lm nw m t p f0 (12 * nw) f0 := ⟨fun _ _ _ => rfl, Or.inl fun a b h1 h2 h3 => by omega⟩
theorem V2_sub {f0 f : Nat → Int32} {K K2 : Nat} (h : V2 lm nw m t p f0 K f) (hk : K2 ≤ K) (hs : ∀ a b, a < nw → b < nw → K2 ≤ 12 * a + b → K ≤ 12 * a + b) : V2 lm nw m t p f0 K2 f := by
  refine ⟨h.1, ?_⟩
  rcases h.2 with h1 | ⟨a0, b0, h1, h2, h3, h4, h5, h6⟩
  · exact Or.inl fun a b g1 g2 g3 => h1 a b g1 g2 (hs a b g1 g2 g3)
  · exact Or.inr ⟨a0, b0, h1, h2, by omega, h4, fun a b g1 g2 g3 => h5 a b g1 g2 (hs a b g1 g2 g3), h6⟩
theorem V2_no {f0 f : Nat → Int32} {a9 j : Nat} (hw : nw ≤ 12) (hj : j < nw) (h : V2 lm nw m t p f0 (12 * a9 + (j + 1)) f) (hq : ¬ Q2 lm nw m t p a9 j) : V2 lm nw m t p f0 (12 * a9 + j) f := by
  have k : ∀ a b, b < nw → 12 * a9 + j ≤ 12 * a + b → (12 * a9 + (j + 1) ≤ 12 * a + b ∨ (a = a9 ∧ b = j)) := fun a b hb hl => by omega
  refine ⟨h.1, ?_⟩
  rcases h.2 with h1 | ⟨a0, b0, h1, h2, h3, h4, h5, h6⟩
  · refine Or.inl fun a b g1 g2 g3 => ?_
    rcases k a b g2 g3 with g | ⟨rfl, rfl⟩
    · exact h1 a b g1 g2 g
    · exact hq
  · refine Or.inr ⟨a0, b0, h1, h2, by omega, h4, fun a b g1 g2 g3 g4 => ?_, h6⟩
    rcases k a b g2 g3 with g | ⟨rfl, rfl⟩
    · exact h5 a b g1 g2 g g4
    · exact absurd g4 hq
theorem V2_yes {f0 f : Nat → Int32} {K a9 j : Nat} (ha : a9 < nw) (hj : j < nw) (h : V2 lm nw m t p f0 K f) (hq : Q2 lm nw m t p a9 j) : V2 lm nw m t p f0 (12 * a9 + j) (upd (upd f p (nI (100 + a9))) (p + 1) (nI j)) := by
  refine ⟨fun q h1 h2 => by rw [upd_ne h2, upd_ne h1]; exact h.1 q h1 h2, Or.inr ⟨a9, j, ha, hj, Nat.le_refl _, hq, fun a b _ _ g _ => g, by rw [upd_ne (by omega), upd_eq], upd_eq⟩⟩
theorem V1_S {v : Int32} {S : Nat} (h : V1 lm nw m t p 0 v) (hS : S < nw ∧ Q1 lm nw m t p S ∧ ∀ a, a < S → ¬ Q1 lm nw m t p a) : v = nI S := by
  rcases h with ⟨h1, h2⟩ | ⟨a0, h1, h2, h3, h4, h5⟩
  · exact absurd hS.2.1 (h2 S (Nat.zero_le _) hS.1)
  · rw [h5]
    rcases Nat.lt_trichotomy a0 S with g | g | g
    · exact absurd h3 (hS.2.2 a0 g)
    · rw [g]
    · exact absurd hS.2.1 (h4 S (Nat.zero_le _) g)
theorem V1_N {v : Int32} (h : V1 lm nw m t p 0 v) (hN : ∀ a, a < nw → ¬ Q1 lm nw m t p a) : v = -1 := by
  rcases h with ⟨h1, h2⟩ | ⟨a0, h1, h2, h3, h4, h5⟩
  · exact h1
  · exact absurd h3 (hN a0 h2)
theorem V2_P {f0 f : Nat → Int32} {A B : Nat} (hw : nw ≤ 12) (h : V2 lm nw m t p f0 0 f) (hA : A < nw) (hB : B < nw) (hQ : Q2 lm nw m t p A B) (hm : ∀ a b, a < nw → b < nw → Q2 lm nw m t p a b → 12 * A + B ≤ 12 * a + b) : f p = nI (100 + A) ∧ f (p + 1) = nI B := by
  rcases h.2 with h1 | ⟨a0, b0, h1, h2, h3, h4, h5, h6, h7⟩
  · exact absurd hQ (h1 A B hA hB (Nat.zero_le _))
  · have g1 := hm a0 b0 h1 h2 h4
    have g2 := h5 A B hA hB (Nat.zero_le _) hQ
    have e : a0 = A ∧ b0 = B := by omega
    rw [h6, h7, e.1, e.2]
    exact ⟨rfl, rfl⟩
end
theorem wq_S {pr : Nat → Bool} {S A B : Nat → Nat} {p : Nat} (h1 : isSec pr p = false) (h2 : pr p = false) : wq pr S A B p = S p ∧ isSec pr (p + 1) = false := by simp [wq, isSec, h1, h2]
theorem wq_P {pr : Nat → Bool} {S A B : Nat → Nat} {p : Nat} (h1 : isSec pr p = false) (h2 : pr p = true) : wq pr S A B p = 100 + A p ∧ wq pr S A B (p + 1) = B p ∧ isSec pr (p + 2) = false := by simp [wq, isSec, h1, h2]
theorem i_m1 (x : Int32) : x + Int32.ofInt (-1) = x - 1 := by
  rw [Int32.sub_eq_add_neg]
  rfl
theorem nI_eqN {x y : Nat} (h : nI x = nI y) (hx : x < 2 ^ 31) (hy : y < 2 ^ 31) : x = y := by
  have := congrArg Int32.toNatClampNeg h
  rw [nI_clamp hx, nI_clamp hy] at this
  exact this
set_option maxRecDepth 100000 in
theorem nwX1_wording_f31 : Cond.fieldLink RX1 31 "TelegraphPricesLaw$Sim" "word" "[I" ∈ wsX1_wording := by decide +kernel
set_option maxRecDepth 100000 in
theorem nwX1_wording_in : ∀ w ∈ wsX10, w ∈ wsX1_wording := by decide +kernel
set_option maxRecDepth 100000 in
theorem nwX1_wording_f28 : Cond.fieldLink RX1 28 "TelegraphPricesLaw$Sim" "join" "[[Z" ∈ wsX1_wording := by decide +kernel
set_option maxRecDepth 100000 in
theorem nwX1_wording_f19 : Cond.fieldLink RX1 19 "TelegraphPricesLaw$Sim" "letters" "[I" ∈ wsX1_wording := by decide +kernel
set_option maxRecDepth 100000 in
theorem nwX1_wording_f49 : Cond.fieldLink RX1 49 "TelegraphPricesLaw$Sim" "words" "I" ∈ wsX1_wording := by decide +kernel
set_option maxRecDepth 100000 in
theorem nwX1_wording_arI : Cond.arrayClass .int ∈ wsX1_wording := by decide +kernel
set_option maxHeartbeats 4000000 in
set_option maxRecDepth 100000 in
theorem s_wording {l : Launch} (hl : l.stackTraces = false) (Γ : gG) (a : Nat → Nat) (m mj : Nat) (s : gS) (t : gT) (z : va_W) (nw lm : Nat) (pr : Nat → Bool) (S A B : Nat → Nat) (I : SV nw m lm s t) (hW : WS lm nw m t pr S A B) : CtJ l yX1_wording wsX1_wording 5 160 514 5922 [.ref (a 100)] Γ none (sW Γ a m mj s t ++ z) (fun v w' => ∃ (q : Nat) (f : Nat → Int32), v = some (.ref q) ∧ w' = sW Γ a m mj s t ++ ((q, .inl (Γ.2.2.1, m, .inl f)) :: z) ∧ ∀ i, i < m → f i = nI (wq pr S A B i)) := by
  refine ctj_of (by decide +kernel) rfl (Nat.le_of_ble_eq_true rfl) ?_
  intro E C F N9 hΓ hL R
  subst hΓ
  subst hL
  show J E 0 0 0 [(0, .ref (a 100))] [] (sW (eG E) a m mj s t ++ z)
  have hnw := SV_nw I
  have hm := SV_m I
  have main : ∀ (q q2 : Nat) (g : Nat → Int32), (∀ i, i ≤ m → g i = nI (Lx lm nw m t i)) → ∀ (d p : Nat) (f : Nat → Int32), p ≤ m → m - p ≤ d → isSec pr p = false → (∀ i, i < p → f i = nI (wq pr S A B i)) → J E 514 5922 57 [(4, .int (nI p)), (0, .ref (a 100)), (1, .int (nI m)), (2, .ref q), (3, .ref q2)] [] (sW (eG E) a m mj s t ++ ((q2, .inl (jC0 E, m + 2, .inl g)) :: (q, .inl (jC0 E, m, .inl f)) :: z)) := by
    intro q q2 g hg d
    induction d with
    | zero =>
      intro p f hp hd hs hf
      have ep : p = m := by omega
      subst ep
      refine j_iload C dX1_wording_57 rfl ?_
      refine j_iload_n C dX1_wording_59 rfl rfl ?_
      refine j_icmp_ge (tgt := 291) C dX1_wording_60 (by decide) (fun c_60 => ?_) (fun c_60 => ?_)
      · refine j_aload_n C dX1_wording_291 rfl rfl ?_
        refine j_drop1 ?_
        exact j_aret C F (Or.inr ⟨_, rfl⟩) dX1_wording_292 (Nat.le_of_ble_eq_true rfl) (Nat.le_of_ble_eq_true rfl) ⟨q, f, rfl, rfl, hf⟩
      · exact absurd (i_rf _) c_60
    | succ d ih =>
      intro p f hp hd hs hf
      rcases Nat.lt_or_ge p m with hpm | hpm
      rotate_left
      · have ep : p = m := by omega
        subst ep
        refine j_iload C dX1_wording_57 rfl ?_
        refine j_iload_n C dX1_wording_59 rfl rfl ?_
        refine j_icmp_ge (tgt := 291) C dX1_wording_60 (by decide) (fun c_60 => ?_) (fun c_60 => ?_)
        · refine j_aload_n C dX1_wording_291 rfl rfl ?_
          refine j_drop1 ?_
          exact j_aret C F (Or.inr ⟨_, rfl⟩) dX1_wording_292 (Nat.le_of_ble_eq_true rfl) (Nat.le_of_ble_eq_true rfl) ⟨q, f, rfl, rfl, hf⟩
        · exact absurd (i_rf _) c_60
      obtain ⟨e9, h9⟩ := SV_tg I hpm
      have hnw0 : 0 < nw := by omega
      have hL0 := Lx_le (lm := lm) (nw := nw) (m := m) (t := t) (p := p)
      have hL1 := Lx_le (lm := lm) (nw := nw) (m := m) (t := t) (p := p + 1)
      have hL2 := Lx_le (lm := lm) (nw := nw) (m := m) (t := t) (p := p + 2)
      have fin : ∀ v : Int32, V1 lm nw m t p 0 v → J E 514 5922 130 [(5, .int v), (4, .int (nI p)), (0, .ref (a 100)), (1, .int (nI m)), (2, .ref q), (3, .ref q2)] [] (sW (eG E) a m mj s t ++ ((q2, .inl (jC0 E, m + 2, .inl g)) :: (q, .inl (jC0 E, m, .inl f)) :: z)) := by
        intro v hv
        cases hpr : pr p with
        | false =>
          have ev := V1_S hv ((hW p hpm).1 hpr)
          have hSn := ((hW p hpm).1 hpr).1
          rw [ev]
          obtain ⟨w1, w2⟩ := wq_S (S := S) (A := A) (B := B) hs hpr
          refine j_iload C dX1_wording_130 rfl ?_
          refine j_if_lt (tgt := 147) C dX1_wording_132 (by decide) (fun c_132 => ?_) (fun c_132 => ?_)
          · exact absurd c_132 (nI_nlt (b := 0) (Nat.zero_le _) (by omega))
          · refine j_aload_n C dX1_wording_135 rfl rfl ?_
            refine j_iload C dX1_wording_136 rfl ?_
            refine j_iload C dX1_wording_138 rfl ?_
            refine jT_iast1 C (p) dX1_wording_140 rfl hpm (by omega) ?_
            refine j_iinc C 1 [(4, _), (5, _), (0, _), (1, _), (2, _), (3, _)] dX1_wording_141 rfl (nI_i1 p) (by decide) rfl ?_
            refine j_goto (tgt := 57) C dX1_wording_144 (by decide) ?_
            refine j_lv [0, 2, 3, 4, 5] [(4, _), (0, _), (1, _), (2, _), (3, _)] rfl ?_
            refine ih (p + 1) _ (by omega) (by omega) w2 (fun i hi => ?_)
            rcases (show i < p ∨ i = p by omega) with h | h
            · rw [upd_ne (by omega)]
              exact hf i h
            · rw [h, upd_eq, w1]
        | true =>
          obtain ⟨hp1, hN, hAn, hBn, hQ, hmin⟩ := (hW p hpm).2 hpr
          have ev := V1_N hv hN
          rw [ev]
          obtain ⟨w1, w2, w3⟩ := wq_P (S := S) (A := A) (B := B) hs hpr
          obtain ⟨e9b, h9b⟩ := SV_tg I hp1
          have lo : ∀ (i : Nat) (f2 : Nat → Int32), i ≤ nw → V2 lm nw m t p f (12 * i) f2 → J E 514 5922 155 [(6, .int (nI i - 1)), (4, .int (nI p)), (0, .ref (a 100)), (1, .int (nI m)), (2, .ref q), (3, .ref q2)] [] (sW (eG E) a m mj s t ++ ((q2, .inl (jC0 E, m + 2, .inl g)) :: (q, .inl (jC0 E, m, .inl f2)) :: z)) := by
            intro i
            induction i with
            | zero =>
              intro f2 hi hv2
              obtain ⟨g1, g2⟩ := V2_P hnw hv2 hAn hBn hQ hmin
              refine j_iload C dX1_wording_155 rfl ?_
              refine j_if_lt (tgt := 285) C dX1_wording_157 (by decide) (fun c_157 => ?_) (fun c_157 => ?_)
              · refine j_iinc C 1 [(4, _), (6, _), (0, _), (1, _), (2, _), (3, _)] dX1_wording_285 rfl (nI_i2 p) (by decide) rfl ?_
                refine j_goto (tgt := 57) C dX1_wording_288 (by decide) ?_
                refine j_lv [0, 2, 3, 4, 5] [(4, _), (0, _), (1, _), (2, _), (3, _)] rfl ?_
                refine ih (p + 2) _ (by omega) (by omega) w3 (fun i hi => ?_)
                rcases (show i < p ∨ i = p ∨ i = p + 1 by omega) with h | h | h
                · rw [hv2.1 i (by omega) (by omega)]
                  exact hf i h
                · rw [h, g1, w1]
                · rw [h, g2, w2]
              · exact absurd (show nI 0 - 1 < 0 by decide) c_157
            | succ i iho =>
              intro f2 hi hv2
              have hin : i < nw := by omega
              obtain ⟨e6, h6a, h6b⟩ := SV_lt I hin
              rw [nI_pred]
              have li : ∀ (j : Nat) (f2 : Nat → Int32), j ≤ nw → V2 lm nw m t p f (12 * i + j) f2 → J E 514 5922 168 [(7, .int (nI j - 1)), (6, .int (nI i)), (4, .int (nI p)), (0, .ref (a 100)), (1, .int (nI m)), (2, .ref q), (3, .ref q2)] [] (sW (eG E) a m mj s t ++ ((q2, .inl (jC0 E, m + 2, .inl g)) :: (q, .inl (jC0 E, m, .inl f2)) :: z)) := by
                intro j
                induction j with
                | zero =>
                  intro f2 hj hv3
                  refine j_iload C dX1_wording_168 rfl ?_
                  refine j_if_lt (tgt := 279) C dX1_wording_170 (by decide) (fun c_170 => ?_) (fun c_170 => ?_)
                  · refine j_iinc C 1 [(6, _), (7, _), (4, _), (0, _), (1, _), (2, _), (3, _)] dX1_wording_279 rfl (i_m1 _) (by decide) rfl ?_
                    refine j_goto (tgt := 155) C dX1_wording_282 (by decide) ?_
                    refine j_lv [0, 2, 3, 4, 5, 6] [(6, _), (4, _), (0, _), (1, _), (2, _), (3, _)] rfl ?_
                    exact iho f2 (by omega) hv3
                  · exact absurd (show nI 0 - 1 < 0 by decide) c_170
                | succ j ihj =>
                  intro f2 hj hv3
                  have hjn : j < nw := by omega
                  obtain ⟨e6j, h6c, h6d⟩ := SV_lt I hjn
                  have hc2 := cN_le (x := ltF t i + ltF t j) (SV_lm I)
                  rw [nI_pred]
                  refine j_iload C dX1_wording_168 rfl ?_
                  refine j_if_lt (tgt := 279) C dX1_wording_170 (by decide) (fun c_170 => ?_) (fun c_170 => ?_)
                  · exact absurd c_170 (nI_nlt (b := 0) (Nat.zero_le _) (by omega))
                  · refine j_aload_n C dX1_wording_173 rfl rfl ?_
                    refine j_aload_n C dX1_wording_174 rfl rfl ?_
                    refine j_get C 0 9 dX1_wording_175 nwX1_wording_in (by decide) nwX1_wording_f31 rfl rfl rfl ?_
                    refine j_iload C dX1_wording_178 rfl ?_
                    refine j_iald C 4 (p) dX1_wording_180 rfl rfl hpm (by omega) ?_
                    rw [e9]
                    refine j_iload C dX1_wording_181 rfl ?_
                    refine j_callE (q0 := 0) (na := 2) C dX1_wording_183 (s_may hl (eG E) a m mj s t _ (tgF t p) i (by omega) (by omega)) gX1_wording_X1_may rfl rfl (by decide +kernel) rfl rfl (Nat.le_of_ble_eq_true rfl) (by rw [R]; exact ⟨Nat.le_of_ble_eq_true rfl, Nat.le_of_ble_eq_true rfl⟩) (by rw [R]; exact ⟨Nat.le_of_ble_eq_true rfl, Nat.le_of_ble_eq_true rfl⟩) ?_
                    refine j_if_eq (tgt := 273) C dX1_wording_186 (by decide) (fun c_186 => ?_) (fun c_186 => ?_)
                    · have hno : ¬ Q2 lm nw m t p i j := fun q => absurd ((zb_0 c_186).symm.trans q.1) (by decide)
                      refine j_iinc C 0 [(7, _), (6, _), (4, _), (0, _), (1, _), (2, _), (3, _)] dX1_wording_273 rfl (i_m1 _) (by decide) rfl ?_
                      refine j_goto (tgt := 168) C dX1_wording_276 (by decide) ?_
                      exact ihj f2 (by omega) (V2_no hnw hjn hv3 hno)
                    · have k1 := zb_1 c_186
                      refine j_aload_n C dX1_wording_189 rfl rfl ?_
                      refine j_aload_n C dX1_wording_190 rfl rfl ?_
                      refine j_get C 0 9 dX1_wording_191 nwX1_wording_in (by decide) nwX1_wording_f31 rfl rfl rfl ?_
                      refine j_iload C dX1_wording_194 rfl ?_
                      refine j_iconst (v := 1) C dX1_wording_196 (by decide) ?_
                      refine j_iadd C dX1_wording_197 ?_
                      refine j_iald C 4 (p + 1) dX1_wording_198 rfl (nI_1 p) (by omega) (by omega) ?_
                      rw [e9b]
                      refine j_iload C dX1_wording_199 rfl ?_
                      refine j_callE (q0 := 0) (na := 2) C dX1_wording_201 (s_may hl (eG E) a m mj s t _ (tgF t (p + 1)) j (by omega) (by omega)) gX1_wording_X1_may rfl rfl (by decide +kernel) rfl rfl (Nat.le_of_ble_eq_true rfl) (by rw [R]; exact ⟨Nat.le_of_ble_eq_true rfl, Nat.le_of_ble_eq_true rfl⟩) (by rw [R]; exact ⟨Nat.le_of_ble_eq_true rfl, Nat.le_of_ble_eq_true rfl⟩) ?_
                      refine j_if_eq (tgt := 273) C dX1_wording_204 (by decide) (fun c_204 => ?_) (fun c_204 => ?_)
                      · have hno : ¬ Q2 lm nw m t p i j := fun q => absurd ((zb_0 c_204).symm.trans q.2.1) (by decide)
                        refine j_iinc C 0 [(7, _), (6, _), (4, _), (0, _), (1, _), (2, _), (3, _)] dX1_wording_273 rfl (i_m1 _) (by decide) rfl ?_
                        refine j_goto (tgt := 168) C dX1_wording_276 (by decide) ?_
                        exact ihj f2 (by omega) (V2_no hnw hjn hv3 hno)
                      · have k2 := zb_1 c_204
                        refine j_aload_n C dX1_wording_207 rfl rfl ?_
                        refine j_get C 0 8 dX1_wording_208 nwX1_wording_in (by decide) nwX1_wording_f28 rfl rfl rfl ?_
                        refine j_iload C dX1_wording_211 rfl ?_
                        refine jS_row C 3 8 40 (i) dX1_wording_213 rfl rfl (by omega) ?_
                        refine j_iload C dX1_wording_214 rfl ?_
                        refine jS_jn C [] (i) (j) dX1_wording_216 rfl (by omega) (by omega) ?_
                        refine j_if_eq (tgt := 273) C dX1_wording_217 (by decide) (fun c_217 => ?_) (fun c_217 => ?_)
                        · have hno : ¬ Q2 lm nw m t p i j := fun q => absurd q.2.2.1 (by simp [jnF, c_217])
                          refine j_iinc C 0 [(7, _), (6, _), (4, _), (0, _), (1, _), (2, _), (3, _)] dX1_wording_273 rfl (i_m1 _) (by decide) rfl ?_
                          refine j_goto (tgt := 168) C dX1_wording_276 (by decide) ?_
                          exact ihj f2 (by omega) (V2_no hnw hjn hv3 hno)
                        · have k3 : jnF t i j = true := by simp [jnF, c_217]
                          refine j_aload_n C dX1_wording_220 rfl rfl ?_
                          refine j_aload_n C dX1_wording_221 rfl rfl ?_
                          refine j_get C 0 6 dX1_wording_222 nwX1_wording_in (by decide) nwX1_wording_f19 rfl rfl rfl ?_
                          refine j_iload C dX1_wording_225 rfl ?_
                          refine j_iald C 1 (i) dX1_wording_227 rfl rfl (by omega) (by decide) ?_
                          rw [e6]
                          refine j_aload_n C dX1_wording_228 rfl rfl ?_
                          refine j_get C 0 6 dX1_wording_229 nwX1_wording_in (by decide) nwX1_wording_f19 rfl rfl rfl ?_
                          refine j_iload C dX1_wording_232 rfl ?_
                          refine j_iald C 1 (j) dX1_wording_234 rfl rfl (by omega) (by decide) ?_
                          rw [e6j]
                          refine j_iadd C dX1_wording_235 ?_
                          rw [nI_add]
                          refine j_callE (q0 := 0) (na := 1) C dX1_wording_236 (s_counts hl (eG E) a m mj s t _ lm _ (SV_1 I) (SV_lm I) (by omega)) gX1_wording_X1_counts rfl rfl (by decide +kernel) rfl rfl (Nat.le_of_ble_eq_true rfl) (by rw [R]; exact ⟨Nat.le_of_ble_eq_true rfl, Nat.le_of_ble_eq_true rfl⟩) (by rw [R]; exact ⟨Nat.le_of_ble_eq_true rfl, Nat.le_of_ble_eq_true rfl⟩) ?_
                          refine j_aload_n C dX1_wording_239 rfl rfl ?_
                          refine j_iload C dX1_wording_240 rfl ?_
                          refine j_iconst (v := 2) C dX1_wording_242 (by decide) ?_
                          refine j_iadd C dX1_wording_243 ?_
                          refine j_iald C 30 (p + 2) dX1_wording_244 rfl (nI_add p 2) (by omega) (by omega) ?_
                          rw [hg (p + 2) (by omega)]
                          refine j_iadd C dX1_wording_245 ?_
                          refine j_topi (nI_add _ _) ?_
                          refine j_aload_n C dX1_wording_246 rfl rfl ?_
                          refine j_iload C dX1_wording_247 rfl ?_
                          refine j_iald C 30 (p) dX1_wording_249 rfl rfl (by omega) (by omega) ?_
                          rw [hg p (by omega)]
                          refine j_icmp_eq (tgt := 256) C dX1_wording_250 (by decide) (fun c_250 => ?_) (fun c_250 => ?_)
                          · have hyes : Q2 lm nw m t p i j := ⟨k1, k2, k3, nI_eqN c_250 (by omega) (by omega)⟩
                            refine j_aload_n C dX1_wording_256 rfl rfl ?_
                            refine j_iload C dX1_wording_257 rfl ?_
                            refine j_bipush (v := 100) C dX1_wording_259 (by decide) ?_
                            refine j_iload C dX1_wording_261 rfl ?_
                            refine j_iadd C dX1_wording_263 ?_
                            refine j_topi (nI_add 100 i) ?_
                            refine jT_iast1 C (p) dX1_wording_264 rfl hpm (by omega) ?_
                            refine j_aload_n C dX1_wording_265 rfl rfl ?_
                            refine j_iload C dX1_wording_266 rfl ?_
                            refine j_iconst (v := 1) C dX1_wording_268 (by decide) ?_
                            refine j_iadd C dX1_wording_269 ?_
                            refine j_iload C dX1_wording_270 rfl ?_
                            refine jT_iast1 C (p + 1) dX1_wording_272 (nI_1 p) hp1 (by omega) ?_
                            refine j_iinc C 0 [(7, _), (6, _), (4, _), (0, _), (1, _), (2, _), (3, _)] dX1_wording_273 rfl (i_m1 _) (by decide) rfl ?_
                            refine j_goto (tgt := 168) C dX1_wording_276 (by decide) ?_
                            exact ihj _ (by omega) (V2_yes hin hjn hv3 hyes)
                          · have hno : ¬ Q2 lm nw m t p i j := fun q => c_250 (congrArg nI q.2.2.2)
                            refine j_goto (tgt := 273) C dX1_wording_253 (by decide) ?_
                            refine j_iinc C 0 [(7, _), (6, _), (4, _), (0, _), (1, _), (2, _), (3, _)] dX1_wording_273 rfl (i_m1 _) (by decide) rfl ?_
                            refine j_goto (tgt := 168) C dX1_wording_276 (by decide) ?_
                            exact ihj f2 (by omega) (V2_no hnw hjn hv3 hno)
              refine j_iload C dX1_wording_155 rfl ?_
              refine j_if_lt (tgt := 285) C dX1_wording_157 (by decide) (fun c_157 => ?_) (fun c_157 => ?_)
              · exact absurd c_157 (nI_nlt (b := 0) (Nat.zero_le _) (by omega))
              · refine j_aload_n C dX1_wording_160 rfl rfl ?_
                refine j_get C 0 0 dX1_wording_161 nwX1_wording_in (by decide) nwX1_wording_f49 rfl rfl rfl ?_
                refine j_iconst (v := 1) C dX1_wording_164 (by decide) ?_
                refine j_isub C dX1_wording_165 ?_
                rw [SV_0 I]
                refine j_istore C [(7, _), (6, _), (4, _), (0, _), (1, _), (2, _), (3, _)] dX1_wording_166 (by decide) rfl ?_
                exact li nw f2 (Nat.le_refl _) (V2_sub hv2 (by omega) (fun a b _ hb h => by omega))
          refine j_iload C dX1_wording_130 rfl ?_
          refine j_if_lt (tgt := 147) C dX1_wording_132 (by decide) (fun c_132 => ?_) (fun c_132 => ?_)
          · refine j_aload_n C dX1_wording_147 rfl rfl ?_
            refine j_get C 0 0 dX1_wording_148 nwX1_wording_in (by decide) nwX1_wording_f49 rfl rfl rfl ?_
            refine j_iconst (v := 1) C dX1_wording_151 (by decide) ?_
            refine j_isub C dX1_wording_152 ?_
            rw [SV_0 I]
            refine j_istore C [(6, _), (5, _), (4, _), (0, _), (1, _), (2, _), (3, _)] dX1_wording_153 (by decide) rfl ?_
            refine j_lv [0, 2, 3, 4, 5, 6] [(6, _), (4, _), (0, _), (1, _), (2, _), (3, _)] rfl ?_
            exact lo nw f (Nat.le_refl _) (V2_0 hnw)
          · exact absurd (show (-1 : Int32) < 0 by decide) c_132
      have lw : ∀ (i : Nat) (v : Int32), i ≤ nw → V1 lm nw m t p i v → J E 514 5922 74 [(6, .int (nI i - 1)), (5, .int v), (4, .int (nI p)), (0, .ref (a 100)), (1, .int (nI m)), (2, .ref q), (3, .ref q2)] [] (sW (eG E) a m mj s t ++ ((q2, .inl (jC0 E, m + 2, .inl g)) :: (q, .inl (jC0 E, m, .inl f)) :: z)) := by
        intro i
        induction i with
        | zero =>
          intro v hi hv
          refine j_iload C dX1_wording_74 rfl ?_
          refine j_if_lt (tgt := 130) C dX1_wording_76 (by decide) (fun c_76 => ?_) (fun c_76 => ?_)
          · refine j_lv [1, 2, 3, 4, 5, 6] [(5, _), (4, _), (0, _), (1, _), (2, _), (3, _)] rfl ?_
            exact fin v hv
          · exact absurd (show nI 0 - 1 < 0 by decide) c_76
        | succ i ihw =>
          intro v hi hv
          have hin : i < nw := by omega
          obtain ⟨e6, h6a, h6b⟩ := SV_lt I hin
          have hc1 := cN_le (x := ltF t i) (SV_lm I)
          rw [nI_pred]
          refine j_iload C dX1_wording_74 rfl ?_
          refine j_if_lt (tgt := 130) C dX1_wording_76 (by decide) (fun c_76 => ?_) (fun c_76 => ?_)
          · exact absurd c_76 (nI_nlt (b := 0) (Nat.zero_le _) (by omega))
          · refine j_aload_n C dX1_wording_79 rfl rfl ?_
            refine j_aload_n C dX1_wording_80 rfl rfl ?_
            refine j_get C 0 9 dX1_wording_81 nwX1_wording_in (by decide) nwX1_wording_f31 rfl rfl rfl ?_
            refine j_iload C dX1_wording_84 rfl ?_
            refine j_iald C 4 (p) dX1_wording_86 rfl rfl hpm (by omega) ?_
            rw [e9]
            refine j_iload C dX1_wording_87 rfl ?_
            refine j_callE (q0 := 0) (na := 2) C dX1_wording_89 (s_may hl (eG E) a m mj s t _ (tgF t p) i (by omega) (by omega)) gX1_wording_X1_may rfl rfl (by decide +kernel) rfl rfl (Nat.le_of_ble_eq_true rfl) (by rw [R]; exact ⟨Nat.le_of_ble_eq_true rfl, Nat.le_of_ble_eq_true rfl⟩) (by rw [R]; exact ⟨Nat.le_of_ble_eq_true rfl, Nat.le_of_ble_eq_true rfl⟩) ?_
            refine j_if_eq (tgt := 124) C dX1_wording_92 (by decide) (fun c_92 => ?_) (fun c_92 => ?_)
            · have hno : ¬ Q1 lm nw m t p i := fun q => absurd ((zb_0 c_92).symm.trans q.1) (by decide)
              refine j_iinc C 0 [(6, _), (5, _), (4, _), (0, _), (1, _), (2, _), (3, _)] dX1_wording_124 rfl (i_m1 _) (by decide) rfl ?_
              refine j_goto (tgt := 74) C dX1_wording_127 (by decide) ?_
              exact ihw v (by omega) (V1_no hv hno)
            · have k1 := zb_1 c_92
              refine j_aload_n C dX1_wording_95 rfl rfl ?_
              refine j_aload_n C dX1_wording_96 rfl rfl ?_
              refine j_get C 0 6 dX1_wording_97 nwX1_wording_in (by decide) nwX1_wording_f19 rfl rfl rfl ?_
              refine j_iload C dX1_wording_100 rfl ?_
              refine j_iald C 1 (i) dX1_wording_102 rfl rfl (by omega) (by decide) ?_
              rw [e6]
              refine j_callE (q0 := 0) (na := 1) C dX1_wording_103 (s_counts hl (eG E) a m mj s t _ lm _ (SV_1 I) (SV_lm I) (by omega)) gX1_wording_X1_counts rfl rfl (by decide +kernel) rfl rfl (Nat.le_of_ble_eq_true rfl) (by rw [R]; exact ⟨Nat.le_of_ble_eq_true rfl, Nat.le_of_ble_eq_true rfl⟩) (by rw [R]; exact ⟨Nat.le_of_ble_eq_true rfl, Nat.le_of_ble_eq_true rfl⟩) ?_
              refine j_aload_n C dX1_wording_106 rfl rfl ?_
              refine j_iload C dX1_wording_107 rfl ?_
              refine j_iconst (v := 1) C dX1_wording_109 (by decide) ?_
              refine j_iadd C dX1_wording_110 ?_
              refine j_iald C 30 (p + 1) dX1_wording_111 rfl (nI_1 p) (by omega) (by omega) ?_
              rw [hg (p + 1) (by omega)]
              refine j_iadd C dX1_wording_112 ?_
              refine j_topi (nI_add _ _) ?_
              refine j_aload_n C dX1_wording_113 rfl rfl ?_
              refine j_iload C dX1_wording_114 rfl ?_
              refine j_iald C 30 (p) dX1_wording_116 rfl rfl (by omega) (by omega) ?_
              rw [hg p (by omega)]
              refine j_icmp_ne (tgt := 124) C dX1_wording_117 (by decide) (fun c_117 => ?_) (fun c_117 => ?_)
              · have hno : ¬ Q1 lm nw m t p i := fun q => c_117 (congrArg nI q.2)
                refine j_iinc C 0 [(6, _), (5, _), (4, _), (0, _), (1, _), (2, _), (3, _)] dX1_wording_124 rfl (i_m1 _) (by decide) rfl ?_
                refine j_goto (tgt := 74) C dX1_wording_127 (by decide) ?_
                exact ihw v (by omega) (V1_no hv hno)
              · have hyes : Q1 lm nw m t p i := ⟨k1, nI_eqN c_117 (by omega) (by omega)⟩
                refine j_iload C dX1_wording_120 rfl ?_
                refine j_istore C [(5, _), (6, _), (4, _), (0, _), (1, _), (2, _), (3, _)] dX1_wording_122 (by decide) rfl ?_
                refine j_iinc C 1 [(6, _), (5, _), (4, _), (0, _), (1, _), (2, _), (3, _)] dX1_wording_124 rfl (i_m1 _) (by decide) rfl ?_
                refine j_goto (tgt := 74) C dX1_wording_127 (by decide) ?_
                exact ihw _ (by omega) (V1_yes hin hyes)
      refine j_iload C dX1_wording_57 rfl ?_
      refine j_iload_n C dX1_wording_59 rfl rfl ?_
      refine j_icmp_ge (tgt := 291) C dX1_wording_60 (by decide) (fun c_60 => ?_) (fun c_60 => ?_)
      · exact absurd c_60 (nI_ge (by omega) (by omega))
      · refine j_iconst (v := (-1)) C dX1_wording_63 (by decide) ?_
        refine j_istore C [(5, _), (4, _), (0, _), (1, _), (2, _), (3, _)] dX1_wording_64 (by decide) rfl ?_
        refine j_aload_n C dX1_wording_66 rfl rfl ?_
        refine j_get C 0 0 dX1_wording_67 nwX1_wording_in (by decide) nwX1_wording_f49 rfl rfl rfl ?_
        refine j_iconst (v := 1) C dX1_wording_70 (by decide) ?_
        refine j_isub C dX1_wording_71 ?_
        rw [SV_0 I]
        refine j_istore C [(6, _), (5, _), (4, _), (0, _), (1, _), (2, _), (3, _)] dX1_wording_72 (by decide) rfl ?_
        exact lw nw (-1) (Nat.le_refl _) V1_0
  have ll : ∀ (q q2 : Nat) (d p : Nat) (g : Nat → Int32), p + d = m + 1 → (∀ i, i < p → g i = nI (Lx lm nw m t i)) → J E (2 + 32 * (if p = m + 1 then m else p)) (34 + 368 * (if p = m + 1 then m else p)) 19 [(4, .int (nI p)), (0, .ref (a 100)), (1, .int (nI m)), (2, .ref q), (3, .ref q2)] [] (sW (eG E) a m mj s t ++ ((q2, .inl (jC0 E, m + 2, .inl g)) :: (q, .inl (jC0 E, m, .inl (fun _ => 0))) :: z)) := by
    intro q q2 d
    induction d with
    | zero =>
      intro p g hp hg
      have ep : p = m + 1 := by omega
      rw [if_pos ep]
      refine j_wide 514 5922 (by omega) (by omega) ?_
      refine j_iload C dX1_wording_19 rfl ?_
      refine j_iload_n C dX1_wording_21 rfl rfl ?_
      refine j_icmp_gt (tgt := 54) C dX1_wording_22 (by decide) (fun c_22 => ?_) (fun c_22 => ?_)
      · refine j_iconst (v := 0) C dX1_wording_54 (by decide) ?_
        refine j_istore C [(4, _), (0, _), (1, _), (2, _), (3, _)] dX1_wording_55 (by decide) rfl ?_
        exact main q q2 g (fun i hi => hg i (by omega)) m 0 _ (Nat.zero_le _) (by omega) rfl (fun i hi => absurd hi (Nat.not_lt_zero i))
      · exact absurd ((nI_ltI (by omega) (by omega)).mpr (show m < p by omega)) c_22
    | succ d ih =>
      intro p g hp hg
      rw [if_neg (show ¬ p = m + 1 by omega)]
      refine j_iload C dX1_wording_19 rfl ?_
      refine j_iload_n C dX1_wording_21 rfl rfl ?_
      refine j_icmp_gt (tgt := 54) C dX1_wording_22 (by decide) (fun c_22 => ?_) (fun c_22 => ?_)
      · exact absurd ((nI_ltI (by omega) (by omega)).mp c_22) (by omega)
      · refine j_aload_n C dX1_wording_25 rfl rfl ?_
        refine j_iload C dX1_wording_26 rfl ?_
        refine j_iload C dX1_wording_28 rfl ?_
        refine j_iload_n C dX1_wording_30 rfl rfl ?_
        refine j_icmp_ne (tgt := 38) C dX1_wording_31 (by decide) (fun c_31 => ?_) (fun c_31 => ?_)
        · have hpm : p < m := by
            have c31 : ¬ p = m := fun q => c_31 (by rw [q])
            omega
          refine j_aload_n C dX1_wording_38 rfl rfl ?_
          refine j_iload C dX1_wording_39 rfl ?_
          refine j_callP (q0 := 0) (na := 1) C dX1_wording_41 (s_rest hl (eG E) a m mj s t _ nw lm p I (by omega)) gX1_wording_X1_rest rfl rfl (by decide +kernel) rfl rfl (Nat.le_of_ble_eq_true rfl) (by rw [R]; exact ⟨Nat.le_of_ble_eq_true rfl, Nat.le_of_ble_eq_true rfl⟩) (by rw [R]; exact ⟨(by show _ ≤ 514; omega), (by show _ ≤ 5922; omega)⟩) (fun v w' hq => ?_)
          obtain ⟨a2, s2, t2, rfl, rfl, hR2⟩ := hq
          show J E _ _ _ _ (.ref (a2 100) :: _) _
          refine j_callE (q0 := 0) (na := 0) C dX1_wording_44 (s_cheapest hl (eG E) a2 (m - p) 0 s2 t2 _ nw lm hR2.2.1) gX1_wording_X1_cheapest rfl rfl (by decide +kernel) rfl rfl (Nat.le_of_ble_eq_true rfl) (by rw [R]; exact ⟨Nat.le_of_ble_eq_true rfl, Nat.le_of_ble_eq_true rfl⟩) (by rw [R]; exact ⟨(by show _ ≤ 514; omega), (by show _ ≤ 5922; omega)⟩) ?_
          refine j_dropL _ ?_
          show J E _ _ _ _ (.int (al (m - p) (s2 2) (nI (UUx lm nw t2 (m - p)).1)) :: _) _
          rw [Lx_rest (mj := mj) I hR2 hpm]
          refine jT_iast C (p) dX1_wording_47 rfl (by omega) (by omega) ?_
          refine j_iinc C 0 [(4, _), (0, _), (1, _), (2, _), (3, _)] dX1_wording_48 rfl (nI_i1 p) (by decide) rfl ?_
          refine j_goto (tgt := 19) C dX1_wording_51 (by decide) ?_
          have g2 := ih (p + 1) (upd g p (nI (Lx lm nw m t p))) (by omega) (fun i hi => by
            rcases (show i < p ∨ i = p by omega) with h | h
            · rw [upd_ne (by omega)]; exact hg i h
            · rw [h, upd_eq])
          refine j_wide _ _ ?_ ?_ g2
          · split <;> omega
          · split <;> omega
        · have c31 : p = m := nI_eqN c_31 (by omega) (by omega)
          refine j_iconst (v := 0) C dX1_wording_34 (by decide) ?_
          refine j_goto (tgt := 47) C dX1_wording_35 (by decide) ?_
          refine jT_iast C (p) dX1_wording_47 rfl (by omega) (by omega) ?_
          refine j_iinc C 0 [(4, _), (0, _), (1, _), (2, _), (3, _)] dX1_wording_48 rfl (nI_i1 p) (by decide) rfl ?_
          refine j_goto (tgt := 19) C dX1_wording_51 (by decide) ?_
          have g2 := ih (p + 1) (upd g p 0) (by omega) (fun i hi => by
            rcases (show i < p ∨ i = p by omega) with h | h
            · rw [upd_ne (by omega)]; exact hg i h
            · rw [h, upd_eq]; rw [c31, Lx_m]; rfl)
          refine j_wide _ _ ?_ ?_ g2
          · split <;> omega
          · split <;> omega
  refine j_aload_n C dX1_wording_0 rfl rfl ?_
  refine j_get C 0 9 dX1_wording_1 nwX1_wording_in (by decide) nwX1_wording_f31 rfl rfl rfl ?_
  refine j_alen C 4 0 dX1_wording_4 rfl rfl ?_
  refine j_istore_n C [(1, _), (0, _)] dX1_wording_5 rfl (by decide) rfl ?_
  refine j_iload_n C dX1_wording_6 rfl rfl ?_
  refine j_newI C (m) (16) dX1_wording_7 nwX1_wording_arI rfl (by omega) (by decide) (by rw [R]; exact Nat.le_of_ble_eq_true rfl) (by rw [R]; exact Nat.le_of_ble_eq_true rfl) (fun q => ?_)
  refine j_behind ?_
  refine j_astore_n C [(2, _), (1, _), (0, _)] dX1_wording_9 rfl (by decide) rfl ?_
  refine j_iload_n C dX1_wording_10 rfl rfl ?_
  refine j_iconst (v := 2) C dX1_wording_11 (by decide) ?_
  refine j_iadd C dX1_wording_12 ?_
  rw [show nI m + 2 = nI (m + 2) from nI_add m 2]
  refine j_newI C (m + 2) (18) dX1_wording_13 nwX1_wording_arI rfl (by omega) (by decide) (by rw [R]; exact Nat.le_of_ble_eq_true rfl) (by rw [R]; exact Nat.le_of_ble_eq_true rfl) (fun q2 => ?_)
  refine j_behind ?_
  refine j_astore_n C [(3, _), (2, _), (1, _), (0, _)] dX1_wording_15 rfl (by decide) rfl ?_
  refine j_iconst (v := 0) C dX1_wording_16 (by decide) ?_
  refine j_istore C [(4, _), (3, _), (2, _), (1, _), (0, _)] dX1_wording_17 (by decide) rfl ?_
  refine j_lv [0, 4, 3, 2, 1] [(4, _), (0, _), (1, _), (2, _), (3, _)] rfl ?_
  have g2 := ll q q2 (m + 1) 0 (fun _ => 0) (by omega) (fun i hi => absurd hi (Nat.not_lt_zero i))
  rw [if_neg (by omega)] at g2
  exact g2
end
section
/-! class and Sim, side by side: the relation, and that both compute alike -/
/-- the class's object (σ, τ) and the Sim (s, t) hold the same book; at most K were sent -/
def TS (σ : gS) (τ : gT) (nw nl lm K : Nat) (s : gS) (t : gT) : Prop := IX σ τ nw nl lm ∧ SV nw nl lm s t ∧ (s 2 = σ 5 ∧ s 3 = σ 6 ∧ s 4 = σ 10 ∧ s 5 = σ 11) ∧
  (∀ w, w < nw → t 6 w = τ 0 w) ∧ (∀ i, i < nl → t 9 i = τ 7 i ∧ t 10 i = τ 8 i) ∧
  (∀ a b, a < nw → b < nw → (a ≠ b → t (20 + a) b = hb (τ 1 a) (nI b)) ∧ t (40 + a) b = hb (τ 2 a) (nI b)) ∧
  (∀ a b, a < 12 → (nw ≤ a ∨ nw ≤ b) → t (20 + a) b = 0 ∧ t (40 + a) b = 0) ∧
  (∀ a, a < nw → ∃ x, τ 2 a = nI x ∧ x < 2 ^ nw) ∧ (∀ i, i + 1 < nl → τ 8 i = 0 ∨ τ 8 (i + 1) = 0) ∧
  (∃ lc, σ 5 = nI lc ∧ lc ≤ 20) ∧ (∃ co, σ 6 = nI co ∧ 1 ≤ co ∧ co ≤ 50) ∧ ∃ k, σ 10 = nI k ∧ k ≤ K
section
variable {σ : gS} {τ : gT} {nw nl lm K : Nat} {s : gS} {t : gT}
theorem TS_I (R : TS σ τ nw nl lm K s t) : IX σ τ nw nl lm := R.1
theorem TS_V (R : TS σ τ nw nl lm K s t) : SV nw nl lm s t := R.2.1
theorem TS_n (R : TS σ τ nw nl lm K s t) : s 2 = σ 5 ∧ s 3 = σ 6 ∧ s 4 = σ 10 ∧ s 5 = σ 11 := R.2.2.1
theorem TS_l (R : TS σ τ nw nl lm K s t) {w : Nat} (h : w < nw) : t 6 w = τ 0 w := R.2.2.2.1 w h
theorem TS_w (R : TS σ τ nw nl lm K s t) {i : Nat} (h : i < nl) : t 9 i = τ 7 i ∧ t 10 i = τ 8 i := R.2.2.2.2.1 i h
theorem TS_b (R : TS σ τ nw nl lm K s t) {a b : Nat} (ha : a < nw) (hb9 : b < nw) : (a ≠ b → t (20 + a) b = hb (τ 1 a) (nI b)) ∧ t (40 + a) b = hb (τ 2 a) (nI b) := R.2.2.2.2.2.1 a b ha hb9
theorem TS_o (R : TS σ τ nw nl lm K s t) {a b : Nat} (ha : a < 12) (h : nw ≤ a ∨ nw ≤ b) : t (20 + a) b = 0 ∧ t (40 + a) b = 0 := R.2.2.2.2.2.2.1 a b ha h
theorem TS_j (R : TS σ τ nw nl lm K s t) {a : Nat} (ha : a < nw) : ∃ x, τ 2 a = nI x ∧ x < 2 ^ nw := R.2.2.2.2.2.2.2.1 a ha
theorem TS_r (R : TS σ τ nw nl lm K s t) {i : Nat} (h : i + 1 < nl) : τ 8 i = 0 ∨ τ 8 (i + 1) = 0 := R.2.2.2.2.2.2.2.2.1 i h
theorem TS_lc (R : TS σ τ nw nl lm K s t) : ∃ lc, σ 5 = nI lc ∧ lc ≤ 20 := R.2.2.2.2.2.2.2.2.2.1
theorem TS_co (R : TS σ τ nw nl lm K s t) : ∃ co, σ 6 = nI co ∧ 1 ≤ co ∧ co ≤ 50 := R.2.2.2.2.2.2.2.2.2.2.1
theorem TS_k (R : TS σ τ nw nl lm K s t) : ∃ k, σ 10 = nI k ∧ k ≤ K := R.2.2.2.2.2.2.2.2.2.2.2
theorem TS_lt (R : TS σ τ nw nl lm K s t) {w : Nat} (h : w < nw) : τ 0 w = nI (ltF t w) ∧ 1 ≤ ltF t w ∧ ltF t w ≤ 30 := by
  rw [← TS_l R h]
  exact SV_lt (TS_V R) h
theorem TS_tg (R : TS σ τ nw nl lm K s t) {i : Nat} (h : i < nl) : τ 7 i = nI (tgF t i) ∧ tgF t i < nw := by
  rw [← (TS_w R h).1]
  exact SV_tg (TS_V R) h
theorem TS_may (R : TS σ τ nw nl lm K s t) {a b : Nat} (ha : a < nw) (hb9 : b < nw) : hb (τ 1 a) (nI b) = zb (mayF t a b) := by
  by_cases e : a = b
  · subst e
    obtain ⟨x, e2, hx, ht⟩ := Iv_st (TS_I R) a ha
    have h12 := Iv_nw (TS_I R)
    have h1 : hb (τ 1 a) (nI a) ≠ 0 := by
      rw [e2]
      exact (hb_tb (Nat.lt_trans (lt12 h12 hx) (by decide)) (by omega)).mpr ht
    rw [(hb_01 _ _).resolve_left h1]
    simp [mayF, zb]
  · rw [← (TS_b R ha hb9).1 e]
    rcases SV_st (TS_V R) a b with h | h
    · simp [mayF, zb, h, e]
    · simp [mayF, zb, h]
theorem TS_jn (R : TS σ τ nw nl lm K s t) {a b : Nat} (ha : a < nw) (hb9 : b < nw) : hb (τ 2 a) (nI b) = zb (jnF t a b) := by
  rw [← (TS_b R ha hb9).2]
  rcases SV_jn (TS_V R) a b with h | h
  · simp [jnF, zb, h]
  · simp [jnF, zb, h]
theorem TS_mh (R : TS σ τ nw nl lm K s t) {p b : Nat} (hb9 : b < nw) : mh nl (τ 1) (τ 7) p (nI b) ≠ 0 ↔ p < nl ∧ mayF t (tgF t p) b = true := by
  unfold mh
  by_cases h : p < nl
  · obtain ⟨e, hw⟩ := TS_tg R h
    have h12 := Iv_nw (TS_I R)
    rw [if_pos h, e, nI_clamp (by omega), TS_may R hw hb9]
    cases mayF t (tgF t p) b <;> simp [zb, h]
  · rw [if_neg h]
    exact ⟨fun q => absurd rfl q, fun q => absurd q.1 h⟩
theorem TS_pq (R : TS σ τ nw nl lm K s t) {p a b : Nat} (ha : a < nw) (hb9 : b < nw) : pq nl (τ 1) (τ 2) (τ 7) p a b ↔ p + 1 < nl ∧ mayF t (tgF t p) a = true ∧ mayF t (tgF t (p + 1)) b = true ∧ jnF t a b = true := by
  unfold pq
  rw [TS_mh R ha, TS_mh R hb9, TS_jn R ha hb9]
  cases jnF t a b with
  | false => exact ⟨fun q => absurd rfl q.2.2, fun q => absurd q.2.2.2 (by decide)⟩
  | true => exact ⟨fun q => ⟨q.2.1.1, q.1.2, q.2.1.2, rfl⟩, fun q => ⟨⟨by omega, q.2.1⟩, ⟨q.1, q.2.2.1⟩, by decide⟩⟩
theorem TS_c1 (R : TS σ τ nw nl lm K s t) {a : Nat} (ha : a < nw) : cn (σ 4) (τ 0 a) = nI (cN lm (ltF t a)) ∧ 1 ≤ cN lm (ltF t a) ∧ cN lm (ltF t a) ≤ 30 := by
  obtain ⟨e, h1, h2⟩ := TS_lt R ha
  have hl := SV_lm (TS_V R)
  rw [Iv_h4 (TS_I R), e, cn_nI hl.1 hl.2 (by omega)]
  have := cN_le (x := ltF t a) hl
  have := (cN_up (x := ltF t a) hl).2 h1
  exact ⟨rfl, by omega, by omega⟩
theorem TS_c2 (R : TS σ τ nw nl lm K s t) {a b : Nat} (ha : a < nw) (hb9 : b < nw) : cn (σ 4) (τ 0 a + τ 0 b) = nI (cN lm (ltF t a + ltF t b)) ∧ cN lm (ltF t a + ltF t b) ≤ 60 := by
  obtain ⟨e, h1, h2⟩ := TS_lt R ha
  obtain ⟨e2, h3, h4⟩ := TS_lt R hb9
  have hl := SV_lm (TS_V R)
  rw [Iv_h4 (TS_I R), e, e2, nI_add, cn_nI hl.1 hl.2 (by omega)]
  have := cN_le (x := ltF t a + ltF t b) hl
  exact ⟨rfl, by omega⟩
/-- the least alone at p, with its word -/
theorem TS_A (R : TS σ τ nw nl lm K s t) {p : Nat} (hp : p < nl) : ∃ a, a < nw ∧ Sx σ τ nw nl p = nI a ∧ LAx σ τ nw nl p = nI (cN lm (ltF t a)) ∧ mayF t (tgF t p) a = true ∧ (∀ b, b < nw → mayF t (tgF t p) b = true → cN lm (ltF t a) ≤ cN lm (ltF t b)) ∧ ∀ b, b < a → mayF t (tgF t p) b = true → cN lm (ltF t a) < cN lm (ltF t b) := by
  obtain ⟨a, ⟨ha, hm, hmin, hfst⟩, e⟩ := bw_fin (TS_I R) hp
  have ca := TS_c1 R ha
  refine ⟨a, ha, by unfold Sx; rw [e], by unfold LAx; rw [e]; exact ca.1, ((TS_mh R ha).mp hm).2, fun b hb9 hmb => ?_, fun b hb9 hmb => ?_⟩
  · have h := hmin b hb9 ((TS_mh R hb9).mpr ⟨hp, hmb⟩)
    have cb := TS_c1 R hb9
    show _
    rw [show (fun a => cn (σ 4) (τ 0 a)) a = cn (σ 4) (τ 0 a) from rfl] at *
    have h2 : cn (σ 4) (τ 0 a) ≤ cn (σ 4) (τ 0 b) := h
    rw [ca.1, cb.1] at h2
    exact (nI_leI (by omega) (by omega)).mp h2
  · have hbn : b < nw := by omega
    have h := hfst b hb9 ((TS_mh R hbn).mpr ⟨hp, hmb⟩)
    have cb := TS_c1 R hbn
    have h2 : cn (σ 4) (τ 0 a) < cn (σ 4) (τ 0 b) := h
    rw [ca.1, cb.1] at h2
    exact (nI_ltI (by omega) (by omega)).mp h2
/-- the least pair at p -/
theorem TS_P (R : TS σ τ nw nl lm K s t) {p : Nat} : ((∀ a b, a < nw → b < nw → ¬ (p + 1 < nl ∧ mayF t (tgF t p) a = true ∧ mayF t (tgF t (p + 1)) b = true ∧ jnF t a b = true)) ∧ bpx σ τ nw nl p = -1 ∧ LJx σ τ nw nl p = nI 1000000) ∨
    ∃ a b, a < nw ∧ b < nw ∧ p + 1 < nl ∧ mayF t (tgF t p) a = true ∧ mayF t (tgF t (p + 1)) b = true ∧ jnF t a b = true ∧ bpx σ τ nw nl p = nI (a * 100 + b) ∧ LJx σ τ nw nl p = nI (cN lm (ltF t a + ltF t b)) ∧
      (∀ a' b', a' < nw → b' < nw → mayF t (tgF t p) a' = true → mayF t (tgF t (p + 1)) b' = true → jnF t a' b' = true → cN lm (ltF t a + ltF t b) ≤ cN lm (ltF t a' + ltF t b') ∧ (cN lm (ltF t a' + ltF t b') = cN lm (ltF t a + ltF t b) → 12 * a + b ≤ 12 * a' + b')) := by
  have h12 := Iv_nw (TS_I R)
  rcases bp_fin (p := p) (J := τ 2) (TS_I R) with ⟨h, e⟩ | ⟨a, b, ha, hb9, hq, hmin, hfst, e⟩
  · exact Or.inl ⟨fun a b ha hb9 q => h a b ha hb9 ((TS_pq R ha hb9).mpr q), by unfold bpx; rw [e], by unfold LJx; rw [e]; rfl⟩
  · obtain ⟨g1, g2, g3, g4⟩ := (TS_pq R ha hb9).mp hq
    have ca := TS_c2 R ha hb9
    refine Or.inr ⟨a, b, ha, hb9, g1, g2, g3, g4, by unfold bpx; rw [e], by unfold LJx; rw [e]; exact ca.1, fun a' b' ha' hb' k1 k2 k3 => ?_⟩
    have hq' := (TS_pq (p := p) R ha' hb').mpr ⟨g1, k1, k2, k3⟩
    have cb := TS_c2 R ha' hb'
    have h1 := hmin a' b' ha' hb' hq'
    rw [ca.1, cb.1] at h1
    refine ⟨(nI_leI (by omega) (by omega)).mp h1, fun heq => ?_⟩
    rcases Nat.lt_or_ge (12 * a' + b') (12 * a + b) with g | g
    · have h2 := hfst a' b' (by unfold lexB; omega) hq'
      rw [ca.1, cb.1] at h2
      have h3 := (nI_ltI (by omega) (by omega)).mp h2
      omega
    · exact g
def An (σ : gS) (τ : gT) (nw nl p : Nat) : Nat := (LAx σ τ nw nl p).toNatClampNeg
def Pn (σ : gS) (τ : gT) (nw nl p : Nat) : Nat := (LJx σ τ nw nl p).toNatClampNeg
theorem TS_An (R : TS σ τ nw nl lm K s t) {p : Nat} (hp : p < nl) : LAx σ τ nw nl p = nI (An σ τ nw nl p) ∧ 1 ≤ An σ τ nw nl p ∧ An σ τ nw nl p ≤ 30 := by
  obtain ⟨a, ha, -, e, -⟩ := TS_A R hp
  have c := TS_c1 R ha
  have e2 : An σ τ nw nl p = cN lm (ltF t a) := by unfold An; rw [e, nI_clamp (by omega)]
  rw [e2]
  exact ⟨e, c.2.1, c.2.2⟩
theorem TS_Pn (R : TS σ τ nw nl lm K s t) (p : Nat) : LJx σ τ nw nl p = nI (Pn σ τ nw nl p) ∧ (Pn σ τ nw nl p = 1000000 ∨ Pn σ τ nw nl p ≤ 60) := by
  rcases TS_P (p := p) R with ⟨-, -, e⟩ | ⟨a, b, ha, hb9, -, -, -, -, -, e, -⟩
  · have e2 : Pn σ τ nw nl p = 1000000 := by unfold Pn; rw [e, nI_clamp (by omega)]
    rw [e2]
    exact ⟨e, Or.inl rfl⟩
  · have c := TS_c2 R ha hb9
    have e2 : Pn σ τ nw nl p = cN lm (ltF t a + ltF t b) := by unfold Pn; rw [e, nI_clamp (by omega)]
    rw [e2]
    exact ⟨e, Or.inr c.2⟩
theorem TS_Pl (R : TS σ τ nw nl lm K s t) {p : Nat} (h : nl ≤ p + 1) : Pn σ τ nw nl p = 1000000 := by
  rcases TS_P (p := p) R with ⟨-, -, e⟩ | ⟨a, b, -, -, g, -⟩
  · unfold Pn
    rw [e, nI_clamp (by omega)]
  · omega
end
/-! the least from the back, the least from the front -/
def bD (A P : Nat → Nat) (n : Nat) : Nat → Nat × Nat
  | 0 => (0, 0)
  | k + 1 => (min (A (n - (k + 1)) + (bD A P n k).1) (P (n - (k + 1)) + (bD A P n k).2), (bD A P n k).1)
/-- from place p on -/
def bG (A P : Nat → Nat) (n p : Nat) : Nat := (bD A P n (n - p)).1
theorem bG_n (A P : Nat → Nat) (n : Nat) : bG A P n n = 0 := by
  unfold bG
  rw [Nat.sub_self]
  rfl
theorem bG_r {A P : Nat → Nat} {n p : Nat} (h : p + 1 < n) : bG A P n p = min (A p + bG A P n (p + 1)) (P p + bG A P n (p + 2)) := by
  unfold bG
  rw [show n - p = (n - (p + 2)) + 2 by omega, show n - (p + 1) = (n - (p + 2)) + 1 by omega]
  show min (A (n - ((n - (p + 2)) + 1 + 1)) + (bD A P n ((n - (p + 2)) + 1)).1) (P (n - ((n - (p + 2)) + 1 + 1)) + (bD A P n ((n - (p + 2)) + 1)).2) = _
  rw [show n - ((n - (p + 2)) + 1 + 1) = p by omega]
  rfl
theorem bG_l {A P : Nat → Nat} {n p : Nat} (h : p + 1 = n) (hA : A p ≤ P p) : bG A P n p = A p := by
  unfold bG
  rw [show n - p = 0 + 1 by omega]
  show min (A (n - (0 + 1)) + 0) (P (n - (0 + 1)) + 0) = _
  rw [show n - (0 + 1) = p by omega]
  omega
def fD (A P : Nat → Nat) : Nat → Nat × Nat
  | 0 => (0, 0)
  | p + 1 => (if p = 0 then (fD A P p).1 + A p else min ((fD A P p).1 + A p) ((fD A P p).2 + P (p - 1)), (fD A P p).1)
theorem fD_s {A P : Nat → Nat} {p : Nat} : (fD A P (p + 1)).1 = if p = 0 then (fD A P p).1 + A p else min ((fD A P p).1 + A p) ((fD A P p).2 + P (p - 1)) := rfl
theorem fD_1 {A P : Nat → Nat} : (fD A P 1).1 = A 0 := by
  rw [fD_s, if_pos rfl]
  exact Nat.zero_add _
theorem fD_r {A P : Nat → Nat} {p : Nat} : (fD A P (p + 2)).1 = min ((fD A P (p + 1)).1 + A (p + 1)) ((fD A P p).1 + P p) := by
  rw [fD_s, if_neg (by omega), show p + 1 - 1 = p by omega]
  rfl
theorem fD_bG {A P : Nat → Nat} {n f k : Nat} (hk : f + k = n) (hl : ∀ p, p + 1 = n → A p ≤ P p) : (fD (fun i => A (f + i)) (fun i => P (f + i)) k).1 = bG A P n f := by
  match k, hk with
  | 0, hk =>
    rw [show f = n by omega, bG_n]
    rfl
  | 1, hk => rw [fD_1, bG_l (by omega) (hl f (by omega))]; rfl
  | k + 2, hk =>
    have key : ∀ j, j ≤ k → bG A P n f = min ((fD (fun i => A (f + i)) (fun i => P (f + i)) (j + 1)).1 + bG A P n (f + j + 1)) ((fD (fun i => A (f + i)) (fun i => P (f + i)) j).1 + P (f + j) + bG A P n (f + j + 2)) := by
      intro j
      induction j with
      | zero =>
        intro _
        rw [fD_1, bG_r (p := f) (by omega)]
        show _ = min (A (f + 0) + bG A P n (f + 0 + 1)) (0 + P (f + 0) + bG A P n (f + 0 + 2))
        simp only [Nat.zero_add, Nat.add_zero]
      | succ j ih =>
        intro hj
        have h1 := ih (by omega)
        rw [bG_r (p := f + j + 1) (by omega)] at h1
        rw [fD_r]
        show _ = min (min ((fD (fun i => A (f + i)) (fun i => P (f + i)) (j + 1)).1 + A (f + (j + 1))) ((fD (fun i => A (f + i)) (fun i => P (f + i)) j).1 + P (f + j)) + bG A P n (f + (j + 1) + 1)) _
        rw [show f + (j + 1) = f + j + 1 by omega]
        rw [show f + j + 1 + 2 = f + j + 1 + 1 + 1 by omega, show f + j + 2 = f + j + 1 + 1 by omega] at *
        omega
    have h1 := key k (Nat.le_refl k)
    rw [show f + k + 2 = n by omega, bG_n, bG_l (p := f + k + 1) (by omega) (hl _ (by omega))] at h1
    rw [h1, fD_r]
    show min (_ + A (f + (k + 1))) (_ + P (f + k)) = _
    rw [show f + (k + 1) = f + k + 1 by omega]
    omega
/-- the class's row from the back -/
theorem fw_bD {A J : Nat → Int32} {a b : Nat → Nat} {n : Nat} (hn : n ≤ 16) (hA : ∀ p, p < n → A p = nI (a p) ∧ a p ≤ 30) (hJ : ∀ p, p < n → J p = nI (b p) ∧ b p ≤ 1000000) : ∀ k, k ≤ n → fw A J n k = (nI (bD a b n k).1, nI (bD a b n k).2) ∧ (bD a b n k).1 ≤ 30 * k ∧ (bD a b n k).2 ≤ 30 * k := by
  intro k
  induction k with
  | zero => exact fun _ => ⟨rfl, Nat.le_refl _, Nat.le_refl _⟩
  | succ k ih =>
    intro hk
    obtain ⟨e, h1, h2⟩ := ih (by omega)
    obtain ⟨eA, hA2⟩ := hA (n - (k + 1)) (by omega)
    obtain ⟨eJ, hJ2⟩ := hJ (n - (k + 1)) (by omega)
    have hm : (bD a b n (k + 1)).1 = min (a (n - (k + 1)) + (bD a b n k).1) (b (n - (k + 1)) + (bD a b n k).2) := rfl
    refine ⟨?_, by omega, by show (bD a b n k).1 ≤ _; omega⟩
    show ((if J (n - (k + 1)) + (fw A J n k).2 < A (n - (k + 1)) + (fw A J n k).1 then J (n - (k + 1)) + (fw A J n k).2 else A (n - (k + 1)) + (fw A J n k).1, (fw A J n k).1) : Int32 × Int32) = _
    rw [e, eA, eJ, nI_add, nI_add, nI_min (by omega) (by omega), hm]
    rfl
/-- what uA is -/
theorem uB_sp {x0 m0 : Nat} {c : Nat → Nat} {ok : Nat → Bool} : ∀ b, (∀ i, i < b → ok i = true → uB x0 c ok m0 b ≤ x0 + c i) ∧ (uB x0 c ok m0 b = m0 ∨ ∃ i, i < b ∧ ok i = true ∧ uB x0 c ok m0 b = x0 + c i) := by
  intro b
  induction b with
  | zero => exact ⟨fun i h => absurd h (Nat.not_lt_zero i), Or.inl rfl⟩
  | succ b ih =>
    obtain ⟨h1, h2⟩ := ih
    cases hk : ok b with
    | false =>
      rw [uB_no hk]
      refine ⟨fun i hi hoi => ?_, ?_⟩
      · rcases (show i < b ∨ i = b by omega) with g | g
        · exact h1 i g hoi
        · rw [g, hk] at hoi
          exact absurd hoi (by decide)
      · rcases h2 with h2 | ⟨i, g1, g2, g3⟩
        · exact Or.inl h2
        · exact Or.inr ⟨i, by omega, g2, g3⟩
    | true =>
      rw [uB_yes hk]
      refine ⟨fun i hi hoi => ?_, ?_⟩
      · rcases (show i < b ∨ i = b by omega) with g | g
        · have := h1 i g hoi
          omega
        · rw [g]
          omega
      · rcases Nat.le_total (uB x0 c ok m0 b) (x0 + c b) with g | g
        · rw [show min (uB x0 c ok m0 b) (x0 + c b) = uB x0 c ok m0 b by omega]
          rcases h2 with h2 | ⟨i, g1, g2, g3⟩
          · exact Or.inl h2
          · exact Or.inr ⟨i, by omega, g2, g3⟩
        · exact Or.inr ⟨b, by omega, hk, by omega⟩
theorem uA_sp {p u1 u0 N : Nat} {c1 : Nat → Nat} {c2 : Nat → Nat → Nat} {ok : Nat → Bool} {ok2 : Nat → Nat → Bool} : ∀ a, (∀ i, i < a → ok i = true → uA p u1 u0 N c1 c2 ok ok2 a ≤ u1 + c1 i) ∧ (¬ p = 0 → ∀ i j, i < a → j < N → ok i = true → ok2 j i = true → uA p u1 u0 N c1 c2 ok ok2 a ≤ u0 + c2 j i) ∧
    (uA p u1 u0 N c1 c2 ok ok2 a = 9999 ∨ (∃ i, i < a ∧ ok i = true ∧ uA p u1 u0 N c1 c2 ok ok2 a = u1 + c1 i) ∨ (¬ p = 0 ∧ ∃ i j, i < a ∧ j < N ∧ ok i = true ∧ ok2 j i = true ∧ uA p u1 u0 N c1 c2 ok ok2 a = u0 + c2 j i)) := by
  intro a
  induction a with
  | zero => exact ⟨fun i h => absurd h (Nat.not_lt_zero i), fun _ i j h => absurd h (Nat.not_lt_zero i), Or.inl rfl⟩
  | succ a ih =>
    obtain ⟨h1, h2, h3⟩ := ih
    have up : ∀ v, v = uA p u1 u0 N c1 c2 ok ok2 a → (v = 9999 ∨ (∃ i, i < a + 1 ∧ ok i = true ∧ v = u1 + c1 i) ∨ (¬ p = 0 ∧ ∃ i j, i < a + 1 ∧ j < N ∧ ok i = true ∧ ok2 j i = true ∧ v = u0 + c2 j i)) := by
      intro v hv
      rw [hv]
      rcases h3 with g | ⟨i, g1, g2, g3⟩ | ⟨g0, i, j, g1, g2, g3, g4, g5⟩
      · exact Or.inl g
      · exact Or.inr (Or.inl ⟨i, by omega, g2, g3⟩)
      · exact Or.inr (Or.inr ⟨g0, i, j, by omega, g2, g3, g4, g5⟩)
    cases hk : ok a with
    | false =>
      rw [uA_no hk]
      refine ⟨fun i hi hoi => ?_, fun h0 i j hi hj hoi hoj => ?_, up _ rfl⟩
      · rcases (show i < a ∨ i = a by omega) with g | g
        · exact h1 i g hoi
        · rw [g, hk] at hoi
          exact absurd hoi (by decide)
      · rcases (show i < a ∨ i = a by omega) with g | g
        · exact h2 h0 i j g hj hoi hoj
        · rw [g, hk] at hoi
          exact absurd hoi (by decide)
    | true =>
      by_cases h0 : p = 0
      · rw [uA_z hk h0]
        refine ⟨fun i hi hoi => ?_, fun h => absurd h0 h, ?_⟩
        · rcases (show i < a ∨ i = a by omega) with g | g
          · have := h1 i g hoi
            omega
          · rw [g]
            omega
        · rcases Nat.le_total (uA p u1 u0 N c1 c2 ok ok2 a) (u1 + c1 a) with g | g
          · exact up _ (by omega)
          · exact Or.inr (Or.inl ⟨a, by omega, hk, by omega⟩)
      · rw [uA_p hk h0]
        obtain ⟨b1, b2⟩ := uB_sp (x0 := u0) (m0 := min (uA p u1 u0 N c1 c2 ok ok2 a) (u1 + c1 a)) (c := fun b => c2 b a) (ok := fun b => ok2 b a) N
        have b3 := uB_le (x0 := u0) (m0 := min (uA p u1 u0 N c1 c2 ok ok2 a) (u1 + c1 a)) (c := fun b => c2 b a) (ok := fun b => ok2 b a) N
        refine ⟨fun i hi hoi => ?_, fun _ i j hi hj hoi hoj => ?_, ?_⟩
        · rcases (show i < a ∨ i = a by omega) with g | g
          · have := h1 i g hoi
            omega
          · rw [g]
            omega
        · rcases (show i < a ∨ i = a by omega) with g | g
          · have := h2 h0 i j g hj hoi hoj
            omega
          · rw [g] at hoj ⊢
            exact b1 j hj hoj
        · rcases b2 with g | ⟨j, g1, g2, g3⟩
          · rw [g]
            rcases Nat.le_total (uA p u1 u0 N c1 c2 ok ok2 a) (u1 + c1 a) with g9 | g9
            · exact up _ (by omega)
            · exact Or.inr (Or.inl ⟨a, by omega, hk, by omega⟩)
          · exact Or.inr (Or.inr ⟨h0, a, j, by omega, g1, hk, g2, g3⟩)
section
variable {σ : gS} {τ : gT} {nw nl lm K : Nat} {s : gS} {t : gT}
/-- upTo, from place f on, goes as the front's row -/
theorem TS_U (R : TS σ τ nw nl lm K s t) {f : Nat} : ∀ k, f + k ≤ nl → uU lm nw (ltF t) (mayF t) (jnF t) (fun i => tgF t (f + i)) k = fD (fun i => An σ τ nw nl (f + i)) (fun i => Pn σ τ nw nl (f + i)) k ∧ (fD (fun i => An σ τ nw nl (f + i)) (fun i => Pn σ τ nw nl (f + i)) k).1 ≤ 30 * k ∧ (fD (fun i => An σ τ nw nl (f + i)) (fun i => Pn σ τ nw nl (f + i)) k).2 ≤ 30 * k := by
  intro k
  induction k with
  | zero => exact fun _ => ⟨rfl, Nat.le_refl _, Nat.le_refl _⟩
  | succ k ih =>
    intro hk
    obtain ⟨e, h1, h2⟩ := ih (by omega)
    have hnl := Iv_nl (TS_I R)
    have hAn := TS_An (p := f + k) R (by omega)
    obtain ⟨a, ha, -, eA, hm, hmin, -⟩ := TS_A (p := f + k) R (by omega)
    have cA := TS_c1 R ha
    have eAn : An σ τ nw nl (f + k) = cN lm (ltF t a) := by unfold An; rw [eA, nI_clamp (by omega)]
    obtain ⟨s1, s2, s3⟩ := uA_sp (p := k) (u1 := (fD (fun i => An σ τ nw nl (f + i)) (fun i => Pn σ τ nw nl (f + i)) k).1) (u0 := (fD (fun i => An σ τ nw nl (f + i)) (fun i => Pn σ τ nw nl (f + i)) k).2) (N := nw) (c1 := fun a => cN lm (ltF t a)) (c2 := fun b a => cN lm (ltF t a + ltF t b)) (ok := fun a => mayF t (tgF t (f + k)) a) (ok2 := fun b a => mayF t (tgF t (f + (k - 1))) b && jnF t b a) nw
    have e1 : uA k (fD (fun i => An σ τ nw nl (f + i)) (fun i => Pn σ τ nw nl (f + i)) k).1 (fD (fun i => An σ τ nw nl (f + i)) (fun i => Pn σ τ nw nl (f + i)) k).2 nw (fun a => cN lm (ltF t a)) (fun b a => cN lm (ltF t a + ltF t b)) (fun a => mayF t (tgF t (f + k)) a) (fun b a => mayF t (tgF t (f + (k - 1))) b && jnF t b a) nw
        = (if k = 0 then (fD (fun i => An σ τ nw nl (f + i)) (fun i => Pn σ τ nw nl (f + i)) k).1 + An σ τ nw nl (f + k) else min ((fD (fun i => An σ τ nw nl (f + i)) (fun i => Pn σ τ nw nl (f + i)) k).1 + An σ τ nw nl (f + k)) ((fD (fun i => An σ τ nw nl (f + i)) (fun i => Pn σ τ nw nl (f + i)) k).2 + Pn σ τ nw nl (f + (k - 1)))) := by
      revert s1 s2 s3
      generalize uA k (fD (fun i => An σ τ nw nl (f + i)) (fun i => Pn σ τ nw nl (f + i)) k).1 (fD (fun i => An σ τ nw nl (f + i)) (fun i => Pn σ τ nw nl (f + i)) k).2 nw (fun a => cN lm (ltF t a)) (fun b a => cN lm (ltF t a + ltF t b)) (fun a => mayF t (tgF t (f + k)) a) (fun b a => mayF t (tgF t (f + (k - 1))) b && jnF t b a) nw = v
      intro s1 s2 s3
      have lo : v ≤ (fD (fun i => An σ τ nw nl (f + i)) (fun i => Pn σ τ nw nl (f + i)) k).1 + An σ τ nw nl (f + k) := by
        rw [eAn]
        exact s1 a ha hm
      have up1 : ∀ i, i < nw → mayF t (tgF t (f + k)) i = true → An σ τ nw nl (f + k) ≤ cN lm (ltF t i) := by
        intro i hi hoi
        rw [eAn]
        exact hmin i hi hoi
      by_cases h0 : k = 0
      · rw [if_pos h0]
        rcases s3 with g | ⟨i, g1, g2, g3⟩ | ⟨g0, -⟩
        · omega
        · have := up1 i g1 g2
          have g4 : v = (fD (fun i => An σ τ nw nl (f + i)) (fun i => Pn σ τ nw nl (f + i)) k).1 + cN lm (ltF t i) := g3
          omega
        · exact absurd h0 g0
      · rw [if_neg h0]
        have e9 : f + (k - 1) + 1 = f + k := by omega
        have hPn := TS_Pn R (f + (k - 1))
        rcases TS_P (p := f + (k - 1)) R with ⟨hno, -, eJ⟩ | ⟨x, y, hx, hy, -, k1, k2, k3, -, eJ, hmin2⟩
        · have eP : Pn σ τ nw nl (f + (k - 1)) = 1000000 := by unfold Pn; rw [eJ, nI_clamp (by omega)]
          rcases s3 with g | ⟨i, g1, g2, g3⟩ | ⟨-, i, j, g1, g2, g3, g4, g5⟩
          · omega
          · have := up1 i g1 g2
            have g4 : v = (fD (fun i => An σ τ nw nl (f + i)) (fun i => Pn σ τ nw nl (f + i)) k).1 + cN lm (ltF t i) := g3
            omega
          · have g6 : mayF t (tgF t (f + (k - 1))) j = true ∧ jnF t j i = true := by
              simpa [Bool.and_eq_true] using g4
            exact absurd ⟨by omega, g6.1, by rw [e9]; exact g3, g6.2⟩ (hno j i g2 g1)
        · have cP := TS_c2 R hx hy
          have eP : Pn σ τ nw nl (f + (k - 1)) = cN lm (ltF t x + ltF t y) := by unfold Pn; rw [eJ, nI_clamp (by omega)]
          have lo2 : v ≤ (fD (fun i => An σ τ nw nl (f + i)) (fun i => Pn σ τ nw nl (f + i)) k).2 + Pn σ τ nw nl (f + (k - 1)) := by
            rw [eP, Nat.add_comm (ltF t x)]
            exact s2 h0 y x hy hx (by rw [e9] at k2; exact k2) (by simp [k1, k3])
          rcases s3 with g | ⟨i, g1, g2, g3⟩ | ⟨-, i, j, g1, g2, g3, g4, g5⟩
          · omega
          · have := up1 i g1 g2
            have g4 : v = (fD (fun i => An σ τ nw nl (f + i)) (fun i => Pn σ τ nw nl (f + i)) k).1 + cN lm (ltF t i) := g3
            omega
          · have g6 : mayF t (tgF t (f + (k - 1))) j = true ∧ jnF t j i = true := by
              simpa [Bool.and_eq_true] using g4
            have h9 := (hmin2 j i g2 g1 g6.1 (by rw [e9]; exact g3) g6.2).1
            have g7 : v = (fD (fun i => An σ τ nw nl (f + i)) (fun i => Pn σ τ nw nl (f + i)) k).2 + cN lm (ltF t i + ltF t j) := g5
            rw [Nat.add_comm (ltF t i)] at g7
            omega
    have e2 : uU lm nw (ltF t) (mayF t) (jnF t) (fun i => tgF t (f + i)) (k + 1) = fD (fun i => An σ τ nw nl (f + i)) (fun i => Pn σ τ nw nl (f + i)) (k + 1) := by
      show ((uA k _ _ nw _ _ _ _ nw, _) : Nat × Nat) = ((if k = 0 then _ else _, _) : Nat × Nat)
      rw [e]
      exact congrArg (fun v => (v, (fD (fun i => An σ τ nw nl (f + i)) (fun i => Pn σ τ nw nl (f + i)) k).1)) e1
    refine ⟨e2, ?_, ?_⟩
    · rw [fD_s]
      split <;> omega
    · show (fD (fun i => An σ τ nw nl (f + i)) (fun i => Pn σ τ nw nl (f + i)) k).1 ≤ _
      omega
abbrev Gx (σ : gS) (τ : gT) (nw nl p : Nat) : Nat := bG (An σ τ nw nl) (Pn σ τ nw nl) nl p
theorem TS_L (R : TS σ τ nw nl lm K s t) {p : Nat} (hp : p ≤ nl) : Lx lm nw nl t p = Gx σ τ nw nl p := by
  unfold Lx
  rw [(TS_U (f := p) R (nl - p) (by omega)).1]
  exact fD_bG (by omega) (fun q hq => by
    have h1 := TS_An (p := q) R (by omega)
    have h2 := TS_Pl (p := q) R (by omega)
    omega)
theorem TS_F (R : TS σ τ nw nl lm K s t) {p : Nat} (hp : p ≤ nl) : FX σ τ nw nl (nl - p) = nI (Gx σ τ nw nl p) ∧ Gx σ τ nw nl p ≤ 480 := by
  have h := fw_bD (A := LAx σ τ nw nl) (J := LJx σ τ nw nl) (a := An σ τ nw nl) (b := Pn σ τ nw nl) (Iv_nl (TS_I R)) (fun q hq => ⟨(TS_An R hq).1, (TS_An R hq).2.2⟩) (fun q _ => ⟨(TS_Pn R q).1, by rcases (TS_Pn R q).2 with g | g <;> omega⟩) (nl - p) (by omega)
  have hnl := Iv_nl (TS_I R)
  refine ⟨by unfold FX; rw [h.1]; rfl, ?_⟩
  show (bD _ _ _ _).1 ≤ 480
  omega
/-- cheapestCount: alike -/
theorem TS_cc (R : TS σ τ nw nl lm K s t) : CC0 σ τ nw nl = al nl (s 2) (nI (UUx lm nw t nl).1) := by
  unfold CC0
  have h1 := TS_F (p := 0) R (Nat.zero_le _)
  have h2 := TS_L (p := 0) R (Nat.zero_le _)
  have e : (UUx lm nw t nl).1 = Lx lm nw nl t 0 := by
    unfold Lx
    rw [Nat.sub_zero, show (fun i => tgF t (0 + i)) = tgF t from funext fun i => by rw [Nat.zero_add]]
  rw [Nat.sub_zero] at h1
  rw [h1.1, e, h2, (TS_n R).1]
end
end
section
theorem zz_last : True := trivial
end
