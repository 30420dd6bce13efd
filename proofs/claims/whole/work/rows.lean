section
-- ===== PART A: goes FIRST, ahead of the names: the tables' words, and 'selects' of the private methods out of them =====
/-- a private method of a class that the tables say can be made, by its rows of tables_1 -/
def lw_okq (q : MethodName × Nat) : Prop := (q.1.cls ≠ "java/lang/invoke/MethodHandle" ∧ q.1.cls ≠ "java/lang/invoke/VarHandle") ∧ Cond.instantiable q.1.cls q.2 ∈ tables_1 ∧ Cond.privateMethod q.1 ∈ tables_1 ∧ Cond.instanceMethod q.1 ∈ tables_1
theorem lw_p0 : lw_okq (⟨"TelegraphPrices", "countOfPair", "(II)I"⟩, 18) := ⟨⟨by decide +kernel, by decide +kernel⟩, List.mem_of_getElem? (i := 13) (by decide +kernel), List.mem_of_getElem? (i := 86) (by decide +kernel), List.mem_of_getElem? (i := 87) (by decide +kernel)⟩
theorem lw_p1 : lw_okq (⟨"TelegraphPrices", "countOfLetters", "(I)I"⟩, 18) := ⟨⟨by decide +kernel, by decide +kernel⟩, List.mem_of_getElem? (i := 13) (by decide +kernel), List.mem_of_getElem? (i := 90) (by decide +kernel), List.mem_of_getElem? (i := 91) (by decide +kernel)⟩
theorem lw_p2 : lw_okq (⟨"TelegraphPrices", "atLeastTheLeastCount", "(I)I"⟩, 18) := ⟨⟨by decide +kernel, by decide +kernel⟩, List.mem_of_getElem? (i := 13) (by decide +kernel), List.mem_of_getElem? (i := 94) (by decide +kernel), List.mem_of_getElem? (i := 95) (by decide +kernel)⟩
theorem lw_p3 : lw_okq (⟨"TelegraphPrices", "noteCheapestWording", "()V"⟩, 18) := ⟨⟨by decide +kernel, by decide +kernel⟩, List.mem_of_getElem? (i := 13) (by decide +kernel), List.mem_of_getElem? (i := 101) (by decide +kernel), List.mem_of_getElem? (i := 102) (by decide +kernel)⟩
theorem lw_p4 : lw_okq (⟨"TelegraphPrices", "noteLeastCounts", "()V"⟩, 18) := ⟨⟨by decide +kernel, by decide +kernel⟩, List.mem_of_getElem? (i := 13) (by decide +kernel), List.mem_of_getElem? (i := 105) (by decide +kernel), List.mem_of_getElem? (i := 106) (by decide +kernel)⟩
theorem lw_p5 : lw_okq (⟨"TelegraphPrices", "bestWordAt", "(I)I"⟩, 18) := ⟨⟨by decide +kernel, by decide +kernel⟩, List.mem_of_getElem? (i := 13) (by decide +kernel), List.mem_of_getElem? (i := 109) (by decide +kernel), List.mem_of_getElem? (i := 110) (by decide +kernel)⟩
theorem lw_p6 : lw_okq (⟨"TelegraphPrices", "mayHold", "(II)Z"⟩, 18) := ⟨⟨by decide +kernel, by decide +kernel⟩, List.mem_of_getElem? (i := 13) (by decide +kernel), List.mem_of_getElem? (i := 114) (by decide +kernel), List.mem_of_getElem? (i := 115) (by decide +kernel)⟩
theorem lw_p7 : lw_okq (⟨"TelegraphPrices", "bestPairAt", "(I)I"⟩, 18) := ⟨⟨by decide +kernel, by decide +kernel⟩, List.mem_of_getElem? (i := 13) (by decide +kernel), List.mem_of_getElem? (i := 121) (by decide +kernel), List.mem_of_getElem? (i := 122) (by decide +kernel)⟩
theorem lw_p8 : lw_okq (⟨"TelegraphPrices", "leastInAll", "([I)I"⟩, 18) := ⟨⟨by decide +kernel, by decide +kernel⟩, List.mem_of_getElem? (i := 13) (by decide +kernel), List.mem_of_getElem? (i := 125) (by decide +kernel), List.mem_of_getElem? (i := 126) (by decide +kernel)⟩
theorem lw_p9 : lw_okq (⟨"TelegraphPrices", "noteCheapestAt", "(IIZ)V"⟩, 18) := ⟨⟨by decide +kernel, by decide +kernel⟩, List.mem_of_getElem? (i := 13) (by decide +kernel), List.mem_of_getElem? (i := 132) (by decide +kernel), List.mem_of_getElem? (i := 133) (by decide +kernel)⟩
theorem lw_p10 : lw_okq (⟨"TelegraphPrices", "cheapestCountWithJoin", "(II)I"⟩, 18) := ⟨⟨by decide +kernel, by decide +kernel⟩, List.mem_of_getElem? (i := 13) (by decide +kernel), List.mem_of_getElem? (i := 193) (by decide +kernel), List.mem_of_getElem? (i := 194) (by decide +kernel)⟩
theorem lw_p11 : lw_okq (⟨"TelegraphPrices", "digestOfWords", "(J)J"⟩, 18) := ⟨⟨by decide +kernel, by decide +kernel⟩, List.mem_of_getElem? (i := 13) (by decide +kernel), List.mem_of_getElem? (i := 207) (by decide +kernel), List.mem_of_getElem? (i := 208) (by decide +kernel)⟩
theorem lw_p12 : lw_okq (⟨"TelegraphPrices", "needWord", "(I)V"⟩, 18) := ⟨⟨by decide +kernel, by decide +kernel⟩, List.mem_of_getElem? (i := 13) (by decide +kernel), List.mem_of_getElem? (i := 215) (by decide +kernel), List.mem_of_getElem? (i := 216) (by decide +kernel)⟩
theorem lw_p13 : lw_okq (⟨"java/lang/Throwable", "fillInStackTrace", "(I)Ljava/lang/Throwable;"⟩, 6) := ⟨⟨by decide +kernel, by decide +kernel⟩, List.mem_of_getElem? (i := 257) (by decide +kernel), List.mem_of_getElem? (i := 255) (by decide +kernel), List.mem_of_getElem? (i := 256) (by decide +kernel)⟩
theorem lw_p14 : lw_okq (⟨"TelegraphPrices", "digestOfPlaces", "(J)J"⟩, 18) := ⟨⟨by decide +kernel, by decide +kernel⟩, List.mem_of_getElem? (i := 13) (by decide +kernel), List.mem_of_getElem? (i := 291) (by decide +kernel), List.mem_of_getElem? (i := 292) (by decide +kernel)⟩
theorem lw_p15 : lw_okq (⟨"TelegraphPrices", "needPlace", "(I)V"⟩, 18) := ⟨⟨by decide +kernel, by decide +kernel⟩, List.mem_of_getElem? (i := 13) (by decide +kernel), List.mem_of_getElem? (i := 391) (by decide +kernel), List.mem_of_getElem? (i := 392) (by decide +kernel)⟩
def lw_privs_1 : List (MethodName × Nat) := [(⟨"TelegraphPrices", "countOfPair", "(II)I"⟩, 18), (⟨"TelegraphPrices", "countOfLetters", "(I)I"⟩, 18), (⟨"TelegraphPrices", "atLeastTheLeastCount", "(I)I"⟩, 18), (⟨"TelegraphPrices", "noteCheapestWording", "()V"⟩, 18), (⟨"TelegraphPrices", "noteLeastCounts", "()V"⟩, 18), (⟨"TelegraphPrices", "bestWordAt", "(I)I"⟩, 18), (⟨"TelegraphPrices", "mayHold", "(II)Z"⟩, 18), (⟨"TelegraphPrices", "bestPairAt", "(I)I"⟩, 18), (⟨"TelegraphPrices", "leastInAll", "([I)I"⟩, 18), (⟨"TelegraphPrices", "noteCheapestAt", "(IIZ)V"⟩, 18), (⟨"TelegraphPrices", "cheapestCountWithJoin", "(II)I"⟩, 18), (⟨"TelegraphPrices", "digestOfWords", "(J)J"⟩, 18), (⟨"TelegraphPrices", "needWord", "(I)V"⟩, 18), (⟨"java/lang/Throwable", "fillInStackTrace", "(I)Ljava/lang/Throwable;"⟩, 6), (⟨"TelegraphPrices", "digestOfPlaces", "(J)J"⟩, 18), (⟨"TelegraphPrices", "needPlace", "(I)V"⟩, 18)]
theorem lw_r1 : ∀ q ∈ lw_privs_1, lw_okq q := List.forall_mem_cons.mpr ⟨lw_p0, List.forall_mem_cons.mpr ⟨lw_p1, List.forall_mem_cons.mpr ⟨lw_p2, List.forall_mem_cons.mpr ⟨lw_p3, List.forall_mem_cons.mpr ⟨lw_p4, List.forall_mem_cons.mpr ⟨lw_p5, List.forall_mem_cons.mpr ⟨lw_p6, List.forall_mem_cons.mpr ⟨lw_p7, List.forall_mem_cons.mpr ⟨lw_p8, List.forall_mem_cons.mpr ⟨lw_p9, List.forall_mem_cons.mpr ⟨lw_p10, List.forall_mem_cons.mpr ⟨lw_p11, List.forall_mem_cons.mpr ⟨lw_p12, List.forall_mem_cons.mpr ⟨lw_p13, List.forall_mem_cons.mpr ⟨lw_p14, List.forall_mem_cons.mpr ⟨lw_p15, fun _ h => absurd h List.not_mem_nil⟩⟩⟩⟩⟩⟩⟩⟩⟩⟩⟩⟩⟩⟩⟩⟩
theorem lw_p16 : lw_okq (⟨"TelegraphPrices", "couldBeJoined", "(I)Z"⟩, 18) := ⟨⟨by decide +kernel, by decide +kernel⟩, List.mem_of_getElem? (i := 13) (by decide +kernel), List.mem_of_getElem? (i := 403) (by decide +kernel), List.mem_of_getElem? (i := 404) (by decide +kernel)⟩
theorem lw_p17 : lw_okq (⟨"TelegraphPricesModel", "fail", "(I)I"⟩, 16) := ⟨⟨by decide +kernel, by decide +kernel⟩, List.mem_of_getElem? (i := 482) (by decide +kernel), List.mem_of_getElem? (i := 548) (by decide +kernel), List.mem_of_getElem? (i := 549) (by decide +kernel)⟩
theorem lw_p18 : lw_okq (⟨"TelegraphPricesModel", "arePair", "(II)Z"⟩, 16) := ⟨⟨by decide +kernel, by decide +kernel⟩, List.mem_of_getElem? (i := 482) (by decide +kernel), List.mem_of_getElem? (i := 556) (by decide +kernel), List.mem_of_getElem? (i := 557) (by decide +kernel)⟩
theorem lw_p19 : lw_okq (⟨"TelegraphPricesModel", "isWord", "(I)Z"⟩, 16) := ⟨⟨by decide +kernel, by decide +kernel⟩, List.mem_of_getElem? (i := 482) (by decide +kernel), List.mem_of_getElem? (i := 560) (by decide +kernel), List.mem_of_getElem? (i := 561) (by decide +kernel)⟩
theorem lw_p20 : lw_okq (⟨"TelegraphPricesModel", "failed", "(I)Z"⟩, 16) := ⟨⟨by decide +kernel, by decide +kernel⟩, List.mem_of_getElem? (i := 482) (by decide +kernel), List.mem_of_getElem? (i := 564) (by decide +kernel), List.mem_of_getElem? (i := 565) (by decide +kernel)⟩
theorem lw_p21 : lw_okq (⟨"TelegraphPricesModel", "isPlace", "(I)Z"⟩, 16) := ⟨⟨by decide +kernel, by decide +kernel⟩, List.mem_of_getElem? (i := 482) (by decide +kernel), List.mem_of_getElem? (i := 595) (by decide +kernel), List.mem_of_getElem? (i := 596) (by decide +kernel)⟩
theorem lw_p22 : lw_okq (⟨"TelegraphPricesModel", "countNow", "()I"⟩, 16) := ⟨⟨by decide +kernel, by decide +kernel⟩, List.mem_of_getElem? (i := 482) (by decide +kernel), List.mem_of_getElem? (i := 607) (by decide +kernel), List.mem_of_getElem? (i := 608) (by decide +kernel)⟩
theorem lw_p23 : lw_okq (⟨"TelegraphPricesModel", "counts", "(I)I"⟩, 16) := ⟨⟨by decide +kernel, by decide +kernel⟩, List.mem_of_getElem? (i := 482) (by decide +kernel), List.mem_of_getElem? (i := 611) (by decide +kernel), List.mem_of_getElem? (i := 612) (by decide +kernel)⟩
theorem lw_p24 : lw_okq (⟨"TelegraphPricesModel", "lifted", "(I)I"⟩, 16) := ⟨⟨by decide +kernel, by decide +kernel⟩, List.mem_of_getElem? (i := 482) (by decide +kernel), List.mem_of_getElem? (i := 615) (by decide +kernel), List.mem_of_getElem? (i := 616) (by decide +kernel)⟩
theorem lw_p25 : lw_okq (⟨"TelegraphPricesModel", "choose", "()V"⟩, 16) := ⟨⟨by decide +kernel, by decide +kernel⟩, List.mem_of_getElem? (i := 482) (by decide +kernel), List.mem_of_getElem? (i := 620) (by decide +kernel), List.mem_of_getElem? (i := 621) (by decide +kernel)⟩
theorem lw_p26 : lw_okq (⟨"TelegraphPricesModel", "reckon", "()I"⟩, 16) := ⟨⟨by decide +kernel, by decide +kernel⟩, List.mem_of_getElem? (i := 482) (by decide +kernel), List.mem_of_getElem? (i := 624) (by decide +kernel), List.mem_of_getElem? (i := 625) (by decide +kernel)⟩
theorem lw_p27 : lw_okq (⟨"TelegraphPricesModel", "leastSingle", "(I)I"⟩, 16) := ⟨⟨by decide +kernel, by decide +kernel⟩, List.mem_of_getElem? (i := 482) (by decide +kernel), List.mem_of_getElem? (i := 628) (by decide +kernel), List.mem_of_getElem? (i := 629) (by decide +kernel)⟩
theorem lw_p28 : lw_okq (⟨"TelegraphPricesModel", "leastPair", "(I)I"⟩, 16) := ⟨⟨by decide +kernel, by decide +kernel⟩, List.mem_of_getElem? (i := 482) (by decide +kernel), List.mem_of_getElem? (i := 634) (by decide +kernel), List.mem_of_getElem? (i := 635) (by decide +kernel)⟩
theorem lw_p29 : lw_okq (⟨"TelegraphPricesModel", "single", "(I)I"⟩, 16) := ⟨⟨by decide +kernel, by decide +kernel⟩, List.mem_of_getElem? (i := 482) (by decide +kernel), List.mem_of_getElem? (i := 638) (by decide +kernel), List.mem_of_getElem? (i := 639) (by decide +kernel)⟩
theorem lw_p30 : lw_okq (⟨"TelegraphPricesModel", "pair", "(I)V"⟩, 16) := ⟨⟨by decide +kernel, by decide +kernel⟩, List.mem_of_getElem? (i := 482) (by decide +kernel), List.mem_of_getElem? (i := 642) (by decide +kernel), List.mem_of_getElem? (i := 643) (by decide +kernel)⟩
theorem lw_p31 : lw_okq (⟨"TelegraphPricesModel", "costTo", "(I)I"⟩, 16) := ⟨⟨by decide +kernel, by decide +kernel⟩, List.mem_of_getElem? (i := 482) (by decide +kernel), List.mem_of_getElem? (i := 653) (by decide +kernel), List.mem_of_getElem? (i := 654) (by decide +kernel)⟩
def lw_privs_2 : List (MethodName × Nat) := [(⟨"TelegraphPrices", "couldBeJoined", "(I)Z"⟩, 18), (⟨"TelegraphPricesModel", "fail", "(I)I"⟩, 16), (⟨"TelegraphPricesModel", "arePair", "(II)Z"⟩, 16), (⟨"TelegraphPricesModel", "isWord", "(I)Z"⟩, 16), (⟨"TelegraphPricesModel", "failed", "(I)Z"⟩, 16), (⟨"TelegraphPricesModel", "isPlace", "(I)Z"⟩, 16), (⟨"TelegraphPricesModel", "countNow", "()I"⟩, 16), (⟨"TelegraphPricesModel", "counts", "(I)I"⟩, 16), (⟨"TelegraphPricesModel", "lifted", "(I)I"⟩, 16), (⟨"TelegraphPricesModel", "choose", "()V"⟩, 16), (⟨"TelegraphPricesModel", "reckon", "()I"⟩, 16), (⟨"TelegraphPricesModel", "leastSingle", "(I)I"⟩, 16), (⟨"TelegraphPricesModel", "leastPair", "(I)I"⟩, 16), (⟨"TelegraphPricesModel", "single", "(I)I"⟩, 16), (⟨"TelegraphPricesModel", "pair", "(I)V"⟩, 16), (⟨"TelegraphPricesModel", "costTo", "(I)I"⟩, 16)]
theorem lw_r2 : ∀ q ∈ lw_privs_2, lw_okq q := List.forall_mem_cons.mpr ⟨lw_p16, List.forall_mem_cons.mpr ⟨lw_p17, List.forall_mem_cons.mpr ⟨lw_p18, List.forall_mem_cons.mpr ⟨lw_p19, List.forall_mem_cons.mpr ⟨lw_p20, List.forall_mem_cons.mpr ⟨lw_p21, List.forall_mem_cons.mpr ⟨lw_p22, List.forall_mem_cons.mpr ⟨lw_p23, List.forall_mem_cons.mpr ⟨lw_p24, List.forall_mem_cons.mpr ⟨lw_p25, List.forall_mem_cons.mpr ⟨lw_p26, List.forall_mem_cons.mpr ⟨lw_p27, List.forall_mem_cons.mpr ⟨lw_p28, List.forall_mem_cons.mpr ⟨lw_p29, List.forall_mem_cons.mpr ⟨lw_p30, List.forall_mem_cons.mpr ⟨lw_p31, fun _ h => absurd h List.not_mem_nil⟩⟩⟩⟩⟩⟩⟩⟩⟩⟩⟩⟩⟩⟩⟩⟩
theorem lw_p32 : lw_okq (⟨"TelegraphPricesModel", "told", "(I)I"⟩, 16) := ⟨⟨by decide +kernel, by decide +kernel⟩, List.mem_of_getElem? (i := 482) (by decide +kernel), List.mem_of_getElem? (i := 661) (by decide +kernel), List.mem_of_getElem? (i := 662) (by decide +kernel)⟩
theorem lw_p33 : lw_okq (⟨"TelegraphPricesModel", "standIns", "(I)I"⟩, 16) := ⟨⟨by decide +kernel, by decide +kernel⟩, List.mem_of_getElem? (i := 482) (by decide +kernel), List.mem_of_getElem? (i := 685) (by decide +kernel), List.mem_of_getElem? (i := 686) (by decide +kernel)⟩
def lw_privs_3 : List (MethodName × Nat) := [(⟨"TelegraphPricesModel", "told", "(I)I"⟩, 16), (⟨"TelegraphPricesModel", "standIns", "(I)I"⟩, 16)]
theorem lw_r3 : ∀ q ∈ lw_privs_3, lw_okq q := List.forall_mem_cons.mpr ⟨lw_p32, List.forall_mem_cons.mpr ⟨lw_p33, fun _ h => absurd h List.not_mem_nil⟩⟩
def lw_privs : List (MethodName × Nat) := lw_privs_1 ++ (lw_privs_2 ++ (lw_privs_3))
def lw_tbl : List Cond := k2_sels lw_privs ++ tables_1
theorem lw_privs_ok : ∀ q ∈ lw_privs, lw_okq q := by
  show ∀ q ∈ lw_privs_1 ++ (lw_privs_2 ++ (lw_privs_3)), lw_okq q
  exact List.forall_mem_append.mpr ⟨lw_r1, List.forall_mem_append.mpr ⟨lw_r2, lw_r3⟩⟩
/-- the streams that the claim lets the run draw from -/
abbrev lw_cs : List Choice := [Jvm.Choice.named "NaN.bits"]
theorem lw_bits : nanBits ∈ lw_cs := by first | decide | exact List.mem_cons_self | simp [lw_cs, nanBits]
-- ===== end of PART A; then your names; then what follows =====
end
section
/-! ===== BEGIN words of one list among another's, by their places ===== -/
theorem goodIn_r {big : List Cond} (ws : List Cond) (ps : List Nat) (hp : ws = ps.filterMap (fun i => big[i]?)) (h : ws.all goodWord = true) : GoodIn big ws := by
  intro w hw
  have h1 := List.all_eq_true.mp h w hw
  rw [hp] at hw
  obtain ⟨i, -, hi⟩ := List.mem_filterMap.mp hw
  have hm : w ∈ big := by first | exact List.mem_of_getElem? hi | exact List.getElem?_mem hi
  exact ⟨hm, good_of_word h1⟩
theorem goodIn_app {big a b : List Cond} (ha : GoodIn big a) (hb : GoodIn big b) : GoodIn big (a ++ b) := fun w h => (List.mem_append.mp h).elim (ha w) (hb w)
theorem goodIn_ca {big a b : List Cond} {c : Cond} (ha : GoodIn big (c :: a)) (hb : GoodIn big b) : GoodIn big (c :: (a ++ b)) := fun w h => (List.mem_cons.mp h).elim (fun e => ha w (List.mem_cons.mpr (Or.inl e))) (fun h => (List.mem_append.mp h).elim (fun h => ha w (List.mem_cons.mpr (Or.inr h))) (hb w))
theorem goodIn_sub {big ws : List Cond} (hm : ∀ w ∈ ws, w ∈ big) (h : ws.all goodWord = true) : GoodIn big ws := fun w hw => ⟨hm w hw, good_of_word (List.all_eq_true.mp h w hw)⟩
/-! ===== END ===== -/

/-! ===== BEGIN exceptions that leave a method, and their catching by the caller (launches without stack traces) ===== -/
section VXA
/-! The laws vx_back, vx_callV, vx_callS, vx_callSW, vx_throw0, vx_throwS follow proofs of the library, with one case more: JvmDerived/Free/Laws.lean (Back.of_free), Shelf42/LK1.lean (callV, callS), Shelf/KitTraced.lean (throwNew0V, throwNewS). -/
/-- where a method has thrown q: the class by its name, the cell, what was written, the world -/
def vx_T (XC : String → State → State → Prop) (st : State) (q : Addr) (t : State) (mc ms : Nat) (free : Addr → Prop) : Prop :=
  ∃ (E : String) (ce : Cell) (L : List Loc), XC E st t ∧ t.heap[q]? = some ce ∧ ce.vm = .none ∧ st.vm.findClass E = some ce.cls ∧ st.WarmedH t.vm ∧ st.sameButNew ({ t with vm := st.vm } : State) L mc ms ∧ ∀ z ∈ L, free z.base
def vx_Q (Qc : Array Value → State → Outcome → State → Prop) (XC : String → State → State → Prop) (mc ms : Nat) (free : Addr → Prop) : Array Value → State → Outcome → State → Prop := fun a st o t =>
  (Qc a st o t ∧ ∃ L, FrameEnd st o t L mc ms ∧ ∀ q ∈ L, free q.base) ∨ ∃ q, o = .threw q ∧ vx_T XC st q t mc ms free
/-- a callee that returns or throws -/
def vx_Met (l : Launch) (y : MethodName) (ws : List Cond) (rm : Room) (Pc : Array Value → State → Prop) (Qc : Array Value → State → Outcome → State → Prop) (XC : String → State → State → Prop) (mc ms : Nat) (free : Addr → Prop) : Prop :=
  MetFree l y (headSpec ws rm) Pc (fun _ _ _ _ _ => True) (vx_Q Qc XC mc ms free)
def vx_Post (XC : String → State → State → Prop) (mc ms : Nat) (free : Addr → Prop) : Pt → Array Value → Addr → Pt → Prop := fun A a q B =>
  ∃ (g : JFrame) (mk : MethodId) (t : State) (L : List Loc) (E : String) (ce : Cell), B.U.heap = t.heap ∧ B.U.vm = t.vm ∧ XC E (A.U.calling g mk a) t ∧ t.heap[q]? = some ce ∧ ce.vm = .none ∧ A.U.vm.findClass E = some ce.cls ∧ B.locs = A.locs ++ L ∧ (∀ z ∈ L, free z.base) ∧ B.cells = A.cells + mc ∧ B.slots = A.slots + ms
def vx_Back (l : Launch) (R : Room) (p : Program) (e : Env) (below : List Frame) (s : State) (sargs : Array Value) (y : MethodName) (len W9 : Nat)
    (Pre : Pt → Array Value → Prop) (Post : Pt → Array Value → Option Value → Pt → Prop) (PostX : Pt → Array Value → Addr → Pt → Prop) : Prop :=
  ∀ (m : MethodId) (meth : Method) (c : Code) (A : Pt) (g : JFrame) (ig : Instr) (mk : MethodId) (a : Array Value),
    Stand p l e R s m sargs below meth c A.U A.locs A.cells A.slots → g.method = m → g.locals.size = c.maxLocals → decode c.code g.pc = .ok (ig, len) →
    2 * g.monitorRoom + (g.stack.map fun v => v.category).sum ≤ W9 → A.U.methodNamed? y = some mk → Pre A a →
    (∃ (v : Option Value) (B : Pt), Stand p l e R s m sargs below meth c B.U B.locs B.cells B.slots ∧ Post A a v B ∧
      Steps p.tables e below (doInvoke e (A.U.setTop g) [] mk a).1 (B.U.setTop { g with pc := g.pc + len, stack := v.toList ++ g.stack })) ∨
    (∃ (q : Addr) (B : Pt), Stand p l e R s m sargs below meth c B.U B.locs B.cells B.slots ∧ PostX A a q B ∧
      Steps p.tables e below (doInvoke e (A.U.setTop g) [] mk a).1 ((B.U.setTop g).pushFrame (.throwing q)))
section Payer
variable {l : Launch} {R : Room} {p : Program} {e : Env} {below : List Frame} {s : State} {sargs : Array Value} {y : MethodName} {len W9 : Nat}
theorem vx_back {ws : List Cond} {rm : Room} {Pc : Array Value → State → Prop} {Qc : Array Value → State → Outcome → State → Prop} {XC : String → State → State → Prop} {mc ms : Nat} {free : Addr → Prop} {bytes : ByteArray} {maxL : Nat} {ret : Option FieldType}
    (hM : vx_Met l y ws rm Pc Qc XC mc ms free) (hblind : FrameBlind Pc) (hrc : rm.cells = mc) (hrs : rm.slots = ms)
    (hframes : rm.frames + 1 ≤ R.frames) (hlocals : W9 + (maxL + 11) + rm.locals ≤ R.locals)
    (hws : ∀ w ∈ ws, ∀ a' U, s.WarmedH U.vm → w.before a' U = true) (hcode : Cond.code y bytes maxL ret ∈ ws) (hinit : ∀ a' U, s.WarmedH U.vm → (Cond.initialized y.cls).before a' U = true) :
    vx_Back l R p e below s sargs y len W9 (PreOf R mc ms Pc) (PostOf Qc mc ms free) (vx_Post XC mc ms free) := by
  intro m meth c A g ig mk a X hg hsize hdg hW hn hp
  have h1 : (headSpec ws rm).pre.before a A.U = true := atoms_intro fun w hw => hws w hw _ _ X.warmed
  have h2 : (Cond.code y bytes maxL ret).before a A.U = true := hws _ hcode _ _ X.warmed
  have h3 : (Cond.initialized y.cls).before a A.U = true := hinit _ _ X.warmed
  have h4 : A.cells + (headSpec ws rm).room.cells ≤ R.cells := by rw [show (headSpec ws rm).room.cells = mc from hrc]; exact hp.1
  have h5 : A.slots + (headSpec ws rm).room.slots ≤ R.slots := by rw [show (headSpec ws rm).room.slots = ms from hrs]; exact hp.2.1
  have hPc : Pc a (A.U.calling g mk a) := hblind _ _ _ _ hp.2.2
  obtain ⟨U, Ls, c0, s0⟩ := A
  dsimp only [Pt.U, Pt.locs, Pt.cells, Pt.slots] at h1 h2 h3 h4 h5 X hn hPc ⊢
  obtain ⟨methY, cY, hmY, hcY, -, hlY, -, -, -, -⟩ := Cond.code_spec hn h2
  obtain ⟨kY, hkY, -⟩ := className_of_methodNamed hn
  have hinitY : kY.init = .initialized := Cond.initialized_spec (findClass_of_methodNamed hn) hkY h3
  have h : At U g.method c below := by rw [hg]; exact X.here
  have hlocals9 : W9 + (maxL + 11) + (headSpec ws rm).room.locals ≤ R.locals := hlocals
  have happ : (headSpec ws rm).appliesLoose y e.platform (U.calling g mk a) = true :=
    Spec.appliesLoose_calling (g := g) h hdg hn hkY hinitY
      (X.room_calling (g := g) (R' := (headSpec ws rm).room) hsize hmY hcY hframes (by rw [hlY]; omega) h4 h5) h1
  obtain ⟨mid, hmid⟩ := h.above
  have hfr : (U.setTop g).frames = (.java g :: mid) ++ below := by rw [State.frames_setTop' g h.top, hmid]; rfl
  obtain ⟨o, s₂, hsteps, -, hend, hq⟩ := Steps.callFree hM p X.admits X.cas X.clock (acts := []) hfr happ hPc trivial
  have hq' : vx_Q Qc XC mc ms free a (U.calling g mk a) o s₂ := hq
  rw [State.frames_setTop' g h.top] at hend
  obtain ⟨g₀, hg0⟩ := Option.isSome_iff_exists.mp h.top
  obtain ⟨r, hr⟩ := State.topJava?_eq_some.mp hg0
  have hr' : (({ U with heap := s₂.heap, slotsUsed := s₂.slotsUsed } : State).setVm s₂.vm).frames = .java g₀ :: r := hr
  rcases hq' with ⟨hqc, L, hfe, hL⟩ | ⟨q, rfl, E, ce, L, hx, hce, hcv, hcl, hW₂, hsm, hL⟩
  · obtain ⟨⟨v, rfl⟩, hW₂, e2, q2, q3, q4, q5, q6⟩ := id hfe
    have e3 : s₂ = ({ (U.calling g mk a).setFrames s₂.frames with heap := s₂.heap, slotsUsed := s₂.slotsUsed } : State).setVm s₂.vm := by
      have : s₂ = ({ s₂ with vm := (U.calling g mk a).vm } : State).setVm s₂.vm := rfl
      rw [e2] at this
      exact this
    obtain ⟨c₂, i₂, len₂, hc₂, hd₂, hf₂⟩ := hend
    have hW' : U.WarmedH s₂.vm := hW₂
    have hcc : c₂ = c := by
      have h1 : s₂.code? g.method = U.code? g.method := by
        rw [State.code?_eq, State.code?_eq, hW'.alike.method?]
      exact Option.some.inj (hc₂.symm.trans (h1.trans h.code))
    subst hcc
    have hlen : len₂ = len := by rw [hdg] at hd₂; cases hd₂; rfl
    subst hlen
    have hs₂ : s₂ = (({ U with heap := s₂.heap, slotsUsed := s₂.slotsUsed } : State).setVm s₂.vm).setTop { g with pc := g.pc + len₂, stack := v.toList ++ g.stack } := by
      refine e3.trans ?_
      rw [hf₂, State.calling_eq h.top, State.setFrames_setFrames, State.setTop_of_frames _ hr', hr]
      rfl
    have hsame : U.sameButNew ({ U with heap := s₂.heap, slotsUsed := s₂.slotsUsed } : State) L mc ms := by
      refine ⟨?_, q2, q3, q4, q5, q6⟩
      obtain ⟨t, ht, -⟩ := State.frames_cons hr
      show ({ U with heap := s₂.heap, slotsUsed := s₂.slotsUsed } : State) = { U.setFrames U.frames with heap := s₂.heap, slotsUsed := s₂.slotsUsed }
      rw [State.setFrames_self ht]
    subst hg
    refine Or.inl ⟨v, ⟨(({ U with heap := s₂.heap, slotsUsed := s₂.slotsUsed } : State).setVm s₂.vm), Ls ++ L, c0 + mc, s0 + ms⟩,
      ⟨X.admits, X.cas, X.clock, X.frames, X.room, X.hears, X.method, X.code, (X.here.setHeapUsed s₂.heap s₂.slotsUsed).setVm hW'.alike, X.tail, State.WarmedH.trans X.warmed hW', X.limits, X.bytes, X.same.trans (hsame.setVm s.vm)⟩,
      ⟨g, mk, s₂, L, rfl, rfl, hqc, rfl, hL, rfl, rfl⟩, ?_⟩
    show Steps p.tables e below _ ((({ U with heap := s₂.heap, slotsUsed := s₂.slotsUsed } : State).setVm s₂.vm).setTop { g with pc := g.pc + len₂, stack := v.toList ++ g.stack })
    rw [← hs₂]
    exact hsteps
  · obtain ⟨e2, q2, q3, q4, q5, q6⟩ := id hsm
    have e3 : s₂ = ({ (U.calling g mk a).setFrames s₂.frames with heap := s₂.heap, slotsUsed := s₂.slotsUsed } : State).setVm s₂.vm := by
      have : s₂ = ({ s₂ with vm := (U.calling g mk a).vm } : State).setVm s₂.vm := rfl
      rw [e2] at this
      exact this
    have hf₂ : s₂.frames = .throwing q :: .java g :: U.frames.tail := hend
    have hW' : U.WarmedH s₂.vm := hW₂
    have hs₂ : s₂ = ((({ U with heap := s₂.heap, slotsUsed := s₂.slotsUsed } : State).setVm s₂.vm).setTop g).pushFrame (.throwing q) := by
      refine e3.trans ?_
      rw [hf₂, State.calling_eq h.top, State.setFrames_setFrames, State.pushFrame, State.frames_setTop _ hr', State.setTop_of_frames _ hr', State.setFrames_setFrames, hr]
      rfl
    have hsame : U.sameButNew ({ U with heap := s₂.heap, slotsUsed := s₂.slotsUsed } : State) L mc ms := by
      refine ⟨?_, q2, q3, q4, q5, q6⟩
      obtain ⟨t, ht, -⟩ := State.frames_cons hr
      show ({ U with heap := s₂.heap, slotsUsed := s₂.slotsUsed } : State) = { U.setFrames U.frames with heap := s₂.heap, slotsUsed := s₂.slotsUsed }
      rw [State.setFrames_self ht]
    subst hg
    refine Or.inr ⟨q, ⟨(({ U with heap := s₂.heap, slotsUsed := s₂.slotsUsed } : State).setVm s₂.vm), Ls ++ L, c0 + mc, s0 + ms⟩,
      ⟨X.admits, X.cas, X.clock, X.frames, X.room, X.hears, X.method, X.code, (X.here.setHeapUsed s₂.heap s₂.slotsUsed).setVm hW'.alike, X.tail, State.WarmedH.trans X.warmed hW', X.limits, X.bytes, X.same.trans (hsame.setVm s.vm)⟩,
      ⟨g, mk, s₂, L, E, ce, rfl, rfl, hx, hce, hcv, hcl, rfl, hL, rfl, rfl⟩, ?_⟩
    show Steps p.tables e below _ (((({ U with heap := s₂.heap, slotsUsed := s₂.slotsUsed } : State).setVm s₂.vm).setTop g).pushFrame (.throwing q))
    rw [← hs₂]
    exact hsteps
end Payer
section Calls
variable {p : Program} {l : Launch} {e : Env} {R : Room} {s : State} {m : MethodId} {args : Array Value} {below : List Frame} {meth : Method} {c : Code} {T : State} {locs : List Loc} {cells slots : Nat}
theorem vx_callV (X : Stand p l e R s m args below meth c T locs cells slots) (hexec : p.tables.exec = Jvm.exec) {own C : String} {index : Nat} {y : MethodName} {bytes : ByteArray} {maxL : Nat} {ret : Option FieldType}
    (hown : s.vm.findClass own = some m.cls) (hlink : (Cond.methodLink own index y).before args s = true) (hinst : (Cond.instanceMethod y).before args s = true) (hsel : (Cond.selects C y y).before args s = true)
    (hcode : (Cond.code y bytes maxL ret).before args s = true) (hy : y.cls ≠ "java/lang/invoke/MethodHandle" ∧ y.cls ≠ "java/lang/invoke/VarHandle")
    {W9 : Nat} {Pre : Pt → Array Value → Prop} {Post : Pt → Array Value → Option Value → Pt → Prop} {PostX : Pt → Array Value → Addr → Pt → Prop} (hK : vx_Back l R p e below s args y 3 W9 Pre Post PostX)
    {b : Addr} {cellB : Cell} (hcell : T.heap[b]? = some cellB) (hobj : cellB.vm.isStatics = false) (hcls : s.vm.findClass C = some cellB.cls)
    {g : JFrame} (hg : g.method = m) (hsize : g.locals.size = c.maxLocals) {argsL rest : List Value} (hlen : ∀ sig, parseMethodDescriptor y.desc = some sig → argsL.length = sig.parameters.length)
    (hstack : g.stack = argsL.reverse ++ .ref b :: rest) (hW : 2 * g.monitorRoom + (rest.map fun v => v.category).sum ≤ W9) (hdg : decode c.code g.pc = .ok (.invokevirtual index, 3))
    (hpre : ∀ vm₁, s.WarmedH vm₁ → Pre ⟨T.setVm vm₁, locs, cells, slots⟩ (Value.ref b :: argsL).toArray) :
    (∃ (v : Option Value) (vm₁ : Vm) (B : Pt), s.WarmedH vm₁ ∧ Stand p l e R s m args below meth c B.U B.locs B.cells B.slots ∧ Post ⟨T.setVm vm₁, locs, cells, slots⟩ (Value.ref b :: argsL).toArray v B ∧
      ∀ target, Steps p.tables e below (B.U.setTop { g with pc := g.pc + 3, stack := v.toList ++ rest }) target → Steps p.tables e below (T.setTop g) target) ∨
    (∃ (q : Addr) (vm₁ : Vm) (B : Pt), s.WarmedH vm₁ ∧ Stand p l e R s m args below meth c B.U B.locs B.cells B.slots ∧ PostX ⟨T.setVm vm₁, locs, cells, slots⟩ (Value.ref b :: argsL).toArray q B ∧
      Steps p.tables e below (T.setTop g) ((B.U.setTop { g with stack := rest }).pushFrame (.throwing q))) := by
  obtain ⟨mk, methM, hnamed, hmethM, hstM, habM⟩ := Cond.instanceMethod_spec hinst
  obtain ⟨methM', cM, hmethM', -, -, -, -, -, -, hsigM⟩ := Cond.code_spec hnamed hcode
  cases hmethM.symm.trans hmethM'
  obtain ⟨c2, r2, m2, q1, q2, q3, q4, kP, hkP, hkPi⟩ := Cond.selects_spec hsel
  cases hcls.symm.trans q1
  cases (State.methodFound?_of_named hnamed hy).symm.trans q2
  cases hnamed.symm.trans q3
  have hselP : selectMethod e.platform s.vm cellB.cls mk = .method mk := by rw [Launch.admits_selectMethod X.admits]; exact q4
  obtain ⟨vm₁, X₁, hstep₁⟩ := X.invokevirtual hexec hown hlink hnamed hmethM hstM hkP hkPi hy (a := b) (cell := cellB) hcell
    (fun z h => by rw [h] at hobj; cases hobj) hselP hmethM habM hkP hkPi (g := g) hg (argsL := argsL) (rest := rest) (hlen _ hsigM) hstack hdg
  rcases hK m meth c ⟨T.setVm vm₁, locs, cells, slots⟩ { g with stack := rest } (.invokevirtual index) mk (Value.ref b :: argsL).toArray X₁ hg hsize hdg hW (X₁.named hnamed) (hpre vm₁ X₁.warmed) with ⟨v, B, X', hpost, hsteps⟩ | ⟨q, B, X', hpost, hsteps⟩
  · exact Or.inl ⟨v, vm₁, B, X₁.warmed, X', hpost, fun target h => hstep₁ _ fun acts => by rw [doInvoke_state]; exact hsteps.trans h⟩
  · exact Or.inr ⟨q, vm₁, B, X₁.warmed, X', hpost, hstep₁ _ fun acts => by rw [doInvoke_state]; exact hsteps⟩
theorem vx_callS (X : Stand p l e R s m args below meth c T locs cells slots) (hexec : p.tables.exec = Jvm.exec) {own : String} {index : Nat} {y : MethodName} {bytes : ByteArray} {maxL : Nat} {ret : Option FieldType}
    (hown : s.vm.findClass own = some m.cls) (hlink : (Cond.methodLink own index y).before args s = true) (hstat : (Cond.static y).before args s = true) (hinit : (Cond.initialized y.cls).before args s = true)
    (hcode : (Cond.code y bytes maxL ret).before args s = true) (hy : y.cls ≠ "java/lang/invoke/MethodHandle" ∧ y.cls ≠ "java/lang/invoke/VarHandle")
    {W9 : Nat} {Pre : Pt → Array Value → Prop} {Post : Pt → Array Value → Option Value → Pt → Prop} {PostX : Pt → Array Value → Addr → Pt → Prop} (hK : vx_Back l R p e below s args y 3 W9 Pre Post PostX)
    {g : JFrame} (hg : g.method = m) (hsize : g.locals.size = c.maxLocals) {argsL rest : List Value} (hlen : ∀ sig, parseMethodDescriptor y.desc = some sig → argsL.length = sig.parameters.length)
    (hstack : g.stack = argsL.reverse ++ rest) (hW : 2 * g.monitorRoom + (rest.map fun v => v.category).sum ≤ W9) (hdg : decode c.code g.pc = .ok (.invokestatic index, 3))
    (hpre : ∀ vm₁, s.WarmedH vm₁ → Pre ⟨T.setVm vm₁, locs, cells, slots⟩ argsL.toArray) :
    (∃ (v : Option Value) (vm₁ : Vm) (B : Pt), s.WarmedH vm₁ ∧ Stand p l e R s m args below meth c B.U B.locs B.cells B.slots ∧ Post ⟨T.setVm vm₁, locs, cells, slots⟩ argsL.toArray v B ∧
      ∀ target, Steps p.tables e below (B.U.setTop { g with pc := g.pc + 3, stack := v.toList ++ rest }) target → Steps p.tables e below (T.setTop g) target) ∨
    (∃ (q : Addr) (vm₁ : Vm) (B : Pt), s.WarmedH vm₁ ∧ Stand p l e R s m args below meth c B.U B.locs B.cells B.slots ∧ PostX ⟨T.setVm vm₁, locs, cells, slots⟩ argsL.toArray q B ∧
      Steps p.tables e below (T.setTop g) ((B.U.setTop { g with stack := rest }).pushFrame (.throwing q))) := by
  obtain ⟨mk, hnamed⟩ := Cond.code_named hcode
  obtain ⟨methM, cM, hmethM, -, -, -, -, -, -, hsigM⟩ := Cond.code_spec hnamed hcode
  have hstatic : methM.isStatic = true := Cond.static_spec hnamed hmethM hstat
  obtain ⟨kP, hkP, -⟩ := className_of_methodNamed hnamed
  have hinitP : kP.init = .initialized := Cond.initialized_spec (findClass_of_methodNamed hnamed) hkP hinit
  obtain ⟨vm₁, X₁, hstep₁⟩ := X.invokestatic hexec hown hlink hnamed hmethM hstatic hkP hinitP hy (g := g) hg (argsL := argsL) (rest := rest) (hlen _ hsigM) hstack hdg
  rcases hK m meth c ⟨T.setVm vm₁, locs, cells, slots⟩ { g with stack := rest } (.invokestatic index) mk argsL.toArray X₁ hg hsize hdg hW (X₁.named hnamed) (hpre vm₁ X₁.warmed) with ⟨v, B, X', hpost, hsteps⟩ | ⟨q, B, X', hpost, hsteps⟩
  · exact Or.inl ⟨v, vm₁, B, X₁.warmed, X', hpost, fun target h => hstep₁ _ fun acts => by rw [doInvoke_state]; exact hsteps.trans h⟩
  · exact Or.inr ⟨q, vm₁, B, X₁.warmed, X', hpost, hstep₁ _ fun acts => by rw [doInvoke_state]; exact hsteps⟩
end Calls
theorem vx_cls {s : State} {T : State} {vm₁ : Vm} {E : String} {k : ClassId} (hW : s.WarmedH vm₁) (h : (T.setVm vm₁).vm.findClass E = some k) : s.vm.findClass E = some k := by
  have h1 : vm₁.findClass E = some k := h
  rw [hW.alike.findClass] at h1
  exact h1
/-- the method's frame g, with q thrown over it -/
def vx_W (p : Program) (l : Launch) (e : Env) (R : Room) (s : State) (m : MethodId) (args : Array Value) (below : List Frame) (meth : Method) (c : Code) (H : Heap) (locs : List Loc) (cells slots : Nat) (Q : State → Prop) (g : JFrame) (q : Addr) : Prop :=
  ∀ T : State, T.heap = H → Stand p l e R s m args below meth c T locs cells slots → ∃ t, Steps p.tables e below ((T.setTop g).pushFrame (.throwing q)) t ∧ Q t
def vx_Run (p : Program) (l : Launch) (e : Env) (R : Room) (s : State) (m : MethodId) (args : Array Value) (below : List Frame) (meth : Method) (c : Code) (H : Heap) (locs : List Loc) (cells slots mc ms : Nat) (g : JFrame) (rest : List Value) (Qa : State → Outcome → State → Prop) (XC : String → State → State → Prop) (free : Addr → Prop) : Prop :=
  ∀ T : State, T.heap = H → Stand p l e R s m args below meth c T locs cells slots →
    (∃ (v : Option Value) (st₀ t T' : State) (L : List Loc), st₀.heap = H ∧ Stand p l e R s m args below meth c T' (locs ++ L) (cells + mc) (slots + ms) ∧ (∀ q ∈ L, free q.base) ∧ T'.heap = t.heap ∧ T'.vm = t.vm ∧ Qa st₀ (.returned v) t ∧
      Goes p e below T g T' { g with pc := g.pc + 3, stack := v.toList ++ rest }) ∨
    (∃ (q : Addr) (st₀ t T' : State) (L : List Loc) (E : String) (ce : Cell), st₀.heap = H ∧ Stand p l e R s m args below meth c T' (locs ++ L) (cells + mc) (slots + ms) ∧ (∀ z ∈ L, free z.base) ∧ T'.heap = t.heap ∧ T'.vm = t.vm ∧ XC E st₀ t ∧ t.heap[q]? = some ce ∧ ce.vm = .none ∧ s.vm.findClass E = some ce.cls ∧
      Steps p.tables e below (T.setTop g) ((T'.setTop { g with stack := rest }).pushFrame (.throwing q)))
def vx_X {S : Type} (px : S → Prop) (B : String → S → State → Prop) (A : Nat → Prop) : String → State → State → Prop := fun E st t => ∃ u : S, px u ∧ B E u t ∧ va_F A st t
section Runs
variable {p : Program} {l : Launch} {e : Env} {R : Room} {s : State} {m : MethodId} {args : Array Value} {below : List Frame} {meth : Method} {c : Code} {H : Heap} {locs : List Loc} {cells slots : Nat}
variable {y : MethodName} {bytes cc : ByteArray} {maxL nL mc ms n index : Nat} {ret : Option FieldType} {ws : List Cond} {rm : Room} {Pc : Array Value → State → Prop} {Qc : Array Value → State → Outcome → State → Prop} {XC : String → State → State → Prop} {free : Addr → Prop} {Ts : List Cond} {own C : String} {b : Addr} {As rest : List Value} {g : JFrame}
theorem vx_callBack (cb : CallB R s args own index y bytes maxL ret ws rm mc ms n) (hM : vx_Met l y ws rm Pc Qc XC mc ms free) (hbl : FrameBlind Pc) : vx_Back l R p e below s args y 3 8 (PreOf R mc ms Pc) (PostOf Qc mc ms free) (vx_Post XC mc ms free) := by
  obtain ⟨hrc, hrs, hfr, hlo, hws, hcw, -, hini, -⟩ := cb
  exact vx_back (bytes := bytes) (maxL := maxL) (ret := ret) hM hbl hrc hrs hfr hlo hws hcw (fun a' U hW => word_at hW (Or.inl (by first | rfl | simp [Cond.onTables, Cond.keeps, Cond.steady])) hini)
theorem vx_runV (S : CallFix p m c cc nL s args Ts own) (hM : vx_Met l y ws rm Pc Qc XC mc ms free) (cw : CallW R s args own C index y bytes maxL ret ws rm mc ms n) (hp : PreV s H C b Pc As)
    (hg : g.method = m) (hn : As.length = n) (hsize : g.locals.size = nL) (hstack : g.stack = As.reverse ++ .ref b :: rest) (hW : 2 * g.monitorRoom + (rest.map fun v => v.category).sum ≤ 8) (hdg : decode cc g.pc = .ok (.invokevirtual index, 3)) (hf : cells + mc ≤ R.cells ∧ slots + ms ≤ R.slots) :
    vx_Run p l e R s m args below meth c H locs cells slots mc ms g rest (Qc (Value.ref b :: As).toArray) XC free := by
  have hK : vx_Back l R p e below s args y 3 8 (PreOf R mc ms Pc) (PostOf Qc mc ms free) (vx_Post XC mc ms free) := vx_callBack cw.1 hM hp.1
  obtain ⟨⟨-, -, -, -, -, -, hcode, -, hy, hlen, hl⟩, hin, hse⟩ := cw
  obtain ⟨hx, hb, hml, ho, -⟩ := S
  obtain ⟨-, ⟨cellB, hcB, hoB, hclB⟩, hPc⟩ := hp
  intro T hT X
  rcases vx_callV X hx (C := C) (bytes := bytes) (maxL := maxL) (ret := ret) ho hl hin hse hcode hy hK (by rw [hT]; exact hcB) hoB hclB hg (hsize.trans hml.symm) (argsL := As) (rest := rest) (fun sig h => hn.trans (hlen sig h)) hstack hW (by rw [hb]; exact hdg)
    (fun vm₁ hW₁ => ⟨hf.1, hf.2, hPc (T.setVm vm₁) hT hW₁⟩) with ⟨v, vm₁, ⟨U', l2, c2, s2⟩, hW₁, X', ⟨g', mk, t, L, e1, e2, hq, h1, hL, h2, h3⟩, st⟩ | ⟨q, vm₁, ⟨U', l2, c2, s2⟩, hW₁, X', ⟨g', mk, t, L, E, ce, e1, e2, hq, hce, hcv, hcl, h1, hL, h2, h3⟩, st⟩
  · dsimp only [Pt.U, Pt.locs, Pt.cells, Pt.slots] at X' e1 e2 h1 h2 h3 st
    subst h1; subst h2; subst h3
    exact Or.inl ⟨v, (T.setVm vm₁).calling g' mk (Value.ref b :: As).toArray, t, U', L, hT, X', hL, e1, e2, hq, st⟩
  · dsimp only [Pt.U, Pt.locs, Pt.cells, Pt.slots] at X' e1 e2 h1 h2 h3 st hcl
    subst h1; subst h2; subst h3
    exact Or.inr ⟨q, (T.setVm vm₁).calling g' mk (Value.ref b :: As).toArray, t, U', L, E, ce, hT, X', hL, e1, e2, hq, hce, hcv, vx_cls hW₁ hcl, st⟩
theorem vx_runS (S : CallFix p m c cc nL s args Ts own) (hM : vx_Met l y ws rm Pc Qc XC mc ms free) (cw : CallB R s args own index y bytes maxL ret ws rm mc ms n ∧ (Cond.static y).before args s = true) (hp : PreS s H Pc As)
    (hg : g.method = m) (hn : As.length = n) (hsize : g.locals.size = nL) (hstack : g.stack = As.reverse ++ rest) (hW : 2 * g.monitorRoom + (rest.map fun v => v.category).sum ≤ 8) (hdg : decode cc g.pc = .ok (.invokestatic index, 3)) (hf : cells + mc ≤ R.cells ∧ slots + ms ≤ R.slots) :
    vx_Run p l e R s m args below meth c H locs cells slots mc ms g rest (Qc As.toArray) XC free := by
  have hK : vx_Back l R p e below s args y 3 8 (PreOf R mc ms Pc) (PostOf Qc mc ms free) (vx_Post XC mc ms free) := vx_callBack cw.1 hM hp.1
  obtain ⟨⟨-, -, -, -, -, -, hcode, hini, hy, hlen, hl⟩, hstt⟩ := cw
  obtain ⟨hx, hb, hml, ho, -⟩ := S
  intro T hT X
  rcases vx_callS X hx (bytes := bytes) (maxL := maxL) (ret := ret) ho hl hstt hini hcode hy hK hg (hsize.trans hml.symm) (argsL := As) (rest := rest) (fun sig h => hn.trans (hlen sig h)) hstack hW (by rw [hb]; exact hdg)
    (fun vm₁ hW₁ => ⟨hf.1, hf.2, hp.2 (T.setVm vm₁) hT hW₁⟩) with ⟨v, vm₁, ⟨U', l2, c2, s2⟩, hW₁, X', ⟨g', mk, t, L, e1, e2, hq, h1, hL, h2, h3⟩, st⟩ | ⟨q, vm₁, ⟨U', l2, c2, s2⟩, hW₁, X', ⟨g', mk, t, L, E, ce, e1, e2, hq, hce, hcv, hcl, h1, hL, h2, h3⟩, st⟩
  · dsimp only [Pt.U, Pt.locs, Pt.cells, Pt.slots] at X' e1 e2 h1 h2 h3 st
    subst h1; subst h2; subst h3
    exact Or.inl ⟨v, (T.setVm vm₁).calling g' mk As.toArray, t, U', L, hT, X', hL, e1, e2, hq, st⟩
  · dsimp only [Pt.U, Pt.locs, Pt.cells, Pt.slots] at X' e1 e2 h1 h2 h3 st hcl
    subst h1; subst h2; subst h3
    exact Or.inr ⟨q, (T.setVm vm₁).calling g' mk As.toArray, t, U', L, E, ce, hT, X', hL, e1, e2, hq, hce, hcv, vx_cls hW₁ hcl, st⟩
end Runs
section Rows
variable {p : Program} {l : Launch} {e : Env} {R : Room} {s : State} {m : MethodId} {args : Array Value} {below : List Frame} {meth : Method} {c : Code} {H : Heap} {locs : List Loc} {cells slots : Nat} {Q : State → Prop}
variable {mc ms : Nat} {free : Addr → Prop} {A0 A1 : Nat → Prop} {H0 : Heap} {a : Array Value} {pc : Nat} {ls : Array Slot} {st0 rest : List Value}
theorem vx_keep {st₀ t T' : State} {L : List Loc} (h0 : st₀.heap = H) (e1 : T'.heap = t.heap) (hS : va_S A0 H0 H locs) (hA : ∀ q, q < H.size → A1 q → A0 q) (hf : ∀ q, free q → A0 q) (hL : ∀ q ∈ L, free q.base) (hF : va_F A1 st₀ t) :
    H.size ≤ T'.heap.size ∧ (∀ q : Nat, q < H.size → ¬ A1 q → T'.heap[q]? = H[q]?) ∧ va_S A0 H0 T'.heap (locs ++ L) := by
  obtain ⟨hz, hk⟩ := hF
  rw [h0] at hz hk
  exact ⟨by rw [e1]; exact hz, fun q h1 h2 => by rw [e1]; exact hk q h1 h2,
    ⟨Nat.le_trans hS.1 (by rw [e1]; exact hz), fun q h1 h2 => by rw [e1, hk q (Nat.lt_of_lt_of_le h1 hS.1) (fun z => h2 (hA q (Nat.lt_of_lt_of_le h1 hS.1) z))]; exact hS.2.1 q h1 h2, fun q hq => by
      rcases List.mem_append.mp hq with h | h
      · exact hS.2.2 q h
      · exact hf _ (hL q h)⟩⟩
theorem vx_calli {S SX : Type} {post : Int32 → S → Prop} {px : SX → Prop} {B : S → State → Prop} {BX : String → SX → State → Prop} {AX : Nat → Prop} (hr : vx_Run p l e R s m args below meth c H locs cells slots mc ms (F0 m pc ls st0) rest (va_Qi post B A1 a) (vx_X px BX AX) free) (hS : va_S A0 H0 H locs) (hA : ∀ q, q < H.size → A1 q → A0 q) (hf : ∀ q, free q → A0 q) (hAX : ∀ q, q < H.size → AX q → A0 q)
    (kx : ∀ (E : String) (ce : Cell) (q9 : Addr) (u : SX) (t : State) (H1 : Heap) (locs1 : List Loc), t.heap = H1 → s.vm.Alike t.vm → px u → BX E u t → H.size ≤ H1.size → (∀ q : Nat, q < H.size → ¬ AX q → H1[q]? = H[q]?) → va_S A0 H0 H1 locs1 → H1[q9]? = some ce → ce.vm = .none → s.vm.findClass E = some ce.cls → vx_W p l e R s m args below meth c H1 locs1 (cells + mc) (slots + ms) Q (F0 m pc ls rest) q9)
    (kk : ∀ (r : Int32) (u : S) (t : State) (H1 : Heap) (locs1 : List Loc), t.heap = H1 → s.vm.Alike t.vm → post r u → B u t → H.size ≤ H1.size → (∀ q : Nat, q < H.size → ¬ A1 q → H1[q]? = H[q]?) → va_S A0 H0 H1 locs1 → W p l e R s m args below meth c H1 locs1 (cells + mc) (slots + ms) Q (F0 m (pc + 3) ls (.int r :: rest))) : W p l e R s m args below meth c H locs cells slots Q (F0 m pc ls st0) := by
  intro T hT X
  rcases hr T hT X with ⟨v, st₀, t, T', L, h0, X', hL, e1, e2, ⟨⟨r, u, hv, hp, hb⟩, hF⟩, st⟩ | ⟨q, st₀, t, T', L, E, ce, h0, X', hL, e1, e2, ⟨u, hp, hb, hF⟩, hce, hcv, hcl, st⟩
  · cases hv
    obtain ⟨k1, k2, k3⟩ := vx_keep h0 e1 hS hA hf hL hF
    obtain ⟨t2, a1, b1⟩ := kk r u t T'.heap (locs ++ L) e1.symm (by rw [← e2]; exact X'.warmed.alike) hp hb k1 k2 k3 T' rfl X'
    exact ⟨t2, st t2 a1, b1⟩
  · obtain ⟨k1, k2, k3⟩ := vx_keep h0 e1 hS hAX hf hL hF
    obtain ⟨t2, a1, b1⟩ := kx E ce q u t T'.heap (locs ++ L) e1.symm (by rw [← e2]; exact X'.warmed.alike) hp hb k1 k2 k3 (by rw [e1]; exact hce) hcv hcl T' rfl X'
    exact ⟨t2, st.trans a1, b1⟩
theorem vx_calll {S SX : Type} {post : Int64 → S → Prop} {px : SX → Prop} {B : S → State → Prop} {BX : String → SX → State → Prop} {AX : Nat → Prop} (hr : vx_Run p l e R s m args below meth c H locs cells slots mc ms (F0 m pc ls st0) rest (va_Ql post B A1 a) (vx_X px BX AX) free) (hS : va_S A0 H0 H locs) (hA : ∀ q, q < H.size → A1 q → A0 q) (hf : ∀ q, free q → A0 q) (hAX : ∀ q, q < H.size → AX q → A0 q)
    (kx : ∀ (E : String) (ce : Cell) (q9 : Addr) (u : SX) (t : State) (H1 : Heap) (locs1 : List Loc), t.heap = H1 → s.vm.Alike t.vm → px u → BX E u t → H.size ≤ H1.size → (∀ q : Nat, q < H.size → ¬ AX q → H1[q]? = H[q]?) → va_S A0 H0 H1 locs1 → H1[q9]? = some ce → ce.vm = .none → s.vm.findClass E = some ce.cls → vx_W p l e R s m args below meth c H1 locs1 (cells + mc) (slots + ms) Q (F0 m pc ls rest) q9)
    (kk : ∀ (r : Int64) (u : S) (t : State) (H1 : Heap) (locs1 : List Loc), t.heap = H1 → s.vm.Alike t.vm → post r u → B u t → H.size ≤ H1.size → (∀ q : Nat, q < H.size → ¬ A1 q → H1[q]? = H[q]?) → va_S A0 H0 H1 locs1 → W p l e R s m args below meth c H1 locs1 (cells + mc) (slots + ms) Q (F0 m (pc + 3) ls (.long r :: rest))) : W p l e R s m args below meth c H locs cells slots Q (F0 m pc ls st0) := by
  intro T hT X
  rcases hr T hT X with ⟨v, st₀, t, T', L, h0, X', hL, e1, e2, ⟨⟨r, u, hv, hp, hb⟩, hF⟩, st⟩ | ⟨q, st₀, t, T', L, E, ce, h0, X', hL, e1, e2, ⟨u, hp, hb, hF⟩, hce, hcv, hcl, st⟩
  · cases hv
    obtain ⟨k1, k2, k3⟩ := vx_keep h0 e1 hS hA hf hL hF
    obtain ⟨t2, a1, b1⟩ := kk r u t T'.heap (locs ++ L) e1.symm (by rw [← e2]; exact X'.warmed.alike) hp hb k1 k2 k3 T' rfl X'
    exact ⟨t2, st t2 a1, b1⟩
  · obtain ⟨k1, k2, k3⟩ := vx_keep h0 e1 hS hAX hf hL hF
    obtain ⟨t2, a1, b1⟩ := kx E ce q u t T'.heap (locs ++ L) e1.symm (by rw [← e2]; exact X'.warmed.alike) hp hb k1 k2 k3 (by rw [e1]; exact hce) hcv hcl T' rfl X'
    exact ⟨t2, st.trans a1, b1⟩
theorem vx_callf {S SX : Type} {post : UInt32 → S → Prop} {px : SX → Prop} {B : S → State → Prop} {BX : String → SX → State → Prop} {AX : Nat → Prop} (hr : vx_Run p l e R s m args below meth c H locs cells slots mc ms (F0 m pc ls st0) rest (va_Qf post B A1 a) (vx_X px BX AX) free) (hS : va_S A0 H0 H locs) (hA : ∀ q, q < H.size → A1 q → A0 q) (hf : ∀ q, free q → A0 q) (hAX : ∀ q, q < H.size → AX q → A0 q)
    (kx : ∀ (E : String) (ce : Cell) (q9 : Addr) (u : SX) (t : State) (H1 : Heap) (locs1 : List Loc), t.heap = H1 → s.vm.Alike t.vm → px u → BX E u t → H.size ≤ H1.size → (∀ q : Nat, q < H.size → ¬ AX q → H1[q]? = H[q]?) → va_S A0 H0 H1 locs1 → H1[q9]? = some ce → ce.vm = .none → s.vm.findClass E = some ce.cls → vx_W p l e R s m args below meth c H1 locs1 (cells + mc) (slots + ms) Q (F0 m pc ls rest) q9)
    (kk : ∀ (r : UInt32) (u : S) (t : State) (H1 : Heap) (locs1 : List Loc), t.heap = H1 → s.vm.Alike t.vm → post r u → B u t → H.size ≤ H1.size → (∀ q : Nat, q < H.size → ¬ A1 q → H1[q]? = H[q]?) → va_S A0 H0 H1 locs1 → W p l e R s m args below meth c H1 locs1 (cells + mc) (slots + ms) Q (F0 m (pc + 3) ls (.float r :: rest))) : W p l e R s m args below meth c H locs cells slots Q (F0 m pc ls st0) := by
  intro T hT X
  rcases hr T hT X with ⟨v, st₀, t, T', L, h0, X', hL, e1, e2, ⟨⟨r, u, hv, hp, hb⟩, hF⟩, st⟩ | ⟨q, st₀, t, T', L, E, ce, h0, X', hL, e1, e2, ⟨u, hp, hb, hF⟩, hce, hcv, hcl, st⟩
  · cases hv
    obtain ⟨k1, k2, k3⟩ := vx_keep h0 e1 hS hA hf hL hF
    obtain ⟨t2, a1, b1⟩ := kk r u t T'.heap (locs ++ L) e1.symm (by rw [← e2]; exact X'.warmed.alike) hp hb k1 k2 k3 T' rfl X'
    exact ⟨t2, st t2 a1, b1⟩
  · obtain ⟨k1, k2, k3⟩ := vx_keep h0 e1 hS hAX hf hL hF
    obtain ⟨t2, a1, b1⟩ := kx E ce q u t T'.heap (locs ++ L) e1.symm (by rw [← e2]; exact X'.warmed.alike) hp hb k1 k2 k3 (by rw [e1]; exact hce) hcv hcl T' rfl X'
    exact ⟨t2, st.trans a1, b1⟩
theorem vx_calld {S SX : Type} {post : UInt64 → S → Prop} {px : SX → Prop} {B : S → State → Prop} {BX : String → SX → State → Prop} {AX : Nat → Prop} (hr : vx_Run p l e R s m args below meth c H locs cells slots mc ms (F0 m pc ls st0) rest (va_Qd post B A1 a) (vx_X px BX AX) free) (hS : va_S A0 H0 H locs) (hA : ∀ q, q < H.size → A1 q → A0 q) (hf : ∀ q, free q → A0 q) (hAX : ∀ q, q < H.size → AX q → A0 q)
    (kx : ∀ (E : String) (ce : Cell) (q9 : Addr) (u : SX) (t : State) (H1 : Heap) (locs1 : List Loc), t.heap = H1 → s.vm.Alike t.vm → px u → BX E u t → H.size ≤ H1.size → (∀ q : Nat, q < H.size → ¬ AX q → H1[q]? = H[q]?) → va_S A0 H0 H1 locs1 → H1[q9]? = some ce → ce.vm = .none → s.vm.findClass E = some ce.cls → vx_W p l e R s m args below meth c H1 locs1 (cells + mc) (slots + ms) Q (F0 m pc ls rest) q9)
    (kk : ∀ (r : UInt64) (u : S) (t : State) (H1 : Heap) (locs1 : List Loc), t.heap = H1 → s.vm.Alike t.vm → post r u → B u t → H.size ≤ H1.size → (∀ q : Nat, q < H.size → ¬ A1 q → H1[q]? = H[q]?) → va_S A0 H0 H1 locs1 → W p l e R s m args below meth c H1 locs1 (cells + mc) (slots + ms) Q (F0 m (pc + 3) ls (.double r :: rest))) : W p l e R s m args below meth c H locs cells slots Q (F0 m pc ls st0) := by
  intro T hT X
  rcases hr T hT X with ⟨v, st₀, t, T', L, h0, X', hL, e1, e2, ⟨⟨r, u, hv, hp, hb⟩, hF⟩, st⟩ | ⟨q, st₀, t, T', L, E, ce, h0, X', hL, e1, e2, ⟨u, hp, hb, hF⟩, hce, hcv, hcl, st⟩
  · cases hv
    obtain ⟨k1, k2, k3⟩ := vx_keep h0 e1 hS hA hf hL hF
    obtain ⟨t2, a1, b1⟩ := kk r u t T'.heap (locs ++ L) e1.symm (by rw [← e2]; exact X'.warmed.alike) hp hb k1 k2 k3 T' rfl X'
    exact ⟨t2, st t2 a1, b1⟩
  · obtain ⟨k1, k2, k3⟩ := vx_keep h0 e1 hS hAX hf hL hF
    obtain ⟨t2, a1, b1⟩ := kx E ce q u t T'.heap (locs ++ L) e1.symm (by rw [← e2]; exact X'.warmed.alike) hp hb k1 k2 k3 (by rw [e1]; exact hce) hcv hcl T' rfl X'
    exact ⟨t2, st.trans a1, b1⟩
theorem vx_callv {S SX : Type} {post : S → Prop} {px : SX → Prop} {B : S → State → Prop} {BX : String → SX → State → Prop} {AX : Nat → Prop} (hr : vx_Run p l e R s m args below meth c H locs cells slots mc ms (F0 m pc ls st0) rest (va_Qv post B A1 a) (vx_X px BX AX) free) (hS : va_S A0 H0 H locs) (hA : ∀ q, q < H.size → A1 q → A0 q) (hf : ∀ q, free q → A0 q) (hAX : ∀ q, q < H.size → AX q → A0 q)
    (kx : ∀ (E : String) (ce : Cell) (q9 : Addr) (u : SX) (t : State) (H1 : Heap) (locs1 : List Loc), t.heap = H1 → s.vm.Alike t.vm → px u → BX E u t → H.size ≤ H1.size → (∀ q : Nat, q < H.size → ¬ AX q → H1[q]? = H[q]?) → va_S A0 H0 H1 locs1 → H1[q9]? = some ce → ce.vm = .none → s.vm.findClass E = some ce.cls → vx_W p l e R s m args below meth c H1 locs1 (cells + mc) (slots + ms) Q (F0 m pc ls rest) q9)
    (kk : ∀ (u : S) (t : State) (H1 : Heap) (locs1 : List Loc), t.heap = H1 → s.vm.Alike t.vm → post u → B u t → H.size ≤ H1.size → (∀ q : Nat, q < H.size → ¬ A1 q → H1[q]? = H[q]?) → va_S A0 H0 H1 locs1 → W p l e R s m args below meth c H1 locs1 (cells + mc) (slots + ms) Q (F0 m (pc + 3) ls (rest))) : W p l e R s m args below meth c H locs cells slots Q (F0 m pc ls st0) := by
  intro T hT X
  rcases hr T hT X with ⟨v, st₀, t, T', L, h0, X', hL, e1, e2, ⟨⟨u, hv, hp, hb⟩, hF⟩, st⟩ | ⟨q, st₀, t, T', L, E, ce, h0, X', hL, e1, e2, ⟨u, hp, hb, hF⟩, hce, hcv, hcl, st⟩
  · cases hv
    obtain ⟨k1, k2, k3⟩ := vx_keep h0 e1 hS hA hf hL hF
    obtain ⟨t2, a1, b1⟩ := kk u t T'.heap (locs ++ L) e1.symm (by rw [← e2]; exact X'.warmed.alike) hp hb k1 k2 k3 T' rfl X'
    exact ⟨t2, st t2 a1, b1⟩
  · obtain ⟨k1, k2, k3⟩ := vx_keep h0 e1 hS hAX hf hL hF
    obtain ⟨t2, a1, b1⟩ := kx E ce q u t T'.heap (locs ++ L) e1.symm (by rw [← e2]; exact X'.warmed.alike) hp hb k1 k2 k3 (by rw [e1]; exact hce) hcv hcl T' rfl X'
    exact ⟨t2, st.trans a1, b1⟩
/-- caught by the row x of this method's table; the rows ahead don't take it -/
theorem vx_catch {own name : String} {E : String} {ce : Cell} {q : Addr} (hown : s.vm.findClass own = some m.cls) (pre : List ExceptionTableEntry) (x : ExceptionTableEntry) (suf : List ExceptionTableEntry) (hsplit : c.exceptionTable.toList = pre ++ x :: suf)
    (hpass : ∀ z ∈ pre, covers z pc = false ∨ (z.catchType ≠ 0 ∧ ∃ nm : String, (Cond.classLink own z.catchType nm).before args s = true ∧ va_Nc E nm s)) (hx : covers x pc = true) (h0 : x.catchType ≠ 0)
    (hlink : (Cond.classLink own x.catchType name).before args s = true) (hcast : (Cond.castable E name).before args s = true) (hcell : H[q]? = some ce) (hv : ce.vm = .none) (hcl : s.vm.findClass E = some ce.cls)
    (kk : W p l e R s m args below meth c H locs cells slots Q (F0 m x.handlerPc ls [.ref q])) : vx_W p l e R s m args below meth c H locs cells slots Q (F0 m pc ls rest) q := by
  intro T hT X
  have hpl : e.platform.magicAccessors = ({} : Platform).magicAccessors := by rw [X.admits.platform]
  obtain ⟨c3, c4, hc3, hc4, hasg⟩ := Cond.castable_spec hcast
  cases Option.some.inj (hc3.symm.trans hcl)
  obtain ⟨c5, hc5, hcl5⟩ := Cond.classLink_spec hown hlink e.platform hpl
  cases Option.some.inj (hc4.symm.trans hc5)
  obtain ⟨vm', X', st⟩ := X.thenCaughtThrough q (g := F0 m pc ls rest) rfl (Steps.refl _) (by rw [hT]; exact hcell) (by rw [hv]; rfl) (by obtain ⟨k9, h9, -⟩ := Vm.findClass_spec hcl; exact ⟨k9, h9⟩) pre x suf hsplit
    (fun z hz => by
      rcases hpass z hz with h | ⟨hz0, nm, hl1, hn1⟩
      · exact Or.inl h
      · obtain ⟨c6, hc6, hcl6⟩ := Cond.classLink_spec hown hl1 e.platform hpl
        obtain ⟨a8, b8, h1, h2, h3⟩ := hn1
        cases Option.some.inj (h1.symm.trans hcl)
        cases Option.some.inj (h2.symm.trans hc6)
        exact Or.inr ⟨hz0, _, hcl6, h3⟩) hx (Or.inr ⟨h0, c4, hcl5, hasg⟩)
  obtain ⟨t, a1, b1⟩ := kk (T.setVm vm') hT X'
  exact ⟨t, st.trans a1, b1⟩
end Rows
section Ends
variable {p : Program} {l : Launch} {e : Env} {R : Room} {s : State} {m : MethodId} {args : Array Value} {below : List Frame} {meth : Method} {c : Code} {H : Heap} {locs : List Loc} {cells slots : Nat} {Q : State → Prop}
variable {mc ms : Nat} {free : Addr → Prop} {A0 A1 : Nat → Prop} {H0 : Heap} {a : Array Value} {ls : Array Slot} {st0 rest : List Value}
variable {Qc : Array Value → State → Outcome → State → Prop} {XC : String → State → State → Prop}
/-- what a body that may throw owes at its end -/
def vx_MQ (below : List Frame) (Qc : Array Value → State → Outcome → State → Prop) (XC : String → State → State → Prop) (a : Array Value) (s : State) (mc ms : Nat) (free : Addr → Prop) : State → Prop := fun t =>
  ∃ o, t.status = .running ∧ Ended t below o ∧ vx_Q Qc XC mc ms free a s o t
theorem vx_ret {g : JFrame} {mc ms : Nat} (k : W p l e R s m args below meth c H locs cells slots (MQ below Qc args s mc ms free) g) : W p l e R s m args below meth c H locs cells slots (vx_MQ below Qc XC args s mc ms free) g := by
  intro T hT X
  obtain ⟨t, a1, o, b1, b2, b3, b4⟩ := k T hT X
  exact ⟨t, a1, o, b1, b2, Or.inl ⟨b3, b4⟩⟩
/-- not caught here: it goes on to the caller -/
theorem vx_widen {g : JFrame} {q : Addr} {k n : Nat} (h1 : cells ≤ k) (h2 : slots ≤ n) (kk : vx_W p l e R s m args below meth c H locs k n Q g q) : vx_W p l e R s m args below meth c H locs cells slots Q g q := fun T hT X => kk T hT (stand_widen X h1 h2)
theorem vx_out {pc : Nat} {E : String} {ce : Cell} {q : Addr} {mc ms : Nat} (hout : ∀ x ∈ c.exceptionTable.toList, covers x pc = false) (hlocks : meth.locks = false) (hcell : H[q]? = some ce) (hv : ce.vm = .none) (hcl : s.vm.findClass E = some ce.cls)
    (hx : ∀ t : State, t.heap = H → s.vm.Alike t.vm → XC E s t) (hf : ∀ z ∈ locs, free z.base) (hc : cells ≤ mc) (hs : slots ≤ ms) :
    vx_W p l e R s m args below meth c H locs cells slots (vx_MQ below Qc XC args s mc ms free) (F0 m pc ls rest) q := by
  intro T hT X
  obtain ⟨st1, hrun, hend, hW, hsm⟩ := X.leaveThrown q (g := F0 m pc ls rest) rfl rfl rfl hout hlocks
  have hcell9 : (T.setFrames (.throwing q :: below)).heap[q]? = some ce := by
    show T.heap[q]? = some ce
    rw [hT]; exact hcell
  exact ⟨_, st1, .threw q, hrun, hend, Or.inr ⟨q, rfl, E, ce, locs, hx _ hT hW.alike, hcell9, hv, hcl, hW, hsm.mono hc hs, hf⟩⟩
theorem vx_frame {U : State} {k n : Nat} (h : s.sameButNew ({ U with vm := s.vm } : State) locs k n) : s.heap.size ≤ U.heap.size ∧ ∀ q : Nat, q < s.heap.size → (∀ z ∈ locs, z.base ≠ q) → U.heap[q]? = s.heap[q]? := by
  obtain ⟨-, h2, -, -, -, h6⟩ := h
  refine ⟨h2, fun q hq hz => ?_⟩
  obtain ⟨c9, e1, e2, e3, e4⟩ := h6 q _ (Array.getElem?_eq_getElem hq)
  have hs : c9.slots = (s.heap[q]).slots := Array.ext_getElem? fun i => e4 i fun hm => hz _ hm rfl
  have h9 : c9 = s.heap[q] := by
    rw [hs] at e2
    exact e2
  have e5 : U.heap[q]? = some c9 := e1
  rw [e5, h9, Array.getElem?_eq_getElem hq]
/-- the words of a throw but the four that speak of the heap -/
def vx_no (w : Cond) : Bool := decide (w ≠ .isRef (.static Bundle.tN "UNASSIGNED_STACK" Bundle.steD)) && decide (w ≠ .isRef (.static Bundle.tN "SUPPRESSED_SENTINEL" Bundle.listD)) && decide (w ≠ .laysStatic Bundle.tN "UNASSIGNED_STACK" Bundle.steD) && decide (w ≠ .laysStatic Bundle.tN "SUPPRESSED_SENTINEL" Bundle.listD)
def vx_at0 (own : String) (ic : Nat) (X : String) (names : List String) : List Cond := (Bundle.ownAtoms0 own ic X names).filter vx_no
def vx_atS (own : String) (ic : Nat) (X : String) (names : List String) : List Cond := (Bundle.ownAtoms own ic X names).filter vx_no
/-- a word that the tables alone decide, or a good one -/
def vx_ot (w : Cond) : Bool := w.onTables || goodWord w
theorem vx_ot_at {args a' : Array Value} {s U : State} {w : Cond} (hW : s.WarmedH U.vm) (hvm : s.vm = U.vm) (hg : vx_ot w = true) (h : w.before args s = true) : w.before a' U = true := by
  simp only [vx_ot, Bool.or_eq_true] at hg
  rcases hg with hg | hg
  · exact va_tabs hg hvm h
  · exact word_at hW (good_of_word hg) h
/-- a list's words: the good ones out of the method's own list, the others by premises of their own -/
theorem vx_hat {args : Array Value} {s : State} {L B : List Cond} (h1 : ∀ w ∈ L.filter goodWord, w.before args s = true) (h2 : ∀ w ∈ L.filter (fun w => !goodWord w), w ∈ B) (h3 : ∀ w ∈ B, w.before args s = true) : ∀ w ∈ L, w.before args s = true := by
  intro w hw
  by_cases g : goodWord w = true
  · exact h1 w (List.mem_filter.mpr ⟨hw, g⟩)
  · refine h3 w (h2 w (List.mem_filter.mpr ⟨hw, ?_⟩))
    show (!goodWord w) = true
    cases hgw : goodWord w
    · rfl
    · exact absurd hgw g
theorem vx_c {args : Array Value} {s : State} {w : Cond} {B : List Cond} (h : w.before args s = true) (t : ∀ w ∈ B, w.before args s = true) : ∀ w' ∈ w :: B, w'.before args s = true := fun w' h' => (List.mem_cons.mp h').elim (fun e => by rw [e]; exact h) (t w')
theorem vx_n {args : Array Value} {s : State} : ∀ w ∈ ([] : List Cond), w.before args s = true := fun _ h => nomatch h
theorem vx_own {args : Array Value} {s : State} {L : List Cond} (h1 : ∀ w ∈ L.filter vx_no, w.before args s = true)
    (hU : (Cond.isRef (.static Bundle.tN "UNASSIGNED_STACK" Bundle.steD)).before args s = true) (hN : (Cond.isRef (.static Bundle.tN "SUPPRESSED_SENTINEL" Bundle.listD)).before args s = true)
    (lU : (Cond.laysStatic Bundle.tN "UNASSIGNED_STACK" Bundle.steD).before args s = true) (lN : (Cond.laysStatic Bundle.tN "SUPPRESSED_SENTINEL" Bundle.listD).before args s = true) : ∀ w ∈ L, w.before args s = true := by
  intro w hw
  by_cases e1 : w = .isRef (.static Bundle.tN "UNASSIGNED_STACK" Bundle.steD)
  · rw [e1]; exact hU
  · by_cases e2 : w = .isRef (.static Bundle.tN "SUPPRESSED_SENTINEL" Bundle.listD)
    · rw [e2]; exact hN
    · by_cases e3 : w = .laysStatic Bundle.tN "UNASSIGNED_STACK" Bundle.steD
      · rw [e3]; exact lU
      · by_cases e4 : w = .laysStatic Bundle.tN "SUPPRESSED_SENTINEL" Bundle.listD
        · rw [e4]; exact lN
        · exact h1 w (List.mem_filter.mpr ⟨hw, by unfold vx_no; rw [decide_eq_true e1, decide_eq_true e2, decide_eq_true e3, decide_eq_true e4]; rfl⟩)
/-- where a static field lies, its class's statics cell in H -/
def vx_L (C n d : String) (A : Nat → Prop) (U : State) (H : Heap) : Prop := ∃ (c : ClassId) (k : Class) (i : Nat) (f : Field) (a : Nat) (cell : Cell), U.vm.findClass C = some c ∧ U.fieldFound? C n d = some (c, k, i, f) ∧ f.isStatic = true ∧ k.statics = some a ∧ H[a]? = some cell ∧ cell.vm.isStatics = true ∧ cell.cls = c ∧ f.slot < cell.slots.size ∧ k.staticTypes[f.slot]? = some f.type ∧ ¬ A a
theorem vx_L.moved {C n d : String} {A : Nat → Prop} {u U : State} {H : Heap} (hvm : u.vm.Alike U.vm) (h : vx_L C n d A u H) : vx_L C n d A U H := by
  obtain ⟨c, k, i, f, a, cell, h1, h2, h3, h4, h5, h6, h7, h8, h9, h10⟩ := h
  obtain ⟨k', hi', he⟩ := State.fieldFound?_setVm hvm h2
  exact ⟨c, k', i, f, a, cell, by rw [hvm.findClass]; exact h1, hi', h3, by rw [he]; exact h4, h5, h6, h7, h8, by rw [he]; exact h9, h10⟩
theorem vx_L.kept {C n d : String} {A : Nat → Prop} {U : State} {H H1 : Heap} (h : vx_L C n d A U H) (hq : ∀ a : Nat, a < H.size → ¬ A a → H1[a]? = H[a]?) : vx_L C n d A U H1 := by
  obtain ⟨c, k, i, f, a, cell, h1, h2, h3, h4, h5, h6, h7, h8, h9, h10⟩ := h
  exact ⟨c, k, i, f, a, cell, h1, h2, h3, h4, by rw [hq a (Array.getElem?_eq_some_iff.mp h5).1 h10]; exact h5, h6, h7, h8, h9, h10⟩
theorem vx_L.narrow {C n d : String} {A B : Nat → Prop} {U : State} {H : Heap} (h : vx_L C n d A U H) (hAB : ∀ q, B q → A q) : vx_L C n d B U H := by
  obtain ⟨c, k, i, f, a, cell, h1, h2, h3, h4, h5, h6, h7, h8, h9, h10⟩ := h
  exact ⟨c, k, i, f, a, cell, h1, h2, h3, h4, h5, h6, h7, h8, h9, fun z => h10 (hAB _ z)⟩
theorem vx_L.word {C n d : String} {A : Nat → Prop} {s : State} {args : Array Value} (h : vx_L C n d A s s.heap) : (Cond.laysStatic C n d).before args s = true := by
  obtain ⟨c, k, i, f, a, cell, h1, h2, h3, h4, h5, h6, h7, h8, h9, -⟩ := h
  show (Cond.laysStatic C n d).holds args s none s [] = true
  exact Cond.laysStatic_of h1 h2 h3 h4 h5 h6 h7 h8 h9
/-- .. and what it holds: null or some reference -/
def vx_Zq (C n d : String) (A : Nat → Prop) (U : State) (H : Heap) : Prop := va_Zq C n d A U H ∧ vx_L C n d A U H
theorem vx_Zq.moved {C n d : String} {A : Nat → Prop} {u U : State} {H : Heap} (hvm : u.vm.Alike U.vm) (h : vx_Zq C n d A u H) : vx_Zq C n d A U H := ⟨va_Zq.moved hvm h.1, vx_L.moved hvm h.2⟩
theorem vx_Zq.kept {C n d : String} {A : Nat → Prop} {U : State} {H H1 : Heap} (h : vx_Zq C n d A U H) (hq : ∀ a : Nat, a < H.size → ¬ A a → H1[a]? = H[a]?) : vx_Zq C n d A U H1 := ⟨va_Zq.kept h.1 hq, vx_L.kept h.2 hq⟩
theorem vx_Zq.narrow {C n d : String} {A B : Nat → Prop} {U : State} {H : Heap} (h : vx_Zq C n d A U H) (hAB : ∀ q, B q → A q) : vx_Zq C n d B U H := ⟨va_Zq.narrow h.1 hAB, vx_L.narrow h.2 hAB⟩
theorem vx_Zqof {args : Array Value} {s : State} {C n d : String} {A : Nat → Prop} (hl : (Cond.laysStatic C n d).before args s = true) (hini : (Cond.initialized C).before args s = true) (h : (Cond.isRef (.static C n d)).before args s = true) (hA : ∀ a : Nat, a < s.heap.size → ¬ A a) : vx_Zq C n d A s s.heap := by
  refine ⟨va_Zqof hl hini h hA, ?_⟩
  obtain ⟨c, k, i, f, a, cell, h1, h2, h3, h4, h5, h6, h7, h8, h9⟩ := Cond.laysStatic_spec hl
  exact ⟨c, k, i, f, a, cell, h1, h2, h3, h4, h5, h6, h7, h8, h9, hA a (Array.getElem?_eq_some_iff.mp h5).1⟩
theorem vx_isRef {C n d : String} {v : Value} {A : Nat → Prop} {s : State} {args : Array Value} (h : va_Z C n d v A s s.heap) (hv : v.isRef = true) : (Cond.isRef (.static C n d)).before args s = true := by
  obtain ⟨cf, kf, fi, f, a, cell, h1, h2, h3, h4, h5, h6, h7, -⟩ := h
  have he : (Term.static C n d).eval args s none [] s = some v := by
    simp [Term.eval, State.fieldNamed?, h1, h2, h4, h5, h6, h7]
  simp only [Cond.before, Cond.holds, Cond.value, he]
  cases v <;> simp_all [Value.isRef]
theorem vx_isRefq {C n d : String} {A : Nat → Prop} {s : State} {args : Array Value} (h : va_Zq C n d A s s.heap) : (Cond.isRef (.static C n d)).before args s = true := by
  rcases h with h | ⟨t, h⟩
  · exact vx_isRef h rfl
  · exact vx_isRef h rfl
/-- the same frame, seen from here: as if the method were called anew in this heap -/
theorem vx_rebase {T : State} (X : Stand p l e R s m args below meth c T locs cells slots) {R' : Room} (hf : R'.frames ≤ R.frames) (hl : R'.locals ≤ R.locals) (hc : cells + R'.cells ≤ R.cells) (hs : slots + R'.slots ≤ R.slots) :
    Stand p l e R' ((T.setVm s.vm).setFrames (.invoking m args :: below)) m args below meth c T [] 0 0 := by
  have htop : (T.setVm s.vm).topJava?.isSome := X.here.top
  have hF : ((T.setVm s.vm).setFrames (.invoking m args :: below)).frames = .invoking m args :: below := State.frames_setFrames _ (State.cur_lt_of_top htop)
  obtain ⟨g₀, hg0⟩ := Option.isSome_iff_exists.mp htop
  obtain ⟨r, hr⟩ := State.topJava?_eq_some.mp hg0
  have hl9 : e.platform.stackLimits (T.setVm s.vm).me = e.platform.stackLimits s.me := X.limits
  have hb9 : (T.setVm s.vm).me.stackBytes = s.me.stackBytes := X.bytes
  refine ⟨X.admits, X.cas, X.clock, hF, ?_, X.hears, X.method, X.code, X.here, X.tail, X.warmed, ?_, ?_, ?_⟩
  · have h := X.room
    have hU : ((T.setVm s.vm).setFrames (.invoking m args :: below)).localsInUse = s.localsInUse := by
      rw [State.localsInUse_invoking hF (meth := meth) (c := c) X.method X.code, State.localsInUse_invoking X.frames X.method X.code]
    simp only [State.hasRoom, Bool.and_eq_true, decide_eq_true_eq] at h ⊢
    obtain ⟨⟨⟨⟨h1, h2, h3, h4, h5, h6⟩, h7⟩, h8⟩, h9⟩ := h
    rw [X.frames, List.length_cons] at h2 h3
    have q1 := X.heapSize
    have q2 := X.used
    simp only [hF, hU, List.length_cons, State.stackLimits_setFrames, State.stackBytes_setFrames, hl9, hb9]
    refine ⟨⟨⟨⟨by omega, by omega, by omega, by omega, by omega, h6⟩, ?_⟩, ?_⟩, X.book⟩
    · show T.heap.size + R'.cells ≤ e.platform.maxCells
      omega
    · show T.slotsUsed + R'.slots ≤ e.platform.maxSlots
      omega
  · rw [State.stackLimits_setFrames]; rfl
  · rw [State.stackBytes_setFrames]; rfl
  · refine ⟨?_, Nat.le_refl _, Nat.le_refl _, ?_, ?_, fun a c9 h9 => ⟨c9, h9, rfl, rfl, fun _ _ => rfl⟩⟩
    · obtain ⟨t, ht, -⟩ := State.frames_cons hr
      show T.setVm s.vm = { ((T.setVm s.vm).setFrames (.invoking m args :: below)).setFrames (T.setVm s.vm).frames with heap := T.heap, slotsUsed := T.slotsUsed }
      rw [State.setFrames_setFrames, State.setFrames_self ht]
      rfl
    · show T.slotsUsed = T.slotsUsed + ((T.heap.toList.drop T.heap.size).map (·.slots.size)).sum
      rw [List.drop_eq_nil_of_le (Nat.le_of_eq Array.length_toList)]
      rfl
    · show ((T.heap.toList.drop T.heap.size).map (·.slots.size)).sum ≤ 0
      rw [List.drop_eq_nil_of_le (Nat.le_of_eq Array.length_toList)]
      exact Nat.le_refl _
/-- 'throw new E()': new; dup; invokespecial; athrow -/
theorem vx_throw0 {cc : ByteArray} {pc : Nat} (hexec : p.tables.exec = Jvm.exec) (hb : c.code = cc) (hl : l.stackTraces = false) {own cls : String} {names : List String} {ik ic mc ms : Nat} {A : Nat → Prop}
    (hown : s.vm.findClass own = some m.cls) (hcls : Bundle.fit cls = true) (hnames : ∀ n ∈ names, Bundle.fit n = true)
    (hk : (Cond.classLink own ik cls).before args s = true) (hini : (Cond.initialized cls).before args s = true) (hat : ∀ w ∈ vx_at0 own ic cls names, w.before args s = true)
    (hgood : ∀ w ∈ Cond.classLink own ik cls :: Cond.initialized cls :: vx_at0 own ic cls names, vx_ot w = true)
    (hU : vx_Zq Bundle.tN "UNASSIGNED_STACK" Bundle.steD A s s.heap) (hN : vx_Zq Bundle.tN "SUPPRESSED_SENTINEL" Bundle.listD A s s.heap) (hS : va_S A s.heap H locs) (hsize : ls.size = c.maxLocals)
    (d0 : decode cc pc = .ok (.new ik, 3)) (d3 : decode cc (pc + 3) = .ok (.dup, 1)) (d4 : decode cc (pc + 4) = .ok (.invokespecial ic, 3)) (d7 : decode cc (pc + 7) = .ok (.athrow, 1))
    (hout : ∀ x ∈ c.exceptionTable.toList, covers x (pc + 7) = false)
    (hRframes : names.length + 3 < R.frames) (hRlocals : (rest.map fun v => v.category).sum + (13 * (names.length + 1) + 42) ≤ R.locals) (hRcells : cells + 1 ≤ R.cells) (hRslots : slots + 6 ≤ R.slots) (hlocks : meth.locks = false)
    (hx : ∀ t : State, s.vm.Alike t.vm → H.size ≤ t.heap.size → (∀ q : Nat, q < H.size → t.heap[q]? = H[q]?) → XC cls s t)
    (hf : ∀ z ∈ locs, free z.base) (hc : cells + 1 ≤ mc) (hs : slots + 6 ≤ ms) :
    W p l e R s m args below meth c H locs cells slots (vx_MQ below Qc XC args s mc ms free) (F0 m pc ls rest) := by
  intro T hT X
  have htr : e.platform.stackTraces = false := (show e.platform.stackTraces = l.stackTraces by rw [X.admits.platform]).trans hl
  have Y := vx_rebase X (R' := { frames := R.frames, locals := R.locals, cells := 1, slots := 6 }) (Nat.le_refl _) (Nat.le_refl _) hRcells hRslots
  obtain ⟨s', hA⟩ : ∃ z, z = (T.setVm s.vm).setFrames (.invoking m args :: below) := ⟨_, rfl⟩
  rw [← hA] at Y
  have hvm : s'.vm = s.vm := by rw [hA]; rfl
  have hhp : s'.heap = H := by rw [hA]; exact hT
  have hW0 : s.WarmedH s'.vm := by rw [hvm]; exact State.WarmedH.refl s
  have hat' : ∀ w ∈ vx_at0 own ic cls names, w.before args s' = true := fun w hw => vx_ot_at hW0 hvm.symm (hgood w (List.mem_cons_of_mem _ (List.mem_cons_of_mem _ hw))) (hat w hw)
  have hk' : (Cond.classLink own ik cls).before args s' = true := vx_ot_at hW0 hvm.symm (hgood _ List.mem_cons_self) hk
  have hini' : (Cond.initialized cls).before args s' = true := vx_ot_at hW0 hvm.symm (hgood _ (List.mem_cons_of_mem _ List.mem_cons_self)) hini
  have hU' : vx_Zq Bundle.tN "UNASSIGNED_STACK" Bundle.steD A s' s'.heap := by rw [hhp]; exact vx_Zq.moved hW0.alike (hU.kept hS.2.1)
  have hN' : vx_Zq Bundle.tN "SUPPRESSED_SENTINEL" Bundle.listD A s' s'.heap := by rw [hhp]; exact vx_Zq.moved hW0.alike (hN.kept hS.2.1)
  have h : ∀ w ∈ Bundle.ownAtoms0 own ic cls names, w.before args s' = true := vx_own hat' (vx_isRefq hU'.1) (vx_isRefq hN'.1) hU'.2.word hN'.2.word
  have hown' : s'.vm.findClass own = some m.cls := by rw [hvm]; exact hown
  have hins : (Cond.instantiable cls 6).before args s' = true := h _ (by simp [Bundle.ownAtoms0])
  obtain ⟨vm₁, cX, kX, hfX, hkX, -, -, X₁, st1⟩ := Y.newCold hexec (own := own) (C := cls) (index := ik) (n := 6) hown' hk' hins hini'
    (g := F0 m pc ls rest) rfl (by rw [hb]; exact d0) (Nat.le_refl _) (Nat.le_refl _)
  generalize hT1 : (T.setVm vm₁).pushCell { cls := cX, slots := kX.instanceTypes.map defaultValue, vm := .none } = T1 at X₁ st1
  have hcat : (Value.ref T.heap.size).category = 1 := rfl
  have hcellA : T1.heap[T.heap.size]? = some (freshCell cX kX) := by rw [← hT1]; exact State.heap_pushCell_size _ _
  have d3' : decode c.code (pc + 3) = .ok (.dup, 1) := by rw [hb]; exact d3
  obtain ⟨U, hsteps, hrun, hend, hW, hsame, ce, hce, hO⟩ := X₁.ctorThrow0 hexec htr (own := own) (cls := cls) (names := names) (ic := ic) hown' hcls hnames h (fun x hx => nomatch hx) hfX hkX hcellA (by rw [hhp, hT]; exact Nat.le_refl _)
    (g := { method := m, pc := pc + 4, locals := ls, stack := .ref T.heap.size :: .ref T.heap.size :: rest, locked := none }) rfl hsize rfl rfl (rest := rest) rfl
    (by rw [hb]; exact d4) (by rw [hb]; exact d7) hout hRframes (by simp only [List.map_cons, List.sum_cons, hcat]; omega) hlocks
  obtain ⟨f1, f2⟩ := vx_frame hsame
  rw [hhp] at f1 f2
  have hWs : s.WarmedH U.vm := State.WarmedH.trans hW0 hW
  have hcl : s.vm.findClass cls = some ce.cls := by
    have h9 := hO.cls
    rw [hvm] at h9
    exact h9
  have hall : s.sameButNew ({ U with vm := s.vm } : State) locs mc ms := by
    subst hA
    obtain ⟨e1, e2⟩ := hsame
    rw [State.setFrames_setFrames] at e1
    have h2 : (T.setVm s.vm).sameButNew ({ U with vm := s.vm } : State) [] (0 + 1) (0 + 6) := ⟨e1, e2⟩
    have h3 := X.same.trans h2
    rw [List.append_nil] at h3
    exact h3.mono hc hs
  refine ⟨U, ?_, .threw T.heap.size, hrun, hend, Or.inr ⟨T.heap.size, rfl, cls, ce, locs, hx U hWs.alike f1 (fun q hq => f2 q hq (fun z hz => nomatch hz)), hce, hO.vm, hcl, hWs, hall, hf⟩⟩
  refine st1 _ ?_
  show Steps p.tables e below (T1.setTop { method := m, pc := pc + 3, locals := ls, stack := .ref T.heap.size :: rest, locked := none }) _
  jvm_step X₁.here [X₁.here.top, hexec, d3', Value.category]
  exact hsteps
/-- 'throw new E("text")': new; dup; ldc; invokespecial; athrow -/
theorem vx_throwS {cc : ByteArray} {pc : Nat} (hexec : p.tables.exec = Jvm.exec) (hb : c.code = cc) (hl : l.stackTraces = false) {own cls text : String} {names : List String} {ik is ic mc ms sa : Nat} {A : Nat → Prop}
    (hown : s.vm.findClass own = some m.cls) (hcls : Bundle.fit cls = true) (hnames : ∀ n ∈ names, Bundle.fit n = true)
    (hk : (Cond.classLink own ik cls).before args s = true) (hini : (Cond.initialized cls).before args s = true) (hstr : vk_R own is text sa s) (hat : ∀ w ∈ vx_atS own ic cls names, w.before args s = true)
    (hgood : ∀ w ∈ Cond.classLink own ik cls :: Cond.initialized cls :: vx_atS own ic cls names, vx_ot w = true)
    (hU : vx_Zq Bundle.tN "UNASSIGNED_STACK" Bundle.steD A s s.heap) (hN : vx_Zq Bundle.tN "SUPPRESSED_SENTINEL" Bundle.listD A s s.heap) (hS : va_S A s.heap H locs) (hsize : ls.size = c.maxLocals)
    (d0 : decode cc pc = .ok (.new ik, 3)) (d3 : decode cc (pc + 3) = .ok (.dup, 1)) (d4 : decode cc (pc + 4) = .ok (.ldc is, 2)) (d6 : decode cc (pc + 6) = .ok (.invokespecial ic, 3)) (d9 : decode cc (pc + 9) = .ok (.athrow, 1))
    (hout : ∀ x ∈ c.exceptionTable.toList, covers x (pc + 9) = false)
    (hRframes : names.length + 3 < R.frames) (hRlocals : (rest.map fun v => v.category).sum + (13 * (names.length + 1) + 43) ≤ R.locals) (hRcells : cells + 1 ≤ R.cells) (hRslots : slots + 6 ≤ R.slots) (hlocks : meth.locks = false)
    (hx : ∀ t : State, s.vm.Alike t.vm → H.size ≤ t.heap.size → (∀ q : Nat, q < H.size → t.heap[q]? = H[q]?) → XC cls s t)
    (hf : ∀ z ∈ locs, free z.base) (hc : cells + 1 ≤ mc) (hs : slots + 6 ≤ ms) :
    W p l e R s m args below meth c H locs cells slots (vx_MQ below Qc XC args s mc ms free) (F0 m pc ls rest) := by
  intro T hT X
  have htr : e.platform.stackTraces = false := (show e.platform.stackTraces = l.stackTraces by rw [X.admits.platform]).trans hl
  have Y := vx_rebase X (R' := { frames := R.frames, locals := R.locals, cells := 1, slots := 6 }) (Nat.le_refl _) (Nat.le_refl _) hRcells hRslots
  obtain ⟨s', hA⟩ : ∃ z, z = (T.setVm s.vm).setFrames (.invoking m args :: below) := ⟨_, rfl⟩
  rw [← hA] at Y
  have hvm : s'.vm = s.vm := by rw [hA]; rfl
  have hhp : s'.heap = H := by rw [hA]; exact hT
  have hW0 : s.WarmedH s'.vm := by rw [hvm]; exact State.WarmedH.refl s
  have hat' : ∀ w ∈ vx_atS own ic cls names, w.before args s' = true := fun w hw => vx_ot_at hW0 hvm.symm (hgood w (List.mem_cons_of_mem _ (List.mem_cons_of_mem _ hw))) (hat w hw)
  have hk' : (Cond.classLink own ik cls).before args s' = true := vx_ot_at hW0 hvm.symm (hgood _ List.mem_cons_self) hk
  have hini' : (Cond.initialized cls).before args s' = true := vx_ot_at hW0 hvm.symm (hgood _ (List.mem_cons_of_mem _ List.mem_cons_self)) hini
  have hU' : vx_Zq Bundle.tN "UNASSIGNED_STACK" Bundle.steD A s' s'.heap := by rw [hhp]; exact vx_Zq.moved hW0.alike (hU.kept hS.2.1)
  have hN' : vx_Zq Bundle.tN "SUPPRESSED_SENTINEL" Bundle.listD A s' s'.heap := by rw [hhp]; exact vx_Zq.moved hW0.alike (hN.kept hS.2.1)
  have h : ∀ w ∈ Bundle.ownAtoms own ic cls names, w.before args s' = true := vx_own hat' (vx_isRefq hU'.1) (vx_isRefq hN'.1) hU'.2.word hN'.2.word
  have hown' : s'.vm.findClass own = some m.cls := by rw [hvm]; exact hown
  have hins : (Cond.instantiable cls 6).before args s' = true := h _ (by simp [Bundle.ownAtoms])
  obtain ⟨vm₁, cX, kX, hfX, hkX, -, -, X₁, st1⟩ := Y.newCold hexec (own := own) (C := cls) (index := ik) (n := 6) hown' hk' hins hini'
    (g := F0 m pc ls rest) rfl (by rw [hb]; exact d0) (Nat.le_refl _) (Nat.le_refl _)
  generalize hT1 : (T.setVm vm₁).pushCell { cls := cX, slots := kX.instanceTypes.map defaultValue, vm := .none } = T1 at X₁ st1
  have hcat : (Value.ref T.heap.size).category = 1 := rfl
  have hcellA : T1.heap[T.heap.size]? = some (freshCell cX kX) := by rw [← hT1]; exact State.heap_pushCell_size _ _
  have d3' : decode c.code (pc + 3) = .ok (.dup, 1) := by rw [hb]; exact d3
  have d4' : decode c.code (pc + 4) = .ok (.ldc is, 2) := by rw [hb]; exact d4
  have hstr' : vk_R own is text sa s' := vk_R.warm hW0 hstr
  obtain ⟨U, hsteps, hrun, hend, hW, hsame, ce, hce, hO⟩ := X₁.ctorThrowS hexec htr (own := own) (cls := cls) (names := names) (ic := ic) hown' hcls hnames h (fun x hx => nomatch hx) hfX hkX hcellA (by rw [hhp, hT]; exact Nat.le_refl _) (msg := .ref sa) rfl
    (g := { method := m, pc := pc + 6, locals := ls, stack := .ref sa :: .ref T.heap.size :: .ref T.heap.size :: rest, locked := none }) rfl hsize rfl rfl (rest := rest) rfl
    (by rw [hb]; exact d6) (by rw [hb]; exact d9) hout hRframes (by simp only [List.map_cons, List.sum_cons, hcat]; omega) hlocks
  obtain ⟨f1, f2⟩ := vx_frame hsame
  rw [hhp] at f1 f2
  have hWs : s.WarmedH U.vm := State.WarmedH.trans hW0 hW
  have hcl : s.vm.findClass cls = some ce.cls := by
    have h9 := hO.cls
    rw [hvm] at h9
    exact h9
  have hall : s.sameButNew ({ U with vm := s.vm } : State) locs mc ms := by
    subst hA
    obtain ⟨e1, e2⟩ := hsame
    rw [State.setFrames_setFrames] at e1
    have h2 : (T.setVm s.vm).sameButNew ({ U with vm := s.vm } : State) [] (0 + 1) (0 + 6) := ⟨e1, e2⟩
    have h3 := X.same.trans h2
    rw [List.append_nil] at h3
    exact h3.mono hc hs
  refine ⟨U, ?_, .threw T.heap.size, hrun, hend, Or.inr ⟨T.heap.size, rfl, cls, ce, locs, hx U hWs.alike f1 (fun q hq => f2 q hq (fun z hz => nomatch hz)), hce, hO.vm, hcl, hWs, hall, hf⟩⟩
  refine st1 _ ?_
  show Steps p.tables e below (T1.setTop { method := m, pc := pc + 3, locals := ls, stack := .ref T.heap.size :: rest, locked := none }) _
  jvm_step X₁.here [X₁.here.top, hexec, d3', Value.category]
  exact X₁.ldcString hexec (own := own) (text := text) (index := is) (a := sa) hown' hstr'.1 hstr'.2
    (g := { method := m, pc := pc + 4, locals := ls, stack := .ref T.heap.size :: .ref T.heap.size :: rest, locked := none }) rfl d4' _ hsteps
/-- 'throw new E("text")', the text by a wide index -/
theorem vx_throwSW {cc : ByteArray} {pc : Nat} (hexec : p.tables.exec = Jvm.exec) (hb : c.code = cc) (hl : l.stackTraces = false) {own cls text : String} {names : List String} {ik is ic mc ms sa : Nat} {A : Nat → Prop}
    (hown : s.vm.findClass own = some m.cls) (hcls : Bundle.fit cls = true) (hnames : ∀ n ∈ names, Bundle.fit n = true)
    (hk : (Cond.classLink own ik cls).before args s = true) (hini : (Cond.initialized cls).before args s = true) (hstr : vk_R own is text sa s) (hat : ∀ w ∈ vx_atS own ic cls names, w.before args s = true)
    (hgood : ∀ w ∈ Cond.classLink own ik cls :: Cond.initialized cls :: vx_atS own ic cls names, vx_ot w = true)
    (hU : vx_Zq Bundle.tN "UNASSIGNED_STACK" Bundle.steD A s s.heap) (hN : vx_Zq Bundle.tN "SUPPRESSED_SENTINEL" Bundle.listD A s s.heap) (hS : va_S A s.heap H locs) (hsize : ls.size = c.maxLocals)
    (d0 : decode cc pc = .ok (.new ik, 3)) (d3 : decode cc (pc + 3) = .ok (.dup, 1)) (d4 : decode cc (pc + 4) = .ok (.ldc_w is, 3)) (d7 : decode cc (pc + 7) = .ok (.invokespecial ic, 3)) (d10 : decode cc (pc + 10) = .ok (.athrow, 1))
    (hout : ∀ x ∈ c.exceptionTable.toList, covers x (pc + 10) = false)
    (hRframes : names.length + 3 < R.frames) (hRlocals : (rest.map fun v => v.category).sum + (13 * (names.length + 1) + 43) ≤ R.locals) (hRcells : cells + 1 ≤ R.cells) (hRslots : slots + 6 ≤ R.slots) (hlocks : meth.locks = false)
    (hx : ∀ t : State, s.vm.Alike t.vm → H.size ≤ t.heap.size → (∀ q : Nat, q < H.size → t.heap[q]? = H[q]?) → XC cls s t)
    (hf : ∀ z ∈ locs, free z.base) (hc : cells + 1 ≤ mc) (hs : slots + 6 ≤ ms) :
    W p l e R s m args below meth c H locs cells slots (vx_MQ below Qc XC args s mc ms free) (F0 m pc ls rest) := by
  intro T hT X
  have htr : e.platform.stackTraces = false := (show e.platform.stackTraces = l.stackTraces by rw [X.admits.platform]).trans hl
  have Y := vx_rebase X (R' := { frames := R.frames, locals := R.locals, cells := 1, slots := 6 }) (Nat.le_refl _) (Nat.le_refl _) hRcells hRslots
  obtain ⟨s', hA⟩ : ∃ z, z = (T.setVm s.vm).setFrames (.invoking m args :: below) := ⟨_, rfl⟩
  rw [← hA] at Y
  have hvm : s'.vm = s.vm := by rw [hA]; rfl
  have hhp : s'.heap = H := by rw [hA]; exact hT
  have hW0 : s.WarmedH s'.vm := by rw [hvm]; exact State.WarmedH.refl s
  have hat' : ∀ w ∈ vx_atS own ic cls names, w.before args s' = true := fun w hw => vx_ot_at hW0 hvm.symm (hgood w (List.mem_cons_of_mem _ (List.mem_cons_of_mem _ hw))) (hat w hw)
  have hk' : (Cond.classLink own ik cls).before args s' = true := vx_ot_at hW0 hvm.symm (hgood _ List.mem_cons_self) hk
  have hini' : (Cond.initialized cls).before args s' = true := vx_ot_at hW0 hvm.symm (hgood _ (List.mem_cons_of_mem _ List.mem_cons_self)) hini
  have hU' : vx_Zq Bundle.tN "UNASSIGNED_STACK" Bundle.steD A s' s'.heap := by rw [hhp]; exact vx_Zq.moved hW0.alike (hU.kept hS.2.1)
  have hN' : vx_Zq Bundle.tN "SUPPRESSED_SENTINEL" Bundle.listD A s' s'.heap := by rw [hhp]; exact vx_Zq.moved hW0.alike (hN.kept hS.2.1)
  have h : ∀ w ∈ Bundle.ownAtoms own ic cls names, w.before args s' = true := vx_own hat' (vx_isRefq hU'.1) (vx_isRefq hN'.1) hU'.2.word hN'.2.word
  have hown' : s'.vm.findClass own = some m.cls := by rw [hvm]; exact hown
  have hins : (Cond.instantiable cls 6).before args s' = true := h _ (by simp [Bundle.ownAtoms])
  obtain ⟨vm₁, cX, kX, hfX, hkX, -, -, X₁, st1⟩ := Y.newCold hexec (own := own) (C := cls) (index := ik) (n := 6) hown' hk' hins hini'
    (g := F0 m pc ls rest) rfl (by rw [hb]; exact d0) (Nat.le_refl _) (Nat.le_refl _)
  generalize hT1 : (T.setVm vm₁).pushCell { cls := cX, slots := kX.instanceTypes.map defaultValue, vm := .none } = T1 at X₁ st1
  have hcat : (Value.ref T.heap.size).category = 1 := rfl
  have hcellA : T1.heap[T.heap.size]? = some (freshCell cX kX) := by rw [← hT1]; exact State.heap_pushCell_size _ _
  have d3' : decode c.code (pc + 3) = .ok (.dup, 1) := by rw [hb]; exact d3
  have d4' : decode c.code (pc + 4) = .ok (.ldc_w is, 3) := by rw [hb]; exact d4
  have hstr' : vk_R own is text sa s' := vk_R.warm hW0 hstr
  obtain ⟨U, hsteps, hrun, hend, hW, hsame, ce, hce, hO⟩ := X₁.ctorThrowS hexec htr (own := own) (cls := cls) (names := names) (ic := ic) hown' hcls hnames h (fun x hx => nomatch hx) hfX hkX hcellA (by rw [hhp, hT]; exact Nat.le_refl _) (msg := .ref sa) rfl
    (g := { method := m, pc := pc + 7, locals := ls, stack := .ref sa :: .ref T.heap.size :: .ref T.heap.size :: rest, locked := none }) rfl hsize rfl rfl (rest := rest) rfl
    (by rw [hb]; exact d7) (by rw [hb]; exact d10) hout hRframes (by simp only [List.map_cons, List.sum_cons, hcat]; omega) hlocks
  obtain ⟨f1, f2⟩ := vx_frame hsame
  rw [hhp] at f1 f2
  have hWs : s.WarmedH U.vm := State.WarmedH.trans hW0 hW
  have hcl : s.vm.findClass cls = some ce.cls := by
    have h9 := hO.cls
    rw [hvm] at h9
    exact h9
  have hall : s.sameButNew ({ U with vm := s.vm } : State) locs mc ms := by
    subst hA
    obtain ⟨e1, e2⟩ := hsame
    rw [State.setFrames_setFrames] at e1
    have h2 : (T.setVm s.vm).sameButNew ({ U with vm := s.vm } : State) [] (0 + 1) (0 + 6) := ⟨e1, e2⟩
    have h3 := X.same.trans h2
    rw [List.append_nil] at h3
    exact h3.mono hc hs
  refine ⟨U, ?_, .threw T.heap.size, hrun, hend, Or.inr ⟨T.heap.size, rfl, cls, ce, locs, hx U hWs.alike f1 (fun q hq => f2 q hq (fun z hz => nomatch hz)), hce, hO.vm, hcl, hWs, hall, hf⟩⟩
  refine st1 _ ?_
  show Steps p.tables e below (T1.setTop { method := m, pc := pc + 3, locals := ls, stack := .ref T.heap.size :: rest, locked := none }) _
  jvm_step X₁.here [X₁.here.top, hexec, d3', Value.category]
  exact X₁.ldcStringW hexec (own := own) (text := text) (index := is) (a := sa) hown' hstr'.1 hstr'.2
    (g := { method := m, pc := pc + 4, locals := ls, stack := .ref T.heap.size :: .ref T.heap.size :: rest, locked := none }) rfl d4' _ hsteps
end Ends
section Bodies
variable {l : Launch}
theorem vx_ofW {y : MethodName} {ws ws' : List Cond} {rm : Room} {Pc : Array Value → State → Prop} {Qc : Array Value → State → Outcome → State → Prop} {XC : String → State → State → Prop} {mc ms : Nat} {free : Addr → Prop} {cc : ByteArray} {maxL : Nat} {ret : Option FieldType}
    (hy : plainName y.cls = true) (hw : ws = Cond.code y cc maxL ret :: ws')
    (body : ∀ p e s m args below meth c s₁, BodyLoose p l y (headSpec ws rm) cc maxL ret e s m args below meth c s₁ → c.maxLocals = maxL → (∀ x ∈ c.exceptionTable.toList, False) → Pc args s →
      W p l e (headSpec ws rm).room s m args below meth c s.heap [] 0 0 (vx_MQ below Qc XC args s mc ms free) (entryFrame m args maxL)) : vx_Met l y ws rm Pc Qc XC mc ms free := by
  refine MetFree.of_bodyS (code := cc) (maxLocals := maxL) (ret := ret) hy ?_ ?_
  · intro args s m h hn
    obtain ⟨meth, c, h1, h2, h3, h4, h5, h6, -, -⟩ := Cond.code_spec hn (atoms_spec (ws := ws) h _ (by rw [hw]; exact List.mem_cons_self))
    exact ⟨meth, c, h1, h2, h3, h4, h5, h6⟩
  · intro p e s m args below meth c s₁ B hml hP _
    have hh0 : s₁.heap = s.heap := by rw [B.state]; rfl
    have ht : ∀ x ∈ c.exceptionTable.toList, False := by
      obtain ⟨meth9, c9, h1, h2, -, -, -, -, h7, -⟩ := Cond.code_spec B.named (atoms_spec (ws := ws) B.pre _ (by rw [hw]; exact List.mem_cons_self))
      cases Option.some.inj (h1.symm.trans B.method)
      cases Option.some.inj (h2.symm.trans (Stand.of_body B).code)
      intro x hx
      rw [Array.isEmpty_iff.mp h7] at hx
      cases hx
    obtain ⟨t, a1, o, b1, b2, b3⟩ := body p e s m args below meth c s₁ B hml ht hP s₁ hh0 (Stand.of_body B)
    exact ⟨t, o, a1, b1, b2, b3⟩
/-- the table of a body with handlers -/
theorem vx_table {p : Program} {x y : MethodName} {S : Spec} {cc bytes : ByteArray} {maxL maxL' : Nat} {ret ret' : Option FieldType} {e : Env} {s s₁ : State} {m : MethodId} {args : Array Value} {below : List Frame} {meth : Method} {c : Code} {hh : List (Nat × Nat × Nat × Nat)}
    (B : BodyLoose p l y S cc maxL ret e s m args below meth c s₁) (h : (Cond.codeWith y bytes maxL' ret' hh).before args s = true) : c.exceptionTable.toList = tableOf hh := by
  obtain ⟨m9, meth9, c9, hn9, h1, h2, -, -, h6, -⟩ := Cond.codeWith_spec h
  cases Option.some.inj (hn9.symm.trans B.named)
  cases Option.some.inj (h1.symm.trans B.method)
  cases Option.some.inj (h2.symm.trans (Stand.of_body B).code)
  rw [← h6, table_eq]
end Bodies
end VXA
/-! ===== END ===== -/
/-! ===== BEGIN a static call of a method with an exception table ===== -/
section VXS
variable {p : Program} {l : Launch} {e : Env} {R : Room} {s : State} {m : MethodId} {args : Array Value} {below : List Frame} {meth : Method} {c : Code} {T : State} {H : Heap} {locs : List Loc} {cells slots : Nat}
abbrev vx_CSW (R : Room) (s : State) (args : Array Value) (own : String) (index : Nat) (y : MethodName) (bytes : ByteArray) (maxL : Nat) (ret : Option FieldType) (hh : List (Nat × Nat × Nat × Nat)) (ws : List Cond) (rm : Room) (mc ms n : Nat) : Prop :=
  (rm.cells = mc ∧ rm.slots = ms ∧ rm.frames + 1 ≤ R.frames ∧ 8 + (maxL + 11) + rm.locals ≤ R.locals ∧ (∀ w ∈ ws, ∀ (a' : Array Value) (U : State), s.WarmedH U.vm → w.before a' U = true) ∧ Cond.codeWith y bytes maxL ret hh ∈ ws) ∧
  (Cond.codeWith y bytes maxL ret hh).before args s = true ∧ (Cond.initialized y.cls).before args s = true ∧ (y.cls ≠ "java/lang/invoke/MethodHandle" ∧ y.cls ≠ "java/lang/invoke/VarHandle") ∧
  (∀ sig, parseMethodDescriptor y.desc = some sig → n = sig.parameters.length) ∧ (Cond.methodLink own index y).before args s = true ∧ (Cond.static y).before args s = true
theorem vx_cwSW {own : String} {index maxL mc ms : Nat} {y : MethodName} {bytes : ByteArray} {ret : Option FieldType} {hh : List (Nat × Nat × Nat × Nat)} {Ts ws ws' : List Cond} {rm : Room} (n : Nat) (ht : ∀ w ∈ Ts, w.before args s = true) (hT : GoodIn Ts (va_wsS own index y ws)) (hw : ws = Cond.codeWith y bytes maxL ret hh :: ws') (hrc : rm.cells = mc) (hrs : rm.slots = ms)
    (hd : y.cls ≠ "java/lang/invoke/MethodHandle" ∧ y.cls ≠ "java/lang/invoke/VarHandle" ∧ (parseMethodDescriptor y.desc).map (fun d => d.parameters.length) = some n) (hR : rm.frames + 1 ≤ R.frames ∧ 8 + (maxL + 11) + rm.locals ≤ R.locals) :
    vx_CSW R s args own index y bytes maxL ret hh ws rm mc ms n := by
  have ok : ∀ w ∈ va_wsS own index y ws, w.before args s = true := fun w h => ht w (hT w h).1
  have hG : GoodIn Ts ws := fun w h => hT w (by unfold va_wsS; exact List.mem_append_right _ h)
  have hc : Cond.codeWith y bytes maxL ret hh ∈ ws := by rw [hw]; exact List.mem_cons_self
  refine ⟨⟨hrc, hrs, hR.1, hR.2, pay_in ht hG, hc⟩, ht _ (hG _ hc).1, ok _ (by simp [va_wsS]), ⟨hd.1, hd.2.1⟩, fun sig h => ?_, ok _ (by simp [va_wsS]), ok _ (by simp [va_wsS])⟩
  have h2 := hd.2.2
  rw [h] at h2
  exact (Option.some.inj h2).symm
theorem vx_callSW (X : Stand p l e R s m args below meth c T locs cells slots) (hexec : p.tables.exec = Jvm.exec) {own : String} {index : Nat} {y : MethodName} {bytes : ByteArray} {maxL : Nat} {ret : Option FieldType} {hh : List (Nat × Nat × Nat × Nat)}
    (hown : s.vm.findClass own = some m.cls) (hlink : (Cond.methodLink own index y).before args s = true) (hstat : (Cond.static y).before args s = true) (hinit : (Cond.initialized y.cls).before args s = true)
    (hcode : (Cond.codeWith y bytes maxL ret hh).before args s = true) (hy : y.cls ≠ "java/lang/invoke/MethodHandle" ∧ y.cls ≠ "java/lang/invoke/VarHandle")
    {W9 : Nat} {Pre : Pt → Array Value → Prop} {Post : Pt → Array Value → Option Value → Pt → Prop} (hK : Back l R p e below s args y 3 W9 Pre Post)
    {g : JFrame} (hg : g.method = m) (hsize : g.locals.size = c.maxLocals) {argsL rest : List Value} (hlen : ∀ sig, parseMethodDescriptor y.desc = some sig → argsL.length = sig.parameters.length)
    (hstack : g.stack = argsL.reverse ++ rest) (hW : 2 * g.monitorRoom + (rest.map fun v => v.category).sum ≤ W9) (hdg : decode c.code g.pc = .ok (.invokestatic index, 3))
    (hpre : ∀ vm₁, s.WarmedH vm₁ → Pre ⟨T.setVm vm₁, locs, cells, slots⟩ argsL.toArray) :
    ∃ (v : Option Value) (vm₁ : Vm) (B : Pt), s.WarmedH vm₁ ∧ Stand p l e R s m args below meth c B.U B.locs B.cells B.slots ∧ Post ⟨T.setVm vm₁, locs, cells, slots⟩ argsL.toArray v B ∧
      ∀ target, Steps p.tables e below (B.U.setTop { g with pc := g.pc + 3, stack := v.toList ++ rest }) target → Steps p.tables e below (T.setTop g) target := by
  obtain ⟨mk, methM, cM, hnamed, hmethM, -, -, -, -, -, -, hsigM⟩ := Cond.codeWith_spec hcode
  have hstatic : methM.isStatic = true := Cond.static_spec hnamed hmethM hstat
  obtain ⟨kP, hkP, -⟩ := className_of_methodNamed hnamed
  have hinitP : kP.init = .initialized := Cond.initialized_spec (findClass_of_methodNamed hnamed) hkP hinit
  obtain ⟨vm₁, X₁, hstep₁⟩ := X.invokestatic hexec hown hlink hnamed hmethM hstatic hkP hinitP hy (g := g) hg (argsL := argsL) (rest := rest) (hlen _ hsigM) hstack hdg
  obtain ⟨v, B, X', hpost, hsteps⟩ := hK m meth c ⟨T.setVm vm₁, locs, cells, slots⟩ { g with stack := rest } (.invokestatic index) mk argsL.toArray X₁ hg hsize hdg hW (X₁.named hnamed) (hpre vm₁ X₁.warmed)
  exact ⟨v, vm₁, B, X₁.warmed, X', hpost, fun target h => hstep₁ _ fun acts => by rw [doInvoke_state]; exact hsteps.trans h⟩
theorem vx_runSW {y : MethodName} {bytes cc : ByteArray} {maxL nL mc ms n index : Nat} {ret : Option FieldType} {hh : List (Nat × Nat × Nat × Nat)} {ws : List Cond} {rm : Room} {Pc : Array Value → State → Prop} {Qc : Array Value → State → Outcome → State → Prop} {free : Addr → Prop} {Ts : List Cond} {own : String} {As rest : List Value} {g : JFrame}
    (S : CallFix p m c cc nL s args Ts own) (hM : Met l y ws rm Pc Qc mc ms free) (cw : vx_CSW R s args own index y bytes maxL ret hh ws rm mc ms n) (hp : PreS s H Pc As)
    (hg : g.method = m) (hn : As.length = n) (hsize : g.locals.size = nL) (hstack : g.stack = As.reverse ++ rest) (hW : 2 * g.monitorRoom + (rest.map fun v => v.category).sum ≤ 8) (hdg : decode cc g.pc = .ok (.invokestatic index, 3)) (hf : cells + mc ≤ R.cells ∧ slots + ms ≤ R.slots) :
    va_Run p l e R s m args below meth c H locs cells slots mc ms g rest (Qc As.toArray) (free) := by
  obtain ⟨⟨hrc, hrs, hfr, hlo, hws, hcw⟩, hcode, hini, hy, hlen, hl, hstt⟩ := cw
  have hK : Back l R p e below s args y 3 8 (PreOf R mc ms Pc) (PostOf Qc mc ms free) := va_backW (hh := hh) (bytes := bytes) (maxL := maxL) (ret := ret) hM hp.1 hrc hrs hfr hlo hws hcw (fun a' U hW => word_at hW (Or.inl (by first | rfl | simp [Cond.onTables, Cond.keeps, Cond.steady])) hini)
  obtain ⟨hx, hb, hml, ho, -⟩ := S
  intro T hT X
  obtain ⟨v, vm₁, ⟨U', l2, c2, s2⟩, hW₁, X', ⟨g', mk, t, L, e1, e2, hq, h1, hL, h2, h3⟩, st⟩ := vx_callSW X hx (hh := hh) (bytes := bytes) (maxL := maxL) (ret := ret) ho hl hstt hini hcode hy hK hg (hsize.trans hml.symm) (argsL := As) (rest := rest) (fun sig h => hn.trans (hlen sig h)) hstack hW (by rw [hb]; exact hdg)
    (fun vm₁ hW₁ => ⟨hf.1, hf.2, hp.2 (T.setVm vm₁) hT hW₁⟩)
  dsimp only [Pt.U, Pt.locs, Pt.cells, Pt.slots] at X' e1 e2 h1 h2 h3 st
  subst h1; subst h2; subst h3
  exact ⟨v, (T.setVm vm₁).calling g' mk As.toArray, t, U', L, hT, X', hL, e1, e2, hq, st⟩
/-- not caught here, past rows that name other classes: it goes on to the caller -/
theorem vx_outP {p : Program} {l : Launch} {e : Env} {R : Room} {s : State} {m : MethodId} {args : Array Value} {below : List Frame} {meth : Method} {c : Code} {H : Heap} {locs : List Loc} {cells slots : Nat} {free : Addr → Prop} {ls : Array Slot} {rest : List Value} {Qc : Array Value → State → Outcome → State → Prop} {XC : String → State → State → Prop}
    {pc : Nat} {own E : String} {ce : Cell} {q : Addr} {mc ms : Nat} (hown : s.vm.findClass own = some m.cls) (hlocks : meth.locks = false)
    (hpass : ∀ z ∈ c.exceptionTable.toList, covers z pc = false ∨ (z.catchType ≠ 0 ∧ ∃ nm : String, (Cond.classLink own z.catchType nm).before args s = true ∧ va_Nc E nm s)) (hcell : H[q]? = some ce) (hv : ce.vm = .none) (hcl : s.vm.findClass E = some ce.cls)
    (hx : ∀ t : State, t.heap = H → s.vm.Alike t.vm → XC E s t) (hf : ∀ z ∈ locs, free z.base) (hc : cells ≤ mc) (hs : slots ≤ ms) :
    vx_W p l e R s m args below meth c H locs cells slots (vx_MQ below Qc XC args s mc ms free) (F0 m pc ls rest) q := by
  intro T hT X
  have hpl : e.platform.magicAccessors = ({} : Platform).magicAccessors := by rw [X.admits.platform]
  obtain ⟨vm', hW', X', st⟩ := X.outThrough hlocks q (g := F0 m pc ls rest) rfl rfl rfl (cell := ce) (by rw [hT]; exact hcell) (by rw [hv]; rfl)
    (by obtain ⟨k9, h9, -⟩ := Vm.findClass_spec hcl; exact ⟨k9, h9⟩) (fun z hz => by
      rcases hpass z hz with h | ⟨hz0, nm, hl1, hn1⟩
      · exact Or.inl h
      · obtain ⟨c6, hc6, hcl6⟩ := Cond.classLink_spec hown hl1 e.platform hpl
        obtain ⟨a8, b8, h1, h2, h3⟩ := hn1
        cases Option.some.inj (h1.symm.trans hcl)
        cases Option.some.inj (h2.symm.trans hc6)
        exact Or.inr ⟨hz0, _, hcl6, h3⟩)
  obtain ⟨g₀, hfr⟩ := X'.frames_eq
  have hcell9 : ((T.setVm vm').setFrames (.throwing q :: below)).heap[q]? = some ce := by
    show T.heap[q]? = some ce
    rw [hT]; exact hcell
  have hend : Ended ((T.setVm vm').setFrames (.throwing q :: below)) below (.threw q) := State.frames_setFrames _ (State.cur_lt_of_frames hfr)
  refine ⟨(T.setVm vm').setFrames (.throwing q :: below), ?_, .threw q, X'.here.running, hend, Or.inr ⟨q, rfl, E, ce, locs, hx _ hT (X'.ends _).1.alike, hcell9, hv, hcl, (X'.ends _).1, (X'.ends _).2.mono hc hs, hf⟩⟩
  rw [X.pushThrowing_eq]
  exact st
/-- a thing of a world lies in the heap -/
theorem vx_lt {D : va_G} {cl : List vw_C} {ws : va_W} {H1 : Heap} (h : va_P D cl ws H1) {k : Nat} {q : Nat × va_E} (hk : ws[k]? = some q) : q.1 < H1.size := (h k q hk).lt
end VXS
/-! ===== END ===== -/
/-! ===== BEGIN methods with a table of their own: called by a name, returning or throwing ===== -/
section VXH
/-! vx_backW, vx_callVX, vx_callSX, vx_callVW, vx_runVW, vx_runVX, vx_runSX, vx_ofWH follow the same proofs as their sisters above (Free/Laws.lean, Shelf42/LK1.lean); vx_outP calls Shelf42/NT130.lean (outThrough). -/
section
variable {l : Launch} {R : Room} {p : Program} {e : Env} {below : List Frame} {s : State} {sargs : Array Value} {y : MethodName} {len W9 : Nat}
theorem vx_backW {ws : List Cond} {rm : Room} {Pc : Array Value → State → Prop} {Qc : Array Value → State → Outcome → State → Prop} {XC : String → State → State → Prop} {mc ms : Nat} {free : Addr → Prop} {bytes : ByteArray} {maxL : Nat} {ret : Option FieldType} {hh : List (Nat × Nat × Nat × Nat)}
    (hM : vx_Met l y ws rm Pc Qc XC mc ms free) (hblind : FrameBlind Pc) (hrc : rm.cells = mc) (hrs : rm.slots = ms)
    (hframes : rm.frames + 1 ≤ R.frames) (hlocals : W9 + (maxL + 11) + rm.locals ≤ R.locals)
    (hws : ∀ w ∈ ws, ∀ a' U, s.WarmedH U.vm → w.before a' U = true) (hcode : Cond.codeWith y bytes maxL ret hh ∈ ws) (hinit : ∀ a' U, s.WarmedH U.vm → (Cond.initialized y.cls).before a' U = true) :
    vx_Back l R p e below s sargs y len W9 (PreOf R mc ms Pc) (PostOf Qc mc ms free) (vx_Post XC mc ms free) := by
  intro m meth c A g ig mk a X hg hsize hdg hW hn hp
  have h1 : (headSpec ws rm).pre.before a A.U = true := atoms_intro fun w hw => hws w hw _ _ X.warmed
  have h2 : (Cond.codeWith y bytes maxL ret hh).before a A.U = true := hws _ hcode _ _ X.warmed
  have h3 : (Cond.initialized y.cls).before a A.U = true := hinit _ _ X.warmed
  have h4 : A.cells + (headSpec ws rm).room.cells ≤ R.cells := by rw [show (headSpec ws rm).room.cells = mc from hrc]; exact hp.1
  have h5 : A.slots + (headSpec ws rm).room.slots ≤ R.slots := by rw [show (headSpec ws rm).room.slots = ms from hrs]; exact hp.2.1
  have hPc : Pc a (A.U.calling g mk a) := hblind _ _ _ _ hp.2.2
  obtain ⟨U, Ls, c0, s0⟩ := A
  dsimp only [Pt.U, Pt.locs, Pt.cells, Pt.slots] at h1 h2 h3 h4 h5 X hn hPc ⊢
  obtain ⟨m9, methY, cY, hn9, hmY, hcY, -, hlY, -⟩ := Cond.codeWith_spec h2
  cases Option.some.inj (hn9.symm.trans hn)
  obtain ⟨kY, hkY, -⟩ := className_of_methodNamed hn
  have hinitY : kY.init = .initialized := Cond.initialized_spec (findClass_of_methodNamed hn) hkY h3
  have h : At U g.method c below := by rw [hg]; exact X.here
  have hlocals9 : W9 + (maxL + 11) + (headSpec ws rm).room.locals ≤ R.locals := hlocals
  have happ : (headSpec ws rm).appliesLoose y e.platform (U.calling g mk a) = true :=
    Spec.appliesLoose_calling (g := g) h hdg hn hkY hinitY
      (X.room_calling (g := g) (R' := (headSpec ws rm).room) hsize hmY hcY hframes (by rw [hlY]; omega) h4 h5) h1
  obtain ⟨mid, hmid⟩ := h.above
  have hfr : (U.setTop g).frames = (.java g :: mid) ++ below := by rw [State.frames_setTop' g h.top, hmid]; rfl
  obtain ⟨o, s₂, hsteps, -, hend, hq⟩ := Steps.callFree hM p X.admits X.cas X.clock (acts := []) hfr happ hPc trivial
  have hq' : vx_Q Qc XC mc ms free a (U.calling g mk a) o s₂ := hq
  rw [State.frames_setTop' g h.top] at hend
  obtain ⟨g₀, hg0⟩ := Option.isSome_iff_exists.mp h.top
  obtain ⟨r, hr⟩ := State.topJava?_eq_some.mp hg0
  have hr' : (({ U with heap := s₂.heap, slotsUsed := s₂.slotsUsed } : State).setVm s₂.vm).frames = .java g₀ :: r := hr
  rcases hq' with ⟨hqc, L, hfe, hL⟩ | ⟨q, rfl, E, ce, L, hx, hce, hcv, hcl, hW₂, hsm, hL⟩
  · obtain ⟨⟨v, rfl⟩, hW₂, e2, q2, q3, q4, q5, q6⟩ := id hfe
    have e3 : s₂ = ({ (U.calling g mk a).setFrames s₂.frames with heap := s₂.heap, slotsUsed := s₂.slotsUsed } : State).setVm s₂.vm := by
      have : s₂ = ({ s₂ with vm := (U.calling g mk a).vm } : State).setVm s₂.vm := rfl
      rw [e2] at this
      exact this
    obtain ⟨c₂, i₂, len₂, hc₂, hd₂, hf₂⟩ := hend
    have hW' : U.WarmedH s₂.vm := hW₂
    have hcc : c₂ = c := by
      have h1 : s₂.code? g.method = U.code? g.method := by
        rw [State.code?_eq, State.code?_eq, hW'.alike.method?]
      exact Option.some.inj (hc₂.symm.trans (h1.trans h.code))
    subst hcc
    have hlen : len₂ = len := by rw [hdg] at hd₂; cases hd₂; rfl
    subst hlen
    have hs₂ : s₂ = (({ U with heap := s₂.heap, slotsUsed := s₂.slotsUsed } : State).setVm s₂.vm).setTop { g with pc := g.pc + len₂, stack := v.toList ++ g.stack } := by
      refine e3.trans ?_
      rw [hf₂, State.calling_eq h.top, State.setFrames_setFrames, State.setTop_of_frames _ hr', hr]
      rfl
    have hsame : U.sameButNew ({ U with heap := s₂.heap, slotsUsed := s₂.slotsUsed } : State) L mc ms := by
      refine ⟨?_, q2, q3, q4, q5, q6⟩
      obtain ⟨t, ht, -⟩ := State.frames_cons hr
      show ({ U with heap := s₂.heap, slotsUsed := s₂.slotsUsed } : State) = { U.setFrames U.frames with heap := s₂.heap, slotsUsed := s₂.slotsUsed }
      rw [State.setFrames_self ht]
    subst hg
    refine Or.inl ⟨v, ⟨(({ U with heap := s₂.heap, slotsUsed := s₂.slotsUsed } : State).setVm s₂.vm), Ls ++ L, c0 + mc, s0 + ms⟩,
      ⟨X.admits, X.cas, X.clock, X.frames, X.room, X.hears, X.method, X.code, (X.here.setHeapUsed s₂.heap s₂.slotsUsed).setVm hW'.alike, X.tail, State.WarmedH.trans X.warmed hW', X.limits, X.bytes, X.same.trans (hsame.setVm s.vm)⟩,
      ⟨g, mk, s₂, L, rfl, rfl, hqc, rfl, hL, rfl, rfl⟩, ?_⟩
    show Steps p.tables e below _ ((({ U with heap := s₂.heap, slotsUsed := s₂.slotsUsed } : State).setVm s₂.vm).setTop { g with pc := g.pc + len₂, stack := v.toList ++ g.stack })
    rw [← hs₂]
    exact hsteps
  · obtain ⟨e2, q2, q3, q4, q5, q6⟩ := id hsm
    have e3 : s₂ = ({ (U.calling g mk a).setFrames s₂.frames with heap := s₂.heap, slotsUsed := s₂.slotsUsed } : State).setVm s₂.vm := by
      have : s₂ = ({ s₂ with vm := (U.calling g mk a).vm } : State).setVm s₂.vm := rfl
      rw [e2] at this
      exact this
    have hf₂ : s₂.frames = .throwing q :: .java g :: U.frames.tail := hend
    have hW' : U.WarmedH s₂.vm := hW₂
    have hs₂ : s₂ = ((({ U with heap := s₂.heap, slotsUsed := s₂.slotsUsed } : State).setVm s₂.vm).setTop g).pushFrame (.throwing q) := by
      refine e3.trans ?_
      rw [hf₂, State.calling_eq h.top, State.setFrames_setFrames, State.pushFrame, State.frames_setTop _ hr', State.setTop_of_frames _ hr', State.setFrames_setFrames, hr]
      rfl
    have hsame : U.sameButNew ({ U with heap := s₂.heap, slotsUsed := s₂.slotsUsed } : State) L mc ms := by
      refine ⟨?_, q2, q3, q4, q5, q6⟩
      obtain ⟨t, ht, -⟩ := State.frames_cons hr
      show ({ U with heap := s₂.heap, slotsUsed := s₂.slotsUsed } : State) = { U.setFrames U.frames with heap := s₂.heap, slotsUsed := s₂.slotsUsed }
      rw [State.setFrames_self ht]
    subst hg
    refine Or.inr ⟨q, ⟨(({ U with heap := s₂.heap, slotsUsed := s₂.slotsUsed } : State).setVm s₂.vm), Ls ++ L, c0 + mc, s0 + ms⟩,
      ⟨X.admits, X.cas, X.clock, X.frames, X.room, X.hears, X.method, X.code, (X.here.setHeapUsed s₂.heap s₂.slotsUsed).setVm hW'.alike, X.tail, State.WarmedH.trans X.warmed hW', X.limits, X.bytes, X.same.trans (hsame.setVm s.vm)⟩,
      ⟨g, mk, s₂, L, E, ce, rfl, rfl, hx, hce, hcv, hcl, rfl, hL, rfl, rfl⟩, ?_⟩
    show Steps p.tables e below _ (((({ U with heap := s₂.heap, slotsUsed := s₂.slotsUsed } : State).setVm s₂.vm).setTop g).pushFrame (.throwing q))
    rw [← hs₂]
    exact hsteps
end
variable {p : Program} {l : Launch} {e : Env} {R : Room} {s : State} {m : MethodId} {args : Array Value} {below : List Frame} {meth : Method} {c : Code} {T : State} {H : Heap} {locs : List Loc} {cells slots : Nat}
theorem vx_callVX (X : Stand p l e R s m args below meth c T locs cells slots) (hexec : p.tables.exec = Jvm.exec) {own C : String} {index : Nat} {y : MethodName} {bytes : ByteArray} {maxL : Nat} {ret : Option FieldType} {hh : List (Nat × Nat × Nat × Nat)}
    (hown : s.vm.findClass own = some m.cls) (hlink : (Cond.methodLink own index y).before args s = true) (hinst : (Cond.instanceMethod y).before args s = true) (hsel : (Cond.selects C y y).before args s = true)
    (hcode : (Cond.codeWith y bytes maxL ret hh).before args s = true) (hy : y.cls ≠ "java/lang/invoke/MethodHandle" ∧ y.cls ≠ "java/lang/invoke/VarHandle")
    {W9 : Nat} {Pre : Pt → Array Value → Prop} {Post : Pt → Array Value → Option Value → Pt → Prop} {PostX : Pt → Array Value → Addr → Pt → Prop} (hK : vx_Back l R p e below s args y 3 W9 Pre Post PostX)
    {b : Addr} {cellB : Cell} (hcell : T.heap[b]? = some cellB) (hobj : cellB.vm.isStatics = false) (hcls : s.vm.findClass C = some cellB.cls)
    {g : JFrame} (hg : g.method = m) (hsize : g.locals.size = c.maxLocals) {argsL rest : List Value} (hlen : ∀ sig, parseMethodDescriptor y.desc = some sig → argsL.length = sig.parameters.length)
    (hstack : g.stack = argsL.reverse ++ .ref b :: rest) (hW : 2 * g.monitorRoom + (rest.map fun v => v.category).sum ≤ W9) (hdg : decode c.code g.pc = .ok (.invokevirtual index, 3))
    (hpre : ∀ vm₁, s.WarmedH vm₁ → Pre ⟨T.setVm vm₁, locs, cells, slots⟩ (Value.ref b :: argsL).toArray) :
    (∃ (v : Option Value) (vm₁ : Vm) (B : Pt), s.WarmedH vm₁ ∧ Stand p l e R s m args below meth c B.U B.locs B.cells B.slots ∧ Post ⟨T.setVm vm₁, locs, cells, slots⟩ (Value.ref b :: argsL).toArray v B ∧
      ∀ target, Steps p.tables e below (B.U.setTop { g with pc := g.pc + 3, stack := v.toList ++ rest }) target → Steps p.tables e below (T.setTop g) target) ∨
    (∃ (q : Addr) (vm₁ : Vm) (B : Pt), s.WarmedH vm₁ ∧ Stand p l e R s m args below meth c B.U B.locs B.cells B.slots ∧ PostX ⟨T.setVm vm₁, locs, cells, slots⟩ (Value.ref b :: argsL).toArray q B ∧
      Steps p.tables e below (T.setTop g) ((B.U.setTop { g with stack := rest }).pushFrame (.throwing q))) := by
  obtain ⟨mk, methM, hnamed, hmethM, hstM, habM⟩ := Cond.instanceMethod_spec hinst
  obtain ⟨m8, methM', cM, hn8, hmethM', -, -, -, -, -, -, hsigM⟩ := Cond.codeWith_spec hcode
  cases Option.some.inj (hn8.symm.trans hnamed)
  cases hmethM.symm.trans hmethM'
  obtain ⟨c2, r2, m2, q1, q2, q3, q4, kP, hkP, hkPi⟩ := Cond.selects_spec hsel
  cases hcls.symm.trans q1
  cases (State.methodFound?_of_named hnamed hy).symm.trans q2
  cases hnamed.symm.trans q3
  have hselP : selectMethod e.platform s.vm cellB.cls mk = .method mk := by rw [Launch.admits_selectMethod X.admits]; exact q4
  obtain ⟨vm₁, X₁, hstep₁⟩ := X.invokevirtual hexec hown hlink hnamed hmethM hstM hkP hkPi hy (a := b) (cell := cellB) hcell
    (fun z h => by rw [h] at hobj; cases hobj) hselP hmethM habM hkP hkPi (g := g) hg (argsL := argsL) (rest := rest) (hlen _ hsigM) hstack hdg
  rcases hK m meth c ⟨T.setVm vm₁, locs, cells, slots⟩ { g with stack := rest } (.invokevirtual index) mk (Value.ref b :: argsL).toArray X₁ hg hsize hdg hW (X₁.named hnamed) (hpre vm₁ X₁.warmed) with ⟨v, B, X', hpost, hsteps⟩ | ⟨q, B, X', hpost, hsteps⟩
  · exact Or.inl ⟨v, vm₁, B, X₁.warmed, X', hpost, fun target h => hstep₁ _ fun acts => by rw [doInvoke_state]; exact hsteps.trans h⟩
  · exact Or.inr ⟨q, vm₁, B, X₁.warmed, X', hpost, hstep₁ _ fun acts => by rw [doInvoke_state]; exact hsteps⟩
theorem vx_callSX (X : Stand p l e R s m args below meth c T locs cells slots) (hexec : p.tables.exec = Jvm.exec) {own : String} {index : Nat} {y : MethodName} {bytes : ByteArray} {maxL : Nat} {ret : Option FieldType} {hh : List (Nat × Nat × Nat × Nat)}
    (hown : s.vm.findClass own = some m.cls) (hlink : (Cond.methodLink own index y).before args s = true) (hstat : (Cond.static y).before args s = true) (hinit : (Cond.initialized y.cls).before args s = true)
    (hcode : (Cond.codeWith y bytes maxL ret hh).before args s = true) (hy : y.cls ≠ "java/lang/invoke/MethodHandle" ∧ y.cls ≠ "java/lang/invoke/VarHandle")
    {W9 : Nat} {Pre : Pt → Array Value → Prop} {Post : Pt → Array Value → Option Value → Pt → Prop} {PostX : Pt → Array Value → Addr → Pt → Prop} (hK : vx_Back l R p e below s args y 3 W9 Pre Post PostX)
    {g : JFrame} (hg : g.method = m) (hsize : g.locals.size = c.maxLocals) {argsL rest : List Value} (hlen : ∀ sig, parseMethodDescriptor y.desc = some sig → argsL.length = sig.parameters.length)
    (hstack : g.stack = argsL.reverse ++ rest) (hW : 2 * g.monitorRoom + (rest.map fun v => v.category).sum ≤ W9) (hdg : decode c.code g.pc = .ok (.invokestatic index, 3))
    (hpre : ∀ vm₁, s.WarmedH vm₁ → Pre ⟨T.setVm vm₁, locs, cells, slots⟩ argsL.toArray) :
    (∃ (v : Option Value) (vm₁ : Vm) (B : Pt), s.WarmedH vm₁ ∧ Stand p l e R s m args below meth c B.U B.locs B.cells B.slots ∧ Post ⟨T.setVm vm₁, locs, cells, slots⟩ argsL.toArray v B ∧
      ∀ target, Steps p.tables e below (B.U.setTop { g with pc := g.pc + 3, stack := v.toList ++ rest }) target → Steps p.tables e below (T.setTop g) target) ∨
    (∃ (q : Addr) (vm₁ : Vm) (B : Pt), s.WarmedH vm₁ ∧ Stand p l e R s m args below meth c B.U B.locs B.cells B.slots ∧ PostX ⟨T.setVm vm₁, locs, cells, slots⟩ argsL.toArray q B ∧
      Steps p.tables e below (T.setTop g) ((B.U.setTop { g with stack := rest }).pushFrame (.throwing q))) := by
  obtain ⟨mk, methM, cM, hnamed, hmethM, -, -, -, -, -, -, hsigM⟩ := Cond.codeWith_spec hcode
  have hstatic : methM.isStatic = true := Cond.static_spec hnamed hmethM hstat
  obtain ⟨kP, hkP, -⟩ := className_of_methodNamed hnamed
  have hinitP : kP.init = .initialized := Cond.initialized_spec (findClass_of_methodNamed hnamed) hkP hinit
  obtain ⟨vm₁, X₁, hstep₁⟩ := X.invokestatic hexec hown hlink hnamed hmethM hstatic hkP hinitP hy (g := g) hg (argsL := argsL) (rest := rest) (hlen _ hsigM) hstack hdg
  rcases hK m meth c ⟨T.setVm vm₁, locs, cells, slots⟩ { g with stack := rest } (.invokestatic index) mk argsL.toArray X₁ hg hsize hdg hW (X₁.named hnamed) (hpre vm₁ X₁.warmed) with ⟨v, B, X', hpost, hsteps⟩ | ⟨q, B, X', hpost, hsteps⟩
  · exact Or.inl ⟨v, vm₁, B, X₁.warmed, X', hpost, fun target h => hstep₁ _ fun acts => by rw [doInvoke_state]; exact hsteps.trans h⟩
  · exact Or.inr ⟨q, vm₁, B, X₁.warmed, X', hpost, hstep₁ _ fun acts => by rw [doInvoke_state]; exact hsteps⟩
theorem vx_callVW (X : Stand p l e R s m args below meth c T locs cells slots) (hexec : p.tables.exec = Jvm.exec) {own C : String} {index : Nat} {y : MethodName} {bytes : ByteArray} {maxL : Nat} {ret : Option FieldType} {hh : List (Nat × Nat × Nat × Nat)}
    (hown : s.vm.findClass own = some m.cls) (hlink : (Cond.methodLink own index y).before args s = true) (hinst : (Cond.instanceMethod y).before args s = true) (hsel : (Cond.selects C y y).before args s = true)
    (hcode : (Cond.codeWith y bytes maxL ret hh).before args s = true) (hy : y.cls ≠ "java/lang/invoke/MethodHandle" ∧ y.cls ≠ "java/lang/invoke/VarHandle")
    {W9 : Nat} {Pre : Pt → Array Value → Prop} {Post : Pt → Array Value → Option Value → Pt → Prop} (hK : Back l R p e below s args y 3 W9 Pre Post)
    {b : Addr} {cellB : Cell} (hcell : T.heap[b]? = some cellB) (hobj : cellB.vm.isStatics = false) (hcls : s.vm.findClass C = some cellB.cls)
    {g : JFrame} (hg : g.method = m) (hsize : g.locals.size = c.maxLocals) {argsL rest : List Value} (hlen : ∀ sig, parseMethodDescriptor y.desc = some sig → argsL.length = sig.parameters.length)
    (hstack : g.stack = argsL.reverse ++ .ref b :: rest) (hW : 2 * g.monitorRoom + (rest.map fun v => v.category).sum ≤ W9) (hdg : decode c.code g.pc = .ok (.invokevirtual index, 3))
    (hpre : ∀ vm₁, s.WarmedH vm₁ → Pre ⟨T.setVm vm₁, locs, cells, slots⟩ (Value.ref b :: argsL).toArray) :
    ∃ (v : Option Value) (vm₁ : Vm) (B : Pt), s.WarmedH vm₁ ∧ Stand p l e R s m args below meth c B.U B.locs B.cells B.slots ∧ Post ⟨T.setVm vm₁, locs, cells, slots⟩ (Value.ref b :: argsL).toArray v B ∧
      ∀ target, Steps p.tables e below (B.U.setTop { g with pc := g.pc + 3, stack := v.toList ++ rest }) target → Steps p.tables e below (T.setTop g) target := by
  obtain ⟨mk, methM, hnamed, hmethM, hstM, habM⟩ := Cond.instanceMethod_spec hinst
  obtain ⟨m8, methM', cM, hn8, hmethM', -, -, -, -, -, -, hsigM⟩ := Cond.codeWith_spec hcode
  cases Option.some.inj (hn8.symm.trans hnamed)
  cases hmethM.symm.trans hmethM'
  obtain ⟨c2, r2, m2, q1, q2, q3, q4, kP, hkP, hkPi⟩ := Cond.selects_spec hsel
  cases hcls.symm.trans q1
  cases (State.methodFound?_of_named hnamed hy).symm.trans q2
  cases hnamed.symm.trans q3
  have hselP : selectMethod e.platform s.vm cellB.cls mk = .method mk := by rw [Launch.admits_selectMethod X.admits]; exact q4
  obtain ⟨vm₁, X₁, hstep₁⟩ := X.invokevirtual hexec hown hlink hnamed hmethM hstM hkP hkPi hy (a := b) (cell := cellB) hcell
    (fun z h => by rw [h] at hobj; cases hobj) hselP hmethM habM hkP hkPi (g := g) hg (argsL := argsL) (rest := rest) (hlen _ hsigM) hstack hdg
  obtain ⟨v, B, X', hpost, hsteps⟩ := hK m meth c ⟨T.setVm vm₁, locs, cells, slots⟩ { g with stack := rest } (.invokevirtual index) mk (Value.ref b :: argsL).toArray X₁ hg hsize hdg hW (X₁.named hnamed) (hpre vm₁ X₁.warmed)
  exact ⟨v, vm₁, B, X₁.warmed, X', hpost, fun target h => hstep₁ _ fun acts => by rw [doInvoke_state]; exact hsteps.trans h⟩
abbrev vx_CVW (R : Room) (s : State) (args : Array Value) (own C : String) (index : Nat) (y : MethodName) (bytes : ByteArray) (maxL : Nat) (ret : Option FieldType) (hh : List (Nat × Nat × Nat × Nat)) (ws : List Cond) (rm : Room) (mc ms n : Nat) : Prop :=
  (rm.cells = mc ∧ rm.slots = ms ∧ rm.frames + 1 ≤ R.frames ∧ 8 + (maxL + 11) + rm.locals ≤ R.locals ∧ (∀ w ∈ ws, ∀ (a' : Array Value) (U : State), s.WarmedH U.vm → w.before a' U = true) ∧ Cond.codeWith y bytes maxL ret hh ∈ ws) ∧
  (Cond.codeWith y bytes maxL ret hh).before args s = true ∧ (Cond.initialized y.cls).before args s = true ∧ (y.cls ≠ "java/lang/invoke/MethodHandle" ∧ y.cls ≠ "java/lang/invoke/VarHandle") ∧
  (∀ sig, parseMethodDescriptor y.desc = some sig → n = sig.parameters.length) ∧ (Cond.methodLink own index y).before args s = true ∧ (Cond.instanceMethod y).before args s = true ∧ (Cond.selects C y y).before args s = true
theorem vx_cwVW {own C : String} {index maxL mc ms : Nat} {y : MethodName} {bytes : ByteArray} {ret : Option FieldType} {hh : List (Nat × Nat × Nat × Nat)} {Ts ws ws' : List Cond} {rm : Room} (n : Nat) (ht : ∀ w ∈ Ts, w.before args s = true) (hT : GoodIn Ts (wsV own index C y ws)) (hw : ws = Cond.codeWith y bytes maxL ret hh :: ws') (hrc : rm.cells = mc) (hrs : rm.slots = ms)
    (hd : y.cls = C ∧ y.cls ≠ "java/lang/invoke/MethodHandle" ∧ y.cls ≠ "java/lang/invoke/VarHandle" ∧ (parseMethodDescriptor y.desc).map (fun d => d.parameters.length) = some n) (hR : rm.frames + 1 ≤ R.frames ∧ 8 + (maxL + 11) + rm.locals ≤ R.locals) :
    vx_CVW R s args own C index y bytes maxL ret hh ws rm mc ms n := by
  obtain ⟨hC, hd⟩ := hd
  subst hC
  have ok : ∀ w ∈ wsV own index y.cls y ws, w.before args s = true := fun w h => ht w (hT w h).1
  have hG : GoodIn Ts ws := fun w h => hT w (by unfold wsV; exact List.mem_append_right _ h)
  have hc : Cond.codeWith y bytes maxL ret hh ∈ ws := by rw [hw]; exact List.mem_cons_self
  refine ⟨⟨hrc, hrs, hR.1, hR.2, pay_in ht hG, hc⟩, ht _ (hG _ hc).1, ok _ (by simp [wsV]), ⟨hd.1, hd.2.1⟩, fun sig h => ?_, ok _ (by simp [wsV]), ok _ (by simp [wsV]), ok _ (by simp [wsV])⟩
  have h2 := hd.2.2
  rw [h] at h2
  exact (Option.some.inj h2).symm
theorem vx_runVW {y : MethodName} {bytes cc : ByteArray} {maxL nL mc ms n index : Nat} {ret : Option FieldType} {hh : List (Nat × Nat × Nat × Nat)} {ws : List Cond} {rm : Room} {Pc : Array Value → State → Prop} {Qc : Array Value → State → Outcome → State → Prop} {free : Addr → Prop} {Ts : List Cond} {own C : String} {b : Addr} {As rest : List Value} {g : JFrame}
    (S : CallFix p m c cc nL s args Ts own) (hM : Met l y ws rm Pc Qc mc ms free) (cw : vx_CVW R s args own C index y bytes maxL ret hh ws rm mc ms n) (hp : PreV s H C b Pc As)
    (hg : g.method = m) (hn : As.length = n) (hsize : g.locals.size = nL) (hstack : g.stack = As.reverse ++ .ref b :: rest) (hW : 2 * g.monitorRoom + (rest.map fun v => v.category).sum ≤ 8) (hdg : decode cc g.pc = .ok (.invokevirtual index, 3)) (hf : cells + mc ≤ R.cells ∧ slots + ms ≤ R.slots) :
    va_Run p l e R s m args below meth c H locs cells slots mc ms g rest (Qc (Value.ref b :: As).toArray) free := by
  obtain ⟨⟨hrc, hrs, hfr, hlo, hws, hcw⟩, hcode, hini, hy, hlen, hl, hin, hse⟩ := cw
  have hK : Back l R p e below s args y 3 8 (PreOf R mc ms Pc) (PostOf Qc mc ms free) := va_backW (hh := hh) (bytes := bytes) (maxL := maxL) (ret := ret) hM hp.1 hrc hrs hfr hlo hws hcw (fun a' U hW => word_at hW (Or.inl (by first | rfl | simp [Cond.onTables, Cond.keeps, Cond.steady])) hini)
  obtain ⟨hx, hb, hml, ho, -⟩ := S
  obtain ⟨-, ⟨cellB, hcB, hoB, hclB⟩, hPc⟩ := hp
  intro T hT X
  obtain ⟨v, vm₁, ⟨U', l2, c2, s2⟩, hW₁, X', ⟨g', mk, t, L, e1, e2, hq, h1, hL, h2, h3⟩, st⟩ := vx_callVW X hx (C := C) (hh := hh) (bytes := bytes) (maxL := maxL) (ret := ret) ho hl hin hse hcode hy hK (by rw [hT]; exact hcB) hoB hclB hg (hsize.trans hml.symm) (argsL := As) (rest := rest) (fun sig h => hn.trans (hlen sig h)) hstack hW (by rw [hb]; exact hdg)
    (fun vm₁ hW₁ => ⟨hf.1, hf.2, hPc (T.setVm vm₁) hT hW₁⟩)
  dsimp only [Pt.U, Pt.locs, Pt.cells, Pt.slots] at X' e1 e2 h1 h2 h3 st
  subst h1; subst h2; subst h3
  exact ⟨v, (T.setVm vm₁).calling g' mk (Value.ref b :: As).toArray, t, U', L, hT, X', hL, e1, e2, hq, st⟩
section
variable {y : MethodName} {bytes cc : ByteArray} {maxL nL mc ms n index : Nat} {ret : Option FieldType} {ws : List Cond} {rm : Room} {Pc : Array Value → State → Prop} {Qc : Array Value → State → Outcome → State → Prop} {XC : String → State → State → Prop} {free : Addr → Prop} {Ts : List Cond} {own C : String} {b : Addr} {As rest : List Value} {g : JFrame}
theorem vx_runVX {hh : List (Nat × Nat × Nat × Nat)} (S : CallFix p m c cc nL s args Ts own) (hM : vx_Met l y ws rm Pc Qc XC mc ms free) (cw : vx_CVW R s args own C index y bytes maxL ret hh ws rm mc ms n) (hp : PreV s H C b Pc As)
    (hg : g.method = m) (hn : As.length = n) (hsize : g.locals.size = nL) (hstack : g.stack = As.reverse ++ .ref b :: rest) (hW : 2 * g.monitorRoom + (rest.map fun v => v.category).sum ≤ 8) (hdg : decode cc g.pc = .ok (.invokevirtual index, 3)) (hf : cells + mc ≤ R.cells ∧ slots + ms ≤ R.slots) :
    vx_Run p l e R s m args below meth c H locs cells slots mc ms g rest (Qc (Value.ref b :: As).toArray) XC free := by
  obtain ⟨⟨hrc, hrs, hfr, hlo, hws, hcw⟩, hcode, hini, hy, hlen, hl, hin, hse⟩ := cw
  have hK : vx_Back l R p e below s args y 3 8 (PreOf R mc ms Pc) (PostOf Qc mc ms free) (vx_Post XC mc ms free) := vx_backW (hh := hh) (bytes := bytes) (maxL := maxL) (ret := ret) hM hp.1 hrc hrs hfr hlo hws hcw (fun a' U hW => word_at hW (Or.inl (by first | rfl | simp [Cond.onTables, Cond.keeps, Cond.steady])) hini)
  obtain ⟨hx, hb, hml, ho, -⟩ := S
  obtain ⟨-, ⟨cellB, hcB, hoB, hclB⟩, hPc⟩ := hp
  intro T hT X
  rcases vx_callVX X hx (C := C) (hh := hh) (bytes := bytes) (maxL := maxL) (ret := ret) ho hl hin hse hcode hy hK (by rw [hT]; exact hcB) hoB hclB hg (hsize.trans hml.symm) (argsL := As) (rest := rest) (fun sig h => hn.trans (hlen sig h)) hstack hW (by rw [hb]; exact hdg)
    (fun vm₁ hW₁ => ⟨hf.1, hf.2, hPc (T.setVm vm₁) hT hW₁⟩) with ⟨v, vm₁, ⟨U', l2, c2, s2⟩, hW₁, X', ⟨g', mk, t, L, e1, e2, hq, h1, hL, h2, h3⟩, st⟩ | ⟨q, vm₁, ⟨U', l2, c2, s2⟩, hW₁, X', ⟨g', mk, t, L, E, ce, e1, e2, hq, hce, hcv, hcl, h1, hL, h2, h3⟩, st⟩
  · dsimp only [Pt.U, Pt.locs, Pt.cells, Pt.slots] at X' e1 e2 h1 h2 h3 st
    subst h1; subst h2; subst h3
    exact Or.inl ⟨v, (T.setVm vm₁).calling g' mk (Value.ref b :: As).toArray, t, U', L, hT, X', hL, e1, e2, hq, st⟩
  · dsimp only [Pt.U, Pt.locs, Pt.cells, Pt.slots] at X' e1 e2 h1 h2 h3 st hcl
    subst h1; subst h2; subst h3
    exact Or.inr ⟨q, (T.setVm vm₁).calling g' mk (Value.ref b :: As).toArray, t, U', L, E, ce, hT, X', hL, e1, e2, hq, hce, hcv, vx_cls hW₁ hcl, st⟩
theorem vx_runSX {hh : List (Nat × Nat × Nat × Nat)} (S : CallFix p m c cc nL s args Ts own) (hM : vx_Met l y ws rm Pc Qc XC mc ms free) (cw : vx_CSW R s args own index y bytes maxL ret hh ws rm mc ms n) (hp : PreS s H Pc As)
    (hg : g.method = m) (hn : As.length = n) (hsize : g.locals.size = nL) (hstack : g.stack = As.reverse ++ rest) (hW : 2 * g.monitorRoom + (rest.map fun v => v.category).sum ≤ 8) (hdg : decode cc g.pc = .ok (.invokestatic index, 3)) (hf : cells + mc ≤ R.cells ∧ slots + ms ≤ R.slots) :
    vx_Run p l e R s m args below meth c H locs cells slots mc ms g rest (Qc As.toArray) XC free := by
  obtain ⟨⟨hrc, hrs, hfr, hlo, hws, hcw⟩, hcode, hini, hy, hlen, hl, hstt⟩ := cw
  have hK : vx_Back l R p e below s args y 3 8 (PreOf R mc ms Pc) (PostOf Qc mc ms free) (vx_Post XC mc ms free) := vx_backW (hh := hh) (bytes := bytes) (maxL := maxL) (ret := ret) hM hp.1 hrc hrs hfr hlo hws hcw (fun a' U hW => word_at hW (Or.inl (by first | rfl | simp [Cond.onTables, Cond.keeps, Cond.steady])) hini)
  obtain ⟨hx, hb, hml, ho, -⟩ := S
  intro T hT X
  rcases vx_callSX X hx (hh := hh) (bytes := bytes) (maxL := maxL) (ret := ret) ho hl hstt hini hcode hy hK hg (hsize.trans hml.symm) (argsL := As) (rest := rest) (fun sig h => hn.trans (hlen sig h)) hstack hW (by rw [hb]; exact hdg)
    (fun vm₁ hW₁ => ⟨hf.1, hf.2, hp.2 (T.setVm vm₁) hT hW₁⟩) with ⟨v, vm₁, ⟨U', l2, c2, s2⟩, hW₁, X', ⟨g', mk, t, L, e1, e2, hq, h1, hL, h2, h3⟩, st⟩ | ⟨q, vm₁, ⟨U', l2, c2, s2⟩, hW₁, X', ⟨g', mk, t, L, E, ce, e1, e2, hq, hce, hcv, hcl, h1, hL, h2, h3⟩, st⟩
  · dsimp only [Pt.U, Pt.locs, Pt.cells, Pt.slots] at X' e1 e2 h1 h2 h3 st
    subst h1; subst h2; subst h3
    exact Or.inl ⟨v, (T.setVm vm₁).calling g' mk As.toArray, t, U', L, hT, X', hL, e1, e2, hq, st⟩
  · dsimp only [Pt.U, Pt.locs, Pt.cells, Pt.slots] at X' e1 e2 h1 h2 h3 st hcl
    subst h1; subst h2; subst h3
    exact Or.inr ⟨q, (T.setVm vm₁).calling g' mk As.toArray, t, U', L, E, ce, hT, X', hL, e1, e2, hq, hce, hcv, vx_cls hW₁ hcl, st⟩
end
end VXH
theorem vx_ofWH {l : Launch} {y : MethodName} {ws ws' : List Cond} {rm : Room} {Pc : Array Value → State → Prop} {Qc : Array Value → State → Outcome → State → Prop} {XC : String → State → State → Prop} {mc ms : Nat} {free : Addr → Prop} {cc : ByteArray} {maxL : Nat} {ret : Option FieldType} {hh : List (Nat × Nat × Nat × Nat)}
    (hy : plainName y.cls = true) (hw : ws = Cond.codeWith y cc maxL ret hh :: ws')
    (body : ∀ p e s m args below meth c s₁, BodyLoose p l y (headSpec ws rm) cc maxL ret e s m args below meth c s₁ → c.maxLocals = maxL → Pc args s →
      W p l e (headSpec ws rm).room s m args below meth c s.heap [] 0 0 (vx_MQ below Qc XC args s mc ms free) (entryFrame m args maxL)) : vx_Met l y ws rm Pc Qc XC mc ms free := by
  refine MetFree.of_bodyS (code := cc) (maxLocals := maxL) (ret := ret) hy ?_ ?_
  · intro args s m h hn
    obtain ⟨m9, meth, c, hn9, h1, h2, h3, h4, -, h5, h6, -⟩ := Cond.codeWith_spec (atoms_spec (ws := ws) h _ (by rw [hw]; exact List.mem_cons_self))
    cases hn.symm.trans hn9
    exact ⟨meth, c, h1, h2, h3, h4, h5, h6⟩
  · intro p e s m args below meth c s₁ B hml hP _
    have hh0 : s₁.heap = s.heap := by rw [B.state]; rfl
    obtain ⟨t, a1, o, b1, b2, b3⟩ := body p e s m args below meth c s₁ B hml hP s₁ hh0 (Stand.of_body B)
    exact ⟨t, o, a1, b1, b2, b3⟩
/-! ===== END ===== -/
end
section
/-! ===== BEGIN printed: names, fields, word lists, decode rows ===== -/
def RX0 : String := "TelegraphPrices"
def TX0 : u_T := fun k => match k with
  | 0 => ("TelegraphPrices", "letters", "[I", true)
  | 1 => ("TelegraphPrices", "standIns", "[I", true)
  | 2 => ("TelegraphPrices", "joins", "[I", true)
  | 3 => ("TelegraphPrices", "words", "I", false)
  | 4 => ("TelegraphPrices", "limit", "I", false)
  | 5 => ("TelegraphPrices", "leastCount", "I", false)
  | 6 => ("TelegraphPrices", "coins", "I", false)
  | 7 => ("TelegraphPrices", "telegram", "[I", true)
  | 8 => ("TelegraphPrices", "joined", "[Z", true)
  | 9 => ("TelegraphPrices", "length", "I", false)
  | 10 => ("TelegraphPrices", "sent", "I", false)
  | 11 => ("TelegraphPrices", "earned", "I", false)
  | 12 => ("TelegraphPrices", "leastAlone", "[I", true)
  | 13 => ("TelegraphPrices", "leastJoined", "[I", true)
  | 14 => ("TelegraphPrices", "leastTried", "[I", true)
  | 15 => ("TelegraphPrices", "leastFrom", "[I", true)
  | 16 => ("TelegraphPrices", "cheapestWords", "[I", true)
  | _ => ("TelegraphPrices", "cheapestJoined", "[Z", true)
def tyX0 : Nat → FieldType := fun k => match k with
  | 0 => .array .int
  | 1 => .array .int
  | 2 => .array .int
  | 3 => .int
  | 4 => .int
  | 5 => .int
  | 6 => .int
  | 7 => .array .int
  | 8 => .array .boolean
  | 9 => .int
  | 10 => .int
  | 11 => .int
  | 12 => .array .int
  | 13 => .array .int
  | 14 => .array .int
  | 15 => .array .int
  | 16 => .array .int
  | _ => .array .boolean
abbrev wsX00 : List Cond := u_ws RX0 TX0 18
theorem nmX0 : ∀ a, a < 18 → ∀ b, b < 18 → a ≠ b → (TX0 a).2.1 ≠ (TX0 b).2.1 := by decide +kernel
theorem tyX0_ok : ∀ k, k < 18 → parseFieldDescriptor (TX0 k).2.2.1 = some (tyX0 k) := by decide +kernel
abbrev cX0_init : ByteArray := prog_1_method_1_code
def yX0_init : MethodName := ⟨RX0, "<init>", "()V"⟩
abbrev cX0_addWord : ByteArray := prog_1_method_2_code
def yX0_addWord : MethodName := ⟨RX0, "addWord", "(I)I"⟩
abbrev cX0_turnStandIn : ByteArray := prog_1_method_3_code
def yX0_turnStandIn : MethodName := ⟨RX0, "turnStandIn", "(II)Z"⟩
abbrev cX0_turnJoin : ByteArray := prog_1_method_4_code
def yX0_turnJoin : MethodName := ⟨RX0, "turnJoin", "(II)Z"⟩
abbrev cX0_setLimit : ByteArray := prog_1_method_5_code
def yX0_setLimit : MethodName := ⟨RX0, "setLimit", "(I)I"⟩
abbrev cX0_setLeastCount : ByteArray := prog_1_method_6_code
def yX0_setLeastCount : MethodName := ⟨RX0, "setLeastCount", "(I)I"⟩
abbrev cX0_setCoins : ByteArray := prog_1_method_7_code
def yX0_setCoins : MethodName := ⟨RX0, "setCoins", "(I)I"⟩
abbrev cX0_write : ByteArray := prog_1_method_8_code
def yX0_write : MethodName := ⟨RX0, "write", "(I)I"⟩
abbrev cX0_strike : ByteArray := prog_1_method_9_code
def yX0_strike : MethodName := ⟨RX0, "strike", "(I)I"⟩
abbrev cX0_turnJoined : ByteArray := prog_1_method_10_code
def yX0_turnJoined : MethodName := ⟨RX0, "turnJoined", "(I)Z"⟩
abbrev cX0_reword : ByteArray := prog_1_method_11_code
def yX0_reword : MethodName := ⟨RX0, "reword", "()I"⟩
abbrev cX0_send : ByteArray := prog_1_method_12_code
def yX0_send : MethodName := ⟨RX0, "send", "(I)I"⟩
abbrev cX0_words : ByteArray := prog_1_method_13_code
def yX0_words : MethodName := ⟨RX0, "words", "()I"⟩
abbrev cX0_lettersOf : ByteArray := prog_1_method_14_code
def yX0_lettersOf : MethodName := ⟨RX0, "lettersOf", "(I)I"⟩
abbrev cX0_countOf : ByteArray := prog_1_method_15_code
def yX0_countOf : MethodName := ⟨RX0, "countOf", "(I)I"⟩
abbrev cX0_mayStandFor : ByteArray := prog_1_method_16_code
def yX0_mayStandFor : MethodName := ⟨RX0, "mayStandFor", "(II)Z"⟩
abbrev cX0_mayJoin : ByteArray := prog_1_method_17_code
def yX0_mayJoin : MethodName := ⟨RX0, "mayJoin", "(II)Z"⟩
abbrev cX0_standInsOf : ByteArray := prog_1_method_18_code
def yX0_standInsOf : MethodName := ⟨RX0, "standInsOf", "(I)I"⟩
abbrev cX0_limit : ByteArray := prog_1_method_19_code
def yX0_limit : MethodName := ⟨RX0, "limit", "()I"⟩
abbrev cX0_leastCount : ByteArray := prog_1_method_20_code
def yX0_leastCount : MethodName := ⟨RX0, "leastCount", "()I"⟩
abbrev cX0_coins : ByteArray := prog_1_method_21_code
def yX0_coins : MethodName := ⟨RX0, "coins", "()I"⟩
abbrev cX0_length : ByteArray := prog_1_method_22_code
def yX0_length : MethodName := ⟨RX0, "length", "()I"⟩
abbrev cX0_wordAt : ByteArray := prog_1_method_23_code
def yX0_wordAt : MethodName := ⟨RX0, "wordAt", "(I)I"⟩
abbrev cX0_isJoined : ByteArray := prog_1_method_24_code
def yX0_isJoined : MethodName := ⟨RX0, "isJoined", "(I)Z"⟩
abbrev cX0_count : ByteArray := prog_1_method_25_code
def yX0_count : MethodName := ⟨RX0, "count", "()I"⟩
abbrev cX0_price : ByteArray := prog_1_method_26_code
def yX0_price : MethodName := ⟨RX0, "price", "()I"⟩
abbrev cX0_priceTo : ByteArray := prog_1_method_27_code
def yX0_priceTo : MethodName := ⟨RX0, "priceTo", "(I)I"⟩
abbrev cX0_sent : ByteArray := prog_1_method_28_code
def yX0_sent : MethodName := ⟨RX0, "sent", "()I"⟩
abbrev cX0_earned : ByteArray := prog_1_method_29_code
def yX0_earned : MethodName := ⟨RX0, "earned", "()I"⟩
abbrev cX0_cheapestCount : ByteArray := prog_1_method_30_code
def yX0_cheapestCount : MethodName := ⟨RX0, "cheapestCount", "()I"⟩
abbrev cX0_cheapestWordAt : ByteArray := prog_1_method_31_code
def yX0_cheapestWordAt : MethodName := ⟨RX0, "cheapestWordAt", "(I)I"⟩
abbrev cX0_isJoinedInCheapest : ByteArray := prog_1_method_32_code
def yX0_isJoinedInCheapest : MethodName := ⟨RX0, "isJoinedInCheapest", "(I)Z"⟩
abbrev cX0_saves : ByteArray := prog_1_method_33_code
def yX0_saves : MethodName := ⟨RX0, "saves", "()I"⟩
abbrev cX0_wordings : ByteArray := prog_1_method_34_code
def yX0_wordings : MethodName := ⟨RX0, "wordings", "()I"⟩
abbrev cX0_bestJoin : ByteArray := prog_1_method_35_code
def yX0_bestJoin : MethodName := ⟨RX0, "bestJoin", "()I"⟩
abbrev cX0_meanCost : ByteArray := prog_1_method_36_code
def yX0_meanCost : MethodName := ⟨RX0, "meanCost", "()D"⟩
abbrev cX0_digest : ByteArray := prog_1_method_37_code
def yX0_digest : MethodName := ⟨RX0, "digest", "()J"⟩
abbrev cX0_needWord : ByteArray := prog_1_method_38_code
def yX0_needWord : MethodName := ⟨RX0, "needWord", "(I)V"⟩
abbrev cX0_needPlace : ByteArray := prog_1_method_39_code
def yX0_needPlace : MethodName := ⟨RX0, "needPlace", "(I)V"⟩
abbrev cX0_hasBit : ByteArray := prog_1_method_40_code
def yX0_hasBit : MethodName := ⟨RX0, "hasBit", "(II)Z"⟩
abbrev cX0_countOfLetters : ByteArray := prog_1_method_41_code
def yX0_countOfLetters : MethodName := ⟨RX0, "countOfLetters", "(I)I"⟩
abbrev cX0_countOfPair : ByteArray := prog_1_method_42_code
def yX0_countOfPair : MethodName := ⟨RX0, "countOfPair", "(II)I"⟩
abbrev cX0_atLeastTheLeastCount : ByteArray := prog_1_method_43_code
def yX0_atLeastTheLeastCount : MethodName := ⟨RX0, "atLeastTheLeastCount", "(I)I"⟩
abbrev cX0_couldBeJoined : ByteArray := prog_1_method_44_code
def yX0_couldBeJoined : MethodName := ⟨RX0, "couldBeJoined", "(I)Z"⟩
abbrev cX0_mayHold : ByteArray := prog_1_method_45_code
def yX0_mayHold : MethodName := ⟨RX0, "mayHold", "(II)Z"⟩
abbrev cX0_noteLeastCounts : ByteArray := prog_1_method_46_code
def yX0_noteLeastCounts : MethodName := ⟨RX0, "noteLeastCounts", "()V"⟩
abbrev cX0_bestWordAt : ByteArray := prog_1_method_47_code
def yX0_bestWordAt : MethodName := ⟨RX0, "bestWordAt", "(I)I"⟩
abbrev cX0_bestPairAt : ByteArray := prog_1_method_48_code
def yX0_bestPairAt : MethodName := ⟨RX0, "bestPairAt", "(I)I"⟩
abbrev cX0_leastInAll : ByteArray := prog_1_method_49_code
def yX0_leastInAll : MethodName := ⟨RX0, "leastInAll", "([I)I"⟩
abbrev cX0_cheapestCountWithJoin : ByteArray := prog_1_method_50_code
def yX0_cheapestCountWithJoin : MethodName := ⟨RX0, "cheapestCountWithJoin", "(II)I"⟩
abbrev cX0_noteCheapestWording : ByteArray := prog_1_method_51_code
def yX0_noteCheapestWording : MethodName := ⟨RX0, "noteCheapestWording", "()V"⟩
abbrev cX0_noteCheapestAt : ByteArray := prog_1_method_52_code
def yX0_noteCheapestAt : MethodName := ⟨RX0, "noteCheapestAt", "(IIZ)V"⟩
abbrev cX0_digestOfWords : ByteArray := prog_1_method_53_code
def yX0_digestOfWords : MethodName := ⟨RX0, "digestOfWords", "(J)J"⟩
abbrev cX0_digestOfPlaces : ByteArray := prog_1_method_54_code
def yX0_digestOfPlaces : MethodName := ⟨RX0, "digestOfPlaces", "(J)J"⟩
def RX1 : String := "TelegraphPricesModel"
def TX1 : u_T := fun k => match k with
  | 0 => ("TelegraphPricesModel", "thrown", "I", false)
  | 1 => ("TelegraphPricesModel", "words", "I", false)
  | 2 => ("TelegraphPricesModel", "limit", "I", false)
  | 3 => ("TelegraphPricesModel", "least", "I", false)
  | 4 => ("TelegraphPricesModel", "coins", "I", false)
  | 5 => ("TelegraphPricesModel", "sent", "I", false)
  | 6 => ("TelegraphPricesModel", "earned", "I", false)
  | 7 => ("TelegraphPricesModel", "letters", "[I", true)
  | 8 => ("TelegraphPricesModel", "stand", "[I", true)
  | 9 => ("TelegraphPricesModel", "join", "[I", true)
  | 10 => ("TelegraphPricesModel", "length", "I", false)
  | 11 => ("TelegraphPricesModel", "word", "[I", true)
  | 12 => ("TelegraphPricesModel", "joined", "[Z", true)
  | 13 => ("TelegraphPricesModel", "from", "[I", true)
  | 14 => ("TelegraphPricesModel", "cheap", "[I", true)
  | _ => ("TelegraphPricesModel", "with", "[Z", true)
def tyX1 : Nat → FieldType := fun k => match k with
  | 0 => .int
  | 1 => .int
  | 2 => .int
  | 3 => .int
  | 4 => .int
  | 5 => .int
  | 6 => .int
  | 7 => .array .int
  | 8 => .array .int
  | 9 => .array .int
  | 10 => .int
  | 11 => .array .int
  | 12 => .array .boolean
  | 13 => .array .int
  | 14 => .array .int
  | _ => .array .boolean
abbrev wsX10 : List Cond := u_ws RX1 TX1 16
theorem nmX1 : ∀ a, a < 16 → ∀ b, b < 16 → a ≠ b → (TX1 a).2.1 ≠ (TX1 b).2.1 := by decide +kernel
theorem tyX1_ok : ∀ k, k < 16 → parseFieldDescriptor (TX1 k).2.2.1 = some (tyX1 k) := by decide +kernel
abbrev cX1_init : ByteArray := prog_3_method_1_code
def yX1_init : MethodName := ⟨RX1, "<init>", "()V"⟩
abbrev cX1_thrown : ByteArray := prog_3_method_2_code
def yX1_thrown : MethodName := ⟨RX1, "thrown", "()I"⟩
abbrev cX1_fail : ByteArray := prog_3_method_3_code
def yX1_fail : MethodName := ⟨RX1, "fail", "(I)I"⟩
abbrev cX1_failed : ByteArray := prog_3_method_4_code
def yX1_failed : MethodName := ⟨RX1, "failed", "(I)Z"⟩
abbrev cX1_told : ByteArray := prog_3_method_5_code
def yX1_told : MethodName := ⟨RX1, "told", "(I)I"⟩
abbrev cX1_isIn : ByteArray := prog_3_method_6_code
def yX1_isIn : MethodName := ⟨RX1, "isIn", "(III)Z"⟩
abbrev cX1_isWord : ByteArray := prog_3_method_7_code
def yX1_isWord : MethodName := ⟨RX1, "isWord", "(I)Z"⟩
abbrev cX1_isPlace : ByteArray := prog_3_method_8_code
def yX1_isPlace : MethodName := ⟨RX1, "isPlace", "(I)Z"⟩
abbrev cX1_arePair : ByteArray := prog_3_method_9_code
def yX1_arePair : MethodName := ⟨RX1, "arePair", "(II)Z"⟩
abbrev cX1_has : ByteArray := prog_3_method_10_code
def yX1_has : MethodName := ⟨RX1, "has", "(II)Z"⟩
abbrev cX1_counts : ByteArray := prog_3_method_11_code
def yX1_counts : MethodName := ⟨RX1, "counts", "(I)I"⟩
abbrev cX1_lifted : ByteArray := prog_3_method_12_code
def yX1_lifted : MethodName := ⟨RX1, "lifted", "(I)I"⟩
abbrev cX1_countNow : ByteArray := prog_3_method_13_code
def yX1_countNow : MethodName := ⟨RX1, "countNow", "()I"⟩
abbrev cX1_leastPair : ByteArray := prog_3_method_14_code
def yX1_leastPair : MethodName := ⟨RX1, "leastPair", "(I)I"⟩
abbrev cX1_leastSingle : ByteArray := prog_3_method_15_code
def yX1_leastSingle : MethodName := ⟨RX1, "leastSingle", "(I)I"⟩
abbrev cX1_reckon : ByteArray := prog_3_method_16_code
def yX1_reckon : MethodName := ⟨RX1, "reckon", "()I"⟩
abbrev cX1_single : ByteArray := prog_3_method_17_code
def yX1_single : MethodName := ⟨RX1, "single", "(I)I"⟩
abbrev cX1_pair : ByteArray := prog_3_method_18_code
def yX1_pair : MethodName := ⟨RX1, "pair", "(I)V"⟩
abbrev cX1_choose : ByteArray := prog_3_method_19_code
def yX1_choose : MethodName := ⟨RX1, "choose", "()V"⟩
abbrev cX1_addWord : ByteArray := prog_3_method_20_code
def yX1_addWord : MethodName := ⟨RX1, "addWord", "(I)I"⟩
abbrev cX1_turnStandIn : ByteArray := prog_3_method_21_code
def yX1_turnStandIn : MethodName := ⟨RX1, "turnStandIn", "(II)Z"⟩
abbrev cX1_turnJoin : ByteArray := prog_3_method_22_code
def yX1_turnJoin : MethodName := ⟨RX1, "turnJoin", "(II)Z"⟩
abbrev cX1_setLimit : ByteArray := prog_3_method_23_code
def yX1_setLimit : MethodName := ⟨RX1, "setLimit", "(I)I"⟩
abbrev cX1_setLeastCount : ByteArray := prog_3_method_24_code
def yX1_setLeastCount : MethodName := ⟨RX1, "setLeastCount", "(I)I"⟩
abbrev cX1_setCoins : ByteArray := prog_3_method_25_code
def yX1_setCoins : MethodName := ⟨RX1, "setCoins", "(I)I"⟩
abbrev cX1_write : ByteArray := prog_3_method_26_code
def yX1_write : MethodName := ⟨RX1, "write", "(I)I"⟩
abbrev cX1_strike : ByteArray := prog_3_method_27_code
def yX1_strike : MethodName := ⟨RX1, "strike", "(I)I"⟩
abbrev cX1_turnJoined : ByteArray := prog_3_method_28_code
def yX1_turnJoined : MethodName := ⟨RX1, "turnJoined", "(I)Z"⟩
abbrev cX1_reword : ByteArray := prog_3_method_29_code
def yX1_reword : MethodName := ⟨RX1, "reword", "()I"⟩
abbrev cX1_costTo : ByteArray := prog_3_method_30_code
def yX1_costTo : MethodName := ⟨RX1, "costTo", "(I)I"⟩
abbrev cX1_send : ByteArray := prog_3_method_31_code
def yX1_send : MethodName := ⟨RX1, "send", "(I)I"⟩
abbrev cX1_words : ByteArray := prog_3_method_32_code
def yX1_words : MethodName := ⟨RX1, "words", "()I"⟩
abbrev cX1_lettersOf : ByteArray := prog_3_method_33_code
def yX1_lettersOf : MethodName := ⟨RX1, "lettersOf", "(I)I"⟩
abbrev cX1_countOf : ByteArray := prog_3_method_34_code
def yX1_countOf : MethodName := ⟨RX1, "countOf", "(I)I"⟩
abbrev cX1_mayStandFor : ByteArray := prog_3_method_35_code
def yX1_mayStandFor : MethodName := ⟨RX1, "mayStandFor", "(II)Z"⟩
abbrev cX1_mayJoin : ByteArray := prog_3_method_36_code
def yX1_mayJoin : MethodName := ⟨RX1, "mayJoin", "(II)Z"⟩
abbrev cX1_standIns : ByteArray := prog_3_method_37_code
def yX1_standIns : MethodName := ⟨RX1, "standIns", "(I)I"⟩
abbrev cX1_standInsOf : ByteArray := prog_3_method_38_code
def yX1_standInsOf : MethodName := ⟨RX1, "standInsOf", "(I)I"⟩
abbrev cX1_limit : ByteArray := prog_3_method_39_code
def yX1_limit : MethodName := ⟨RX1, "limit", "()I"⟩
abbrev cX1_leastCount : ByteArray := prog_3_method_40_code
def yX1_leastCount : MethodName := ⟨RX1, "leastCount", "()I"⟩
abbrev cX1_coins : ByteArray := prog_3_method_41_code
def yX1_coins : MethodName := ⟨RX1, "coins", "()I"⟩
abbrev cX1_length : ByteArray := prog_3_method_42_code
def yX1_length : MethodName := ⟨RX1, "length", "()I"⟩
abbrev cX1_wordAt : ByteArray := prog_3_method_43_code
def yX1_wordAt : MethodName := ⟨RX1, "wordAt", "(I)I"⟩
abbrev cX1_isJoined : ByteArray := prog_3_method_44_code
def yX1_isJoined : MethodName := ⟨RX1, "isJoined", "(I)Z"⟩
abbrev cX1_count : ByteArray := prog_3_method_45_code
def yX1_count : MethodName := ⟨RX1, "count", "()I"⟩
abbrev cX1_price : ByteArray := prog_3_method_46_code
def yX1_price : MethodName := ⟨RX1, "price", "()I"⟩
abbrev cX1_priceTo : ByteArray := prog_3_method_47_code
def yX1_priceTo : MethodName := ⟨RX1, "priceTo", "(I)I"⟩
abbrev cX1_sent : ByteArray := prog_3_method_48_code
def yX1_sent : MethodName := ⟨RX1, "sent", "()I"⟩
abbrev cX1_earned : ByteArray := prog_3_method_49_code
def yX1_earned : MethodName := ⟨RX1, "earned", "()I"⟩
abbrev cX1_cheapestCount : ByteArray := prog_3_method_50_code
def yX1_cheapestCount : MethodName := ⟨RX1, "cheapestCount", "()I"⟩
abbrev cX1_cheapestWordAt : ByteArray := prog_3_method_51_code
def yX1_cheapestWordAt : MethodName := ⟨RX1, "cheapestWordAt", "(I)I"⟩
abbrev cX1_isJoinedInCheapest : ByteArray := prog_3_method_52_code
def yX1_isJoinedInCheapest : MethodName := ⟨RX1, "isJoinedInCheapest", "(I)Z"⟩
abbrev cX1_saves : ByteArray := prog_3_method_53_code
def yX1_saves : MethodName := ⟨RX1, "saves", "()I"⟩
abbrev cX1_wordings : ByteArray := prog_3_method_54_code
def yX1_wordings : MethodName := ⟨RX1, "wordings", "()I"⟩
abbrev cX1_bestJoin : ByteArray := prog_3_method_55_code
def yX1_bestJoin : MethodName := ⟨RX1, "bestJoin", "()I"⟩
abbrev cX1_meanCost : ByteArray := prog_3_method_56_code
def yX1_meanCost : MethodName := ⟨RX1, "meanCost", "()D"⟩
abbrev cX1_digest : ByteArray := prog_3_method_57_code
def yX1_digest : MethodName := ⟨RX1, "digest", "()J"⟩
def RJ6 : String := "java/lang/Integer"
def TJ6 : u_T := fun k => match k with
  | _ => ("", "", "", false)
def tyJ6 : Nat → FieldType := fun k => match k with
  | _ => .int
abbrev wsJ60 : List Cond := u_ws RJ6 TJ6 0
theorem nmJ6 : ∀ a, a < 0 → ∀ b, b < 0 → a ≠ b → (TJ6 a).2.1 ≠ (TJ6 b).2.1 := by decide +kernel
theorem tyJ6_ok : ∀ k, k < 0 → parseFieldDescriptor (TJ6 k).2.2.1 = some (tyJ6 k) := by decide +kernel
abbrev cJ6_bitCount_0f7a4 : ByteArray := prog_8_method_49_code
def yJ6_bitCount_0f7a4 : MethodName := ⟨RJ6, "bitCount", "(I)I"⟩
def RJ9 : String := "java/lang/Math"
def TJ9 : u_T := fun k => match k with
  | _ => ("", "", "", false)
def tyJ9 : Nat → FieldType := fun k => match k with
  | _ => .int
abbrev wsJ90 : List Cond := u_ws RJ9 TJ9 0
theorem nmJ9 : ∀ a, a < 0 → ∀ b, b < 0 → a ≠ b → (TJ9 a).2.1 ≠ (TJ9 b).2.1 := by decide +kernel
theorem tyJ9_ok : ∀ k, k < 0 → parseFieldDescriptor (TJ9 k).2.2.1 = some (tyJ9 k) := by decide +kernel
abbrev cJ9_max_7cf53 : ByteArray := prog_9_method_65_code
def yJ9_max_7cf53 : MethodName := ⟨RJ9, "max", "(II)I"⟩
abbrev cJ9_min_7cf53 : ByteArray := prog_9_method_69_code
def yJ9_min_7cf53 : MethodName := ⟨RJ9, "min", "(II)I"⟩
def RJ0 : String := "java/lang/String"
def TJ0 : u_T := fun k => match k with
  | _ => ("", "", "", false)
def tyJ0 : Nat → FieldType := fun k => match k with
  | _ => .int
abbrev wsJ00 : List Cond := u_ws RJ0 TJ0 0
theorem nmJ0 : ∀ a, a < 0 → ∀ b, b < 0 → a ≠ b → (TJ0 a).2.1 ≠ (TJ0 b).2.1 := by decide +kernel
theorem tyJ0_ok : ∀ k, k < 0 → parseFieldDescriptor (TJ0 k).2.2.1 = some (tyJ0 k) := by decide +kernel
def RJ10 : String := "java/lang/System"
def TJ10 : u_T := fun k => match k with
  | _ => ("", "", "", false)
def tyJ10 : Nat → FieldType := fun k => match k with
  | _ => .int
abbrev wsJ100 : List Cond := u_ws RJ10 TJ10 0
theorem nmJ10 : ∀ a, a < 0 → ∀ b, b < 0 → a ≠ b → (TJ10 a).2.1 ≠ (TJ10 b).2.1 := by decide +kernel
theorem tyJ10_ok : ∀ k, k < 0 → parseFieldDescriptor (TJ10 k).2.2.1 = some (tyJ10 k) := by decide +kernel
def RL : String := "TelegraphPricesLaw"
abbrev cL_addWord : ByteArray := method_3_code
def yL_addWord : MethodName := ⟨RL, "addWord", "(LTelegraphPrices;I[J)I"⟩
abbrev cL_turnStandIn : ByteArray := method_4_code
def yL_turnStandIn : MethodName := ⟨RL, "turnStandIn", "(LTelegraphPrices;II[J)I"⟩
abbrev cL_turnJoin : ByteArray := method_5_code
def yL_turnJoin : MethodName := ⟨RL, "turnJoin", "(LTelegraphPrices;II[J)I"⟩
abbrev cL_setLimit : ByteArray := method_6_code
def yL_setLimit : MethodName := ⟨RL, "setLimit", "(LTelegraphPrices;I[J)I"⟩
abbrev cL_setLeastCount : ByteArray := method_7_code
def yL_setLeastCount : MethodName := ⟨RL, "setLeastCount", "(LTelegraphPrices;I[J)I"⟩
abbrev cL_setCoins : ByteArray := method_8_code
def yL_setCoins : MethodName := ⟨RL, "setCoins", "(LTelegraphPrices;I[J)I"⟩
abbrev cL_write : ByteArray := method_9_code
def yL_write : MethodName := ⟨RL, "write", "(LTelegraphPrices;I[J)I"⟩
abbrev cL_strike : ByteArray := method_10_code
def yL_strike : MethodName := ⟨RL, "strike", "(LTelegraphPrices;I[J)I"⟩
abbrev cL_turnJoined : ByteArray := method_11_code
def yL_turnJoined : MethodName := ⟨RL, "turnJoined", "(LTelegraphPrices;I[J)I"⟩
abbrev cL_send : ByteArray := method_12_code
def yL_send : MethodName := ⟨RL, "send", "(LTelegraphPrices;I[J)I"⟩
abbrev cL_lettersOf : ByteArray := method_13_code
def yL_lettersOf : MethodName := ⟨RL, "lettersOf", "(LTelegraphPrices;I[J)I"⟩
abbrev cL_countOf : ByteArray := method_14_code
def yL_countOf : MethodName := ⟨RL, "countOf", "(LTelegraphPrices;I[J)I"⟩
abbrev cL_mayStandFor : ByteArray := method_15_code
def yL_mayStandFor : MethodName := ⟨RL, "mayStandFor", "(LTelegraphPrices;II[J)I"⟩
abbrev cL_mayJoin : ByteArray := method_16_code
def yL_mayJoin : MethodName := ⟨RL, "mayJoin", "(LTelegraphPrices;II[J)I"⟩
abbrev cL_standInsOf : ByteArray := method_17_code
def yL_standInsOf : MethodName := ⟨RL, "standInsOf", "(LTelegraphPrices;I[J)I"⟩
abbrev cL_wordAt : ByteArray := method_18_code
def yL_wordAt : MethodName := ⟨RL, "wordAt", "(LTelegraphPrices;I[J)I"⟩
abbrev cL_isJoined : ByteArray := method_19_code
def yL_isJoined : MethodName := ⟨RL, "isJoined", "(LTelegraphPrices;I[J)I"⟩
abbrev cL_priceTo : ByteArray := method_20_code
def yL_priceTo : MethodName := ⟨RL, "priceTo", "(LTelegraphPrices;I[J)I"⟩
abbrev cL_cheapestWordAt : ByteArray := method_21_code
def yL_cheapestWordAt : MethodName := ⟨RL, "cheapestWordAt", "(LTelegraphPrices;I[J)I"⟩
abbrev cL_isJoinedInCheapest : ByteArray := method_22_code
def yL_isJoinedInCheapest : MethodName := ⟨RL, "isJoinedInCheapest", "(LTelegraphPrices;I[J)I"⟩
abbrev cL_law : ByteArray := code
def yL_law : MethodName := ⟨RL, "law", "([I)Z"⟩
def wsX0_init : List Cond := .code yX0_init cX0_init 1 none :: ([.methodLink RX0 1 objectInit, .instanceMethod objectInit, .code objectInit ⟨#[0xb1]⟩ 1 none, .arrayClass .int, .fieldLink RX0 9 "TelegraphPrices" "letters" "[I", .fieldLink RX0 13 "TelegraphPrices" "standIns" "[I", .fieldLink RX0 16 "TelegraphPrices" "joins" "[I", .fieldLink RX0 19 "TelegraphPrices" "words" "I", .fieldLink RX0 23 "TelegraphPrices" "limit" "I", .fieldLink RX0 26 "TelegraphPrices" "leastCount" "I", .fieldLink RX0 29 "TelegraphPrices" "coins" "I", .fieldLink RX0 32 "TelegraphPrices" "telegram" "[I", .arrayClass .boolean, .fieldLink RX0 35 "TelegraphPrices" "joined" "[Z", .fieldLink RX0 39 "TelegraphPrices" "length" "I", .fieldLink RX0 42 "TelegraphPrices" "sent" "I", .fieldLink RX0 45 "TelegraphPrices" "earned" "I", .fieldLink RX0 48 "TelegraphPrices" "leastAlone" "[I", .fieldLink RX0 51 "TelegraphPrices" "leastJoined" "[I", .fieldLink RX0 54 "TelegraphPrices" "leastTried" "[I", .fieldLink RX0 57 "TelegraphPrices" "leastFrom" "[I", .fieldLink RX0 60 "TelegraphPrices" "cheapestWords" "[I", .fieldLink RX0 63 "TelegraphPrices" "cheapestJoined" "[Z"] ++ wsX00)
def wsX0_addWord : List Cond := .code yX0_addWord cX0_addWord 3 (some .int) :: ([.classLink RX0 66 "java/lang/IllegalArgumentException", .initialized "java/lang/IllegalArgumentException", .classLink RX0 73 "java/lang/IllegalStateException", .initialized "java/lang/IllegalStateException", .fieldLink RX0 19 "TelegraphPrices" "words" "I", .fieldLink RX0 9 "TelegraphPrices" "letters" "[I", .fieldLink RX0 13 "TelegraphPrices" "standIns" "[I", .fieldLink RX0 16 "TelegraphPrices" "joins" "[I"] ++ wsX00 ++ (vx_atS RX0 70 "java/lang/IllegalArgumentException" ["java/lang/RuntimeException", "java/lang/Exception"]).filter goodWord ++ (vx_atS RX0 77 "java/lang/IllegalStateException" ["java/lang/RuntimeException", "java/lang/Exception"]).filter goodWord)
def wsX0_needWord : List Cond := .code yX0_needWord cX0_needWord 2 none :: ([.classLink RX0 133 "java/lang/IndexOutOfBoundsException", .initialized "java/lang/IndexOutOfBoundsException", .fieldLink RX0 19 "TelegraphPrices" "words" "I"] ++ wsX00 ++ (vx_atS RX0 137 "java/lang/IndexOutOfBoundsException" ["java/lang/RuntimeException", "java/lang/Exception"]).filter goodWord)
def wsX0_hasBit : List Cond := .code yX0_hasBit cX0_hasBit 2 (some .boolean) :: ([])
def wsX0_turnStandIn : List Cond := .code yX0_turnStandIn cX0_turnStandIn 3 (some .boolean) :: ([.classLink RX0 66 "java/lang/IllegalArgumentException", .initialized "java/lang/IllegalArgumentException", .fieldLink RX0 13 "TelegraphPrices" "standIns" "[I", .methodLink RX0 78 yX0_needWord, .instanceMethod yX0_needWord, .selects RX0 yX0_needWord yX0_needWord, .initialized RX0, .code yX0_needWord cX0_needWord 2 none, .classLink RX0 133 "java/lang/IndexOutOfBoundsException", .initialized "java/lang/IndexOutOfBoundsException", .fieldLink RX0 19 "TelegraphPrices" "words" "I", .methodLink RX0 84 yX0_hasBit, .static yX0_hasBit, .code yX0_hasBit cX0_hasBit 2 (some .boolean)] ++ wsX00 ++ (vx_atS RX0 70 "java/lang/IllegalArgumentException" ["java/lang/RuntimeException", "java/lang/Exception"]).filter goodWord ++ (vx_atS RX0 137 "java/lang/IndexOutOfBoundsException" ["java/lang/RuntimeException", "java/lang/Exception"]).filter goodWord)
def wsX0_turnJoin : List Cond := .code yX0_turnJoin cX0_turnJoin 3 (some .boolean) :: ([.fieldLink RX0 16 "TelegraphPrices" "joins" "[I", .methodLink RX0 78 yX0_needWord, .instanceMethod yX0_needWord, .selects RX0 yX0_needWord yX0_needWord, .initialized RX0, .code yX0_needWord cX0_needWord 2 none, .classLink RX0 133 "java/lang/IndexOutOfBoundsException", .initialized "java/lang/IndexOutOfBoundsException", .fieldLink RX0 19 "TelegraphPrices" "words" "I", .methodLink RX0 84 yX0_hasBit, .static yX0_hasBit, .code yX0_hasBit cX0_hasBit 2 (some .boolean)] ++ wsX00 ++ (vx_atS RX0 137 "java/lang/IndexOutOfBoundsException" ["java/lang/RuntimeException", "java/lang/Exception"]).filter goodWord)
def wsX0_setLimit : List Cond := .code yX0_setLimit cX0_setLimit 3 (some .int) :: ([.classLink RX0 66 "java/lang/IllegalArgumentException", .initialized "java/lang/IllegalArgumentException", .fieldLink RX0 23 "TelegraphPrices" "limit" "I"] ++ wsX00 ++ (vx_atS RX0 70 "java/lang/IllegalArgumentException" ["java/lang/RuntimeException", "java/lang/Exception"]).filter goodWord)
def wsX0_setLeastCount : List Cond := .code yX0_setLeastCount cX0_setLeastCount 3 (some .int) :: ([.classLink RX0 66 "java/lang/IllegalArgumentException", .initialized "java/lang/IllegalArgumentException", .fieldLink RX0 26 "TelegraphPrices" "leastCount" "I"] ++ wsX00 ++ (vx_atS RX0 70 "java/lang/IllegalArgumentException" ["java/lang/RuntimeException", "java/lang/Exception"]).filter goodWord)
def wsX0_setCoins : List Cond := .code yX0_setCoins cX0_setCoins 3 (some .int) :: ([.classLink RX0 66 "java/lang/IllegalArgumentException", .initialized "java/lang/IllegalArgumentException", .fieldLink RX0 29 "TelegraphPrices" "coins" "I"] ++ wsX00 ++ (vx_atS RX0 70 "java/lang/IllegalArgumentException" ["java/lang/RuntimeException", "java/lang/Exception"]).filter goodWord)
def wsX0_write : List Cond := .code yX0_write cX0_write 2 (some .int) :: ([.classLink RX0 73 "java/lang/IllegalStateException", .initialized "java/lang/IllegalStateException", .fieldLink RX0 39 "TelegraphPrices" "length" "I", .fieldLink RX0 32 "TelegraphPrices" "telegram" "[I", .fieldLink RX0 35 "TelegraphPrices" "joined" "[Z", .methodLink RX0 78 yX0_needWord, .instanceMethod yX0_needWord, .selects RX0 yX0_needWord yX0_needWord, .initialized RX0, .code yX0_needWord cX0_needWord 2 none, .classLink RX0 133 "java/lang/IndexOutOfBoundsException", .initialized "java/lang/IndexOutOfBoundsException", .fieldLink RX0 19 "TelegraphPrices" "words" "I"] ++ wsX00 ++ (vx_atS RX0 77 "java/lang/IllegalStateException" ["java/lang/RuntimeException", "java/lang/Exception"]).filter goodWord ++ (vx_atS RX0 137 "java/lang/IndexOutOfBoundsException" ["java/lang/RuntimeException", "java/lang/Exception"]).filter goodWord)
def wsX0_needPlace : List Cond := .code yX0_needPlace cX0_needPlace 2 none :: ([.classLink RX0 133 "java/lang/IndexOutOfBoundsException", .initialized "java/lang/IndexOutOfBoundsException", .fieldLink RX0 39 "TelegraphPrices" "length" "I"] ++ wsX00 ++ (vx_atS RX0 137 "java/lang/IndexOutOfBoundsException" ["java/lang/RuntimeException", "java/lang/Exception"]).filter goodWord)
def wsX0_strike : List Cond := .code yX0_strike cX0_strike 3 (some .int) :: ([.fieldLink RX0 35 "TelegraphPrices" "joined" "[Z", .fieldLink RX0 39 "TelegraphPrices" "length" "I", .fieldLink RX0 32 "TelegraphPrices" "telegram" "[I", .methodLink RX0 96 yX0_needPlace, .instanceMethod yX0_needPlace, .selects RX0 yX0_needPlace yX0_needPlace, .initialized RX0, .code yX0_needPlace cX0_needPlace 2 none, .classLink RX0 133 "java/lang/IndexOutOfBoundsException", .initialized "java/lang/IndexOutOfBoundsException"] ++ wsX00 ++ (vx_atS RX0 137 "java/lang/IndexOutOfBoundsException" ["java/lang/RuntimeException", "java/lang/Exception"]).filter goodWord)
def wsX0_couldBeJoined : List Cond := .code yX0_couldBeJoined cX0_couldBeJoined 3 (some .boolean) :: ([.fieldLink RX0 35 "TelegraphPrices" "joined" "[Z", .fieldLink RX0 16 "TelegraphPrices" "joins" "[I", .fieldLink RX0 32 "TelegraphPrices" "telegram" "[I", .methodLink RX0 84 yX0_hasBit, .static yX0_hasBit, .initialized RX0, .code yX0_hasBit cX0_hasBit 2 (some .boolean)] ++ wsX00)
def wsX0_turnJoined : List Cond := .code yX0_turnJoined cX0_turnJoined 2 (some .boolean) :: ([.classLink RX0 73 "java/lang/IllegalStateException", .initialized "java/lang/IllegalStateException", .fieldLink RX0 35 "TelegraphPrices" "joined" "[Z", .methodLink RX0 96 yX0_needPlace, .instanceMethod yX0_needPlace, .selects RX0 yX0_needPlace yX0_needPlace, .initialized RX0, .code yX0_needPlace cX0_needPlace 2 none, .classLink RX0 133 "java/lang/IndexOutOfBoundsException", .initialized "java/lang/IndexOutOfBoundsException", .fieldLink RX0 39 "TelegraphPrices" "length" "I", .methodLink RX0 99 yX0_couldBeJoined, .instanceMethod yX0_couldBeJoined, .selects RX0 yX0_couldBeJoined yX0_couldBeJoined, .code yX0_couldBeJoined cX0_couldBeJoined 3 (some .boolean), .fieldLink RX0 16 "TelegraphPrices" "joins" "[I", .fieldLink RX0 32 "TelegraphPrices" "telegram" "[I", .methodLink RX0 84 yX0_hasBit, .static yX0_hasBit, .code yX0_hasBit cX0_hasBit 2 (some .boolean)] ++ wsX00 ++ (vx_atS RX0 77 "java/lang/IllegalStateException" ["java/lang/RuntimeException", "java/lang/Exception"]).filter goodWord ++ (vx_atS RX0 137 "java/lang/IndexOutOfBoundsException" ["java/lang/RuntimeException", "java/lang/Exception"]).filter goodWord)
def wsX0_countOfLetters : List Cond := .code yX0_countOfLetters cX0_countOfLetters 2 (some .int) :: ([.fieldLink RX0 23 "TelegraphPrices" "limit" "I"] ++ wsX00)
def wsX0_countOfPair : List Cond := .code yX0_countOfPair cX0_countOfPair 3 (some .int) :: ([.fieldLink RX0 9 "TelegraphPrices" "letters" "[I", .methodLink RX0 118 yX0_countOfLetters, .instanceMethod yX0_countOfLetters, .selects RX0 yX0_countOfLetters yX0_countOfLetters, .initialized RX0, .code yX0_countOfLetters cX0_countOfLetters 2 (some .int), .fieldLink RX0 23 "TelegraphPrices" "limit" "I"] ++ wsX00)
def wsX0_atLeastTheLeastCount : List Cond := .code yX0_atLeastTheLeastCount cX0_atLeastTheLeastCount 2 (some .int) :: ([.fieldLink RX0 39 "TelegraphPrices" "length" "I", .fieldLink RX0 26 "TelegraphPrices" "leastCount" "I", .methodLink RX0 175 Lib.Math.max.name, .static Lib.Math.max.name, .initialized "java/lang/Math", .code Lib.Math.max.name Lib.Math.max.code 2 (some .int)] ++ wsX00)
def wsX0_count : List Cond := .code yX0_count cX0_count 3 (some .int) :: ([.fieldLink RX0 39 "TelegraphPrices" "length" "I", .fieldLink RX0 35 "TelegraphPrices" "joined" "[Z", .fieldLink RX0 32 "TelegraphPrices" "telegram" "[I", .fieldLink RX0 9 "TelegraphPrices" "letters" "[I", .methodLink RX0 126 yX0_countOfPair, .instanceMethod yX0_countOfPair, .selects RX0 yX0_countOfPair yX0_countOfPair, .initialized RX0, .code yX0_countOfPair cX0_countOfPair 3 (some .int), .methodLink RX0 118 yX0_countOfLetters, .instanceMethod yX0_countOfLetters, .selects RX0 yX0_countOfLetters yX0_countOfLetters, .code yX0_countOfLetters cX0_countOfLetters 2 (some .int), .fieldLink RX0 23 "TelegraphPrices" "limit" "I", .methodLink RX0 130 yX0_atLeastTheLeastCount, .instanceMethod yX0_atLeastTheLeastCount, .selects RX0 yX0_atLeastTheLeastCount yX0_atLeastTheLeastCount, .code yX0_atLeastTheLeastCount cX0_atLeastTheLeastCount 2 (some .int), .fieldLink RX0 26 "TelegraphPrices" "leastCount" "I", .methodLink RX0 175 Lib.Math.max.name, .static Lib.Math.max.name, .initialized "java/lang/Math", .code Lib.Math.max.name Lib.Math.max.code 2 (some .int)] ++ wsX00)
def wsX0_mayHold : List Cond := .code yX0_mayHold cX0_mayHold 3 (some .boolean) :: ([.fieldLink RX0 39 "TelegraphPrices" "length" "I", .fieldLink RX0 13 "TelegraphPrices" "standIns" "[I", .fieldLink RX0 32 "TelegraphPrices" "telegram" "[I", .methodLink RX0 84 yX0_hasBit, .static yX0_hasBit, .initialized RX0, .code yX0_hasBit cX0_hasBit 2 (some .boolean)] ++ wsX00)
def wsX0_bestWordAt : List Cond := .code yX0_bestWordAt cX0_bestWordAt 5 (some .int) :: ([.fieldLink RX0 32 "TelegraphPrices" "telegram" "[I", .constant RX0 151 (1000000), .fieldLink RX0 19 "TelegraphPrices" "words" "I", .fieldLink RX0 9 "TelegraphPrices" "letters" "[I", .methodLink RX0 184 yX0_mayHold, .instanceMethod yX0_mayHold, .selects RX0 yX0_mayHold yX0_mayHold, .initialized RX0, .code yX0_mayHold cX0_mayHold 3 (some .boolean), .fieldLink RX0 39 "TelegraphPrices" "length" "I", .fieldLink RX0 13 "TelegraphPrices" "standIns" "[I", .methodLink RX0 84 yX0_hasBit, .static yX0_hasBit, .code yX0_hasBit cX0_hasBit 2 (some .boolean), .methodLink RX0 118 yX0_countOfLetters, .instanceMethod yX0_countOfLetters, .selects RX0 yX0_countOfLetters yX0_countOfLetters, .code yX0_countOfLetters cX0_countOfLetters 2 (some .int), .fieldLink RX0 23 "TelegraphPrices" "limit" "I"] ++ wsX00)
def wsX0_bestPairAt : List Cond := .code yX0_bestPairAt cX0_bestPairAt 7 (some .int) :: ([.constant RX0 151 (1000000), .fieldLink RX0 19 "TelegraphPrices" "words" "I", .fieldLink RX0 16 "TelegraphPrices" "joins" "[I", .methodLink RX0 184 yX0_mayHold, .instanceMethod yX0_mayHold, .selects RX0 yX0_mayHold yX0_mayHold, .initialized RX0, .code yX0_mayHold cX0_mayHold 3 (some .boolean), .fieldLink RX0 39 "TelegraphPrices" "length" "I", .fieldLink RX0 13 "TelegraphPrices" "standIns" "[I", .fieldLink RX0 32 "TelegraphPrices" "telegram" "[I", .methodLink RX0 84 yX0_hasBit, .static yX0_hasBit, .code yX0_hasBit cX0_hasBit 2 (some .boolean), .methodLink RX0 126 yX0_countOfPair, .instanceMethod yX0_countOfPair, .selects RX0 yX0_countOfPair yX0_countOfPair, .code yX0_countOfPair cX0_countOfPair 3 (some .int), .fieldLink RX0 9 "TelegraphPrices" "letters" "[I", .methodLink RX0 118 yX0_countOfLetters, .instanceMethod yX0_countOfLetters, .selects RX0 yX0_countOfLetters yX0_countOfLetters, .code yX0_countOfLetters cX0_countOfLetters 2 (some .int), .fieldLink RX0 23 "TelegraphPrices" "limit" "I"] ++ wsX00)
def wsX0_noteLeastCounts_r1 : List Cond := [Cond.fieldLink RX0 39 "TelegraphPrices" "length" "I", Cond.fieldLink RX0 48 "TelegraphPrices" "leastAlone" "[I", Cond.fieldLink RX0 9 "TelegraphPrices" "letters" "[I", Cond.fieldLink RX0 51 "TelegraphPrices" "leastJoined" "[I", Cond.constant RX0 151 (1000000), Cond.methodLink RX0 178 yX0_bestWordAt, Cond.instanceMethod yX0_bestWordAt, Cond.selects RX0 yX0_bestWordAt yX0_bestWordAt, Cond.initialized RX0, Cond.code yX0_bestWordAt cX0_bestWordAt 5 (some .int), Cond.fieldLink RX0 32 "TelegraphPrices" "telegram" "[I", Cond.fieldLink RX0 19 "TelegraphPrices" "words" "I", Cond.methodLink RX0 184 yX0_mayHold, Cond.instanceMethod yX0_mayHold, Cond.selects RX0 yX0_mayHold yX0_mayHold, Cond.code yX0_mayHold cX0_mayHold 3 (some .boolean), Cond.fieldLink RX0 13 "TelegraphPrices" "standIns" "[I", Cond.methodLink RX0 84 yX0_hasBit, Cond.static yX0_hasBit, Cond.code yX0_hasBit cX0_hasBit 2 (some .boolean), Cond.methodLink RX0 118 yX0_countOfLetters, Cond.instanceMethod yX0_countOfLetters, Cond.selects RX0 yX0_countOfLetters yX0_countOfLetters, Cond.code yX0_countOfLetters cX0_countOfLetters 2 (some .int)]
def wsX0_noteLeastCounts_r2 : List Cond := [Cond.fieldLink RX0 23 "TelegraphPrices" "limit" "I", Cond.methodLink RX0 181 yX0_bestPairAt, Cond.instanceMethod yX0_bestPairAt, Cond.selects RX0 yX0_bestPairAt yX0_bestPairAt, Cond.code yX0_bestPairAt cX0_bestPairAt 7 (some .int), Cond.fieldLink RX0 16 "TelegraphPrices" "joins" "[I", Cond.methodLink RX0 126 yX0_countOfPair, Cond.instanceMethod yX0_countOfPair, Cond.selects RX0 yX0_countOfPair yX0_countOfPair, Cond.code yX0_countOfPair cX0_countOfPair 3 (some .int)]
def wsX0_noteLeastCounts : List Cond := .code yX0_noteLeastCounts cX0_noteLeastCounts 3 none :: ((wsX0_noteLeastCounts_r1 ++ wsX0_noteLeastCounts_r2) ++ wsX00)
def wsX0_leastInAll : List Cond := .code yX0_leastInAll cX0_leastInAll 4 (some .int) :: ([.fieldLink RX0 57 "TelegraphPrices" "leastFrom" "[I", .fieldLink RX0 39 "TelegraphPrices" "length" "I", .fieldLink RX0 48 "TelegraphPrices" "leastAlone" "[I", .methodLink RX0 152 Lib.Math.min.name, .static Lib.Math.min.name, .initialized "java/lang/Math", .code Lib.Math.min.name Lib.Math.min.code 2 (some .int)] ++ wsX00)
def wsX0_noteCheapestAt : List Cond := .code yX0_noteCheapestAt cX0_noteCheapestAt 4 none :: ([.fieldLink RX0 60 "TelegraphPrices" "cheapestWords" "[I", .fieldLink RX0 63 "TelegraphPrices" "cheapestJoined" "[Z"] ++ wsX00)
def wsX0_noteCheapestWording_r1 : List Cond := [Cond.fieldLink RX0 51 "TelegraphPrices" "leastJoined" "[I", Cond.fieldLink RX0 39 "TelegraphPrices" "length" "I", Cond.fieldLink RX0 48 "TelegraphPrices" "leastAlone" "[I", Cond.fieldLink RX0 57 "TelegraphPrices" "leastFrom" "[I", Cond.methodLink RX0 141 yX0_noteLeastCounts, Cond.instanceMethod yX0_noteLeastCounts, Cond.selects RX0 yX0_noteLeastCounts yX0_noteLeastCounts, Cond.initialized RX0, Cond.code yX0_noteLeastCounts cX0_noteLeastCounts 3 none, Cond.fieldLink RX0 9 "TelegraphPrices" "letters" "[I", Cond.constant RX0 151 (1000000), Cond.methodLink RX0 178 yX0_bestWordAt, Cond.instanceMethod yX0_bestWordAt, Cond.selects RX0 yX0_bestWordAt yX0_bestWordAt, Cond.code yX0_bestWordAt cX0_bestWordAt 5 (some .int), Cond.fieldLink RX0 32 "TelegraphPrices" "telegram" "[I", Cond.fieldLink RX0 19 "TelegraphPrices" "words" "I", Cond.methodLink RX0 184 yX0_mayHold, Cond.instanceMethod yX0_mayHold, Cond.selects RX0 yX0_mayHold yX0_mayHold, Cond.code yX0_mayHold cX0_mayHold 3 (some .boolean), Cond.fieldLink RX0 13 "TelegraphPrices" "standIns" "[I", Cond.methodLink RX0 84 yX0_hasBit, Cond.static yX0_hasBit]
def wsX0_noteCheapestWording_r2 : List Cond := [Cond.code yX0_hasBit cX0_hasBit 2 (some .boolean), Cond.methodLink RX0 118 yX0_countOfLetters, Cond.instanceMethod yX0_countOfLetters, Cond.selects RX0 yX0_countOfLetters yX0_countOfLetters, Cond.code yX0_countOfLetters cX0_countOfLetters 2 (some .int), Cond.fieldLink RX0 23 "TelegraphPrices" "limit" "I", Cond.methodLink RX0 181 yX0_bestPairAt, Cond.instanceMethod yX0_bestPairAt, Cond.selects RX0 yX0_bestPairAt yX0_bestPairAt, Cond.code yX0_bestPairAt cX0_bestPairAt 7 (some .int), Cond.fieldLink RX0 16 "TelegraphPrices" "joins" "[I", Cond.methodLink RX0 126 yX0_countOfPair, Cond.instanceMethod yX0_countOfPair, Cond.selects RX0 yX0_countOfPair yX0_countOfPair, Cond.code yX0_countOfPair cX0_countOfPair 3 (some .int), Cond.methodLink RX0 144 yX0_leastInAll, Cond.instanceMethod yX0_leastInAll, Cond.selects RX0 yX0_leastInAll yX0_leastInAll, Cond.code yX0_leastInAll cX0_leastInAll 4 (some .int), Cond.methodLink RX0 152 Lib.Math.min.name, Cond.static Lib.Math.min.name, Cond.initialized "java/lang/Math", Cond.code Lib.Math.min.name Lib.Math.min.code 2 (some .int), Cond.methodLink RX0 187 yX0_noteCheapestAt]
def wsX0_noteCheapestWording_r3 : List Cond := [Cond.instanceMethod yX0_noteCheapestAt, Cond.selects RX0 yX0_noteCheapestAt yX0_noteCheapestAt, Cond.code yX0_noteCheapestAt cX0_noteCheapestAt 4 none, Cond.fieldLink RX0 60 "TelegraphPrices" "cheapestWords" "[I", Cond.fieldLink RX0 63 "TelegraphPrices" "cheapestJoined" "[Z"]
def wsX0_noteCheapestWording : List Cond := .code yX0_noteCheapestWording cX0_noteCheapestWording 3 none :: ((wsX0_noteCheapestWording_r1 ++ (wsX0_noteCheapestWording_r2 ++ wsX0_noteCheapestWording_r3)) ++ wsX00)
def wsX0_reword_r1 : List Cond := [Cond.fieldLink RX0 39 "TelegraphPrices" "length" "I", Cond.fieldLink RX0 32 "TelegraphPrices" "telegram" "[I", Cond.fieldLink RX0 60 "TelegraphPrices" "cheapestWords" "[I", Cond.fieldLink RX0 35 "TelegraphPrices" "joined" "[Z", Cond.fieldLink RX0 63 "TelegraphPrices" "cheapestJoined" "[Z", Cond.methodLink RX0 105 yX0_count, Cond.instanceMethod yX0_count, Cond.selects RX0 yX0_count yX0_count, Cond.initialized RX0, Cond.code yX0_count cX0_count 3 (some .int), Cond.fieldLink RX0 9 "TelegraphPrices" "letters" "[I", Cond.methodLink RX0 126 yX0_countOfPair, Cond.instanceMethod yX0_countOfPair, Cond.selects RX0 yX0_countOfPair yX0_countOfPair, Cond.code yX0_countOfPair cX0_countOfPair 3 (some .int), Cond.methodLink RX0 118 yX0_countOfLetters, Cond.instanceMethod yX0_countOfLetters, Cond.selects RX0 yX0_countOfLetters yX0_countOfLetters, Cond.code yX0_countOfLetters cX0_countOfLetters 2 (some .int), Cond.fieldLink RX0 23 "TelegraphPrices" "limit" "I", Cond.methodLink RX0 130 yX0_atLeastTheLeastCount, Cond.instanceMethod yX0_atLeastTheLeastCount, Cond.selects RX0 yX0_atLeastTheLeastCount yX0_atLeastTheLeastCount, Cond.code yX0_atLeastTheLeastCount cX0_atLeastTheLeastCount 2 (some .int)]
def wsX0_reword_r2 : List Cond := [Cond.fieldLink RX0 26 "TelegraphPrices" "leastCount" "I", Cond.methodLink RX0 175 Lib.Math.max.name, Cond.static Lib.Math.max.name, Cond.initialized "java/lang/Math", Cond.code Lib.Math.max.name Lib.Math.max.code 2 (some .int), Cond.methodLink RX0 109 yX0_noteCheapestWording, Cond.instanceMethod yX0_noteCheapestWording, Cond.selects RX0 yX0_noteCheapestWording yX0_noteCheapestWording, Cond.code yX0_noteCheapestWording cX0_noteCheapestWording 3 none, Cond.fieldLink RX0 51 "TelegraphPrices" "leastJoined" "[I", Cond.fieldLink RX0 48 "TelegraphPrices" "leastAlone" "[I", Cond.fieldLink RX0 57 "TelegraphPrices" "leastFrom" "[I", Cond.methodLink RX0 141 yX0_noteLeastCounts, Cond.instanceMethod yX0_noteLeastCounts, Cond.selects RX0 yX0_noteLeastCounts yX0_noteLeastCounts, Cond.code yX0_noteLeastCounts cX0_noteLeastCounts 3 none, Cond.constant RX0 151 (1000000), Cond.methodLink RX0 178 yX0_bestWordAt, Cond.instanceMethod yX0_bestWordAt, Cond.selects RX0 yX0_bestWordAt yX0_bestWordAt, Cond.code yX0_bestWordAt cX0_bestWordAt 5 (some .int), Cond.fieldLink RX0 19 "TelegraphPrices" "words" "I", Cond.methodLink RX0 184 yX0_mayHold, Cond.instanceMethod yX0_mayHold]
def wsX0_reword_r3 : List Cond := [Cond.selects RX0 yX0_mayHold yX0_mayHold, Cond.code yX0_mayHold cX0_mayHold 3 (some .boolean), Cond.fieldLink RX0 13 "TelegraphPrices" "standIns" "[I", Cond.methodLink RX0 84 yX0_hasBit, Cond.static yX0_hasBit, Cond.code yX0_hasBit cX0_hasBit 2 (some .boolean), Cond.methodLink RX0 181 yX0_bestPairAt, Cond.instanceMethod yX0_bestPairAt, Cond.selects RX0 yX0_bestPairAt yX0_bestPairAt, Cond.code yX0_bestPairAt cX0_bestPairAt 7 (some .int), Cond.fieldLink RX0 16 "TelegraphPrices" "joins" "[I", Cond.methodLink RX0 144 yX0_leastInAll, Cond.instanceMethod yX0_leastInAll, Cond.selects RX0 yX0_leastInAll yX0_leastInAll, Cond.code yX0_leastInAll cX0_leastInAll 4 (some .int), Cond.methodLink RX0 152 Lib.Math.min.name, Cond.static Lib.Math.min.name, Cond.code Lib.Math.min.name Lib.Math.min.code 2 (some .int), Cond.methodLink RX0 187 yX0_noteCheapestAt, Cond.instanceMethod yX0_noteCheapestAt, Cond.selects RX0 yX0_noteCheapestAt yX0_noteCheapestAt, Cond.code yX0_noteCheapestAt cX0_noteCheapestAt 4 none]
def wsX0_reword : List Cond := .code yX0_reword cX0_reword 3 (some .int) :: ((wsX0_reword_r1 ++ (wsX0_reword_r2 ++ wsX0_reword_r3)) ++ wsX00)
def wsX0_price_r1 : List Cond := [Cond.fieldLink RX0 29 "TelegraphPrices" "coins" "I", Cond.methodLink RX0 105 yX0_count, Cond.instanceMethod yX0_count, Cond.selects RX0 yX0_count yX0_count, Cond.initialized RX0, Cond.code yX0_count cX0_count 3 (some .int), Cond.fieldLink RX0 39 "TelegraphPrices" "length" "I", Cond.fieldLink RX0 35 "TelegraphPrices" "joined" "[Z", Cond.fieldLink RX0 32 "TelegraphPrices" "telegram" "[I", Cond.fieldLink RX0 9 "TelegraphPrices" "letters" "[I", Cond.methodLink RX0 126 yX0_countOfPair, Cond.instanceMethod yX0_countOfPair, Cond.selects RX0 yX0_countOfPair yX0_countOfPair, Cond.code yX0_countOfPair cX0_countOfPair 3 (some .int), Cond.methodLink RX0 118 yX0_countOfLetters, Cond.instanceMethod yX0_countOfLetters, Cond.selects RX0 yX0_countOfLetters yX0_countOfLetters, Cond.code yX0_countOfLetters cX0_countOfLetters 2 (some .int), Cond.fieldLink RX0 23 "TelegraphPrices" "limit" "I", Cond.methodLink RX0 130 yX0_atLeastTheLeastCount, Cond.instanceMethod yX0_atLeastTheLeastCount, Cond.selects RX0 yX0_atLeastTheLeastCount yX0_atLeastTheLeastCount, Cond.code yX0_atLeastTheLeastCount cX0_atLeastTheLeastCount 2 (some .int), Cond.fieldLink RX0 26 "TelegraphPrices" "leastCount" "I"]
def wsX0_price_r2 : List Cond := [Cond.methodLink RX0 175 Lib.Math.max.name, Cond.static Lib.Math.max.name, Cond.initialized "java/lang/Math", Cond.code Lib.Math.max.name Lib.Math.max.code 2 (some .int)]
def wsX0_price : List Cond := .code yX0_price cX0_price 1 (some .int) :: ((wsX0_price_r1 ++ wsX0_price_r2) ++ wsX00)
def wsX0_priceTo_r1 : List Cond := [Cond.classLink RX0 133 "java/lang/IndexOutOfBoundsException", Cond.initialized "java/lang/IndexOutOfBoundsException", Cond.methodLink RX0 138 yX0_price, Cond.instanceMethod yX0_price, Cond.selects RX0 yX0_price yX0_price, Cond.initialized RX0, Cond.code yX0_price cX0_price 1 (some .int), Cond.fieldLink RX0 29 "TelegraphPrices" "coins" "I", Cond.methodLink RX0 105 yX0_count, Cond.instanceMethod yX0_count, Cond.selects RX0 yX0_count yX0_count, Cond.code yX0_count cX0_count 3 (some .int), Cond.fieldLink RX0 39 "TelegraphPrices" "length" "I", Cond.fieldLink RX0 35 "TelegraphPrices" "joined" "[Z", Cond.fieldLink RX0 32 "TelegraphPrices" "telegram" "[I", Cond.fieldLink RX0 9 "TelegraphPrices" "letters" "[I", Cond.methodLink RX0 126 yX0_countOfPair, Cond.instanceMethod yX0_countOfPair, Cond.selects RX0 yX0_countOfPair yX0_countOfPair, Cond.code yX0_countOfPair cX0_countOfPair 3 (some .int), Cond.methodLink RX0 118 yX0_countOfLetters, Cond.instanceMethod yX0_countOfLetters, Cond.selects RX0 yX0_countOfLetters yX0_countOfLetters, Cond.code yX0_countOfLetters cX0_countOfLetters 2 (some .int)]
def wsX0_priceTo_r2 : List Cond := [Cond.fieldLink RX0 23 "TelegraphPrices" "limit" "I", Cond.methodLink RX0 130 yX0_atLeastTheLeastCount, Cond.instanceMethod yX0_atLeastTheLeastCount, Cond.selects RX0 yX0_atLeastTheLeastCount yX0_atLeastTheLeastCount, Cond.code yX0_atLeastTheLeastCount cX0_atLeastTheLeastCount 2 (some .int), Cond.fieldLink RX0 26 "TelegraphPrices" "leastCount" "I", Cond.methodLink RX0 175 Lib.Math.max.name, Cond.static Lib.Math.max.name, Cond.initialized "java/lang/Math", Cond.code Lib.Math.max.name Lib.Math.max.code 2 (some .int)]
def wsX0_priceTo : List Cond := .code yX0_priceTo cX0_priceTo 2 (some .int) :: ((wsX0_priceTo_r1 ++ wsX0_priceTo_r2) ++ wsX00 ++ (vx_atS RX0 137 "java/lang/IndexOutOfBoundsException" ["java/lang/RuntimeException", "java/lang/Exception"]).filter goodWord)
def wsX0_send_r1 : List Cond := [Cond.classLink RX0 73 "java/lang/IllegalStateException", Cond.initialized "java/lang/IllegalStateException", Cond.fieldLink RX0 39 "TelegraphPrices" "length" "I", Cond.fieldLink RX0 42 "TelegraphPrices" "sent" "I", Cond.fieldLink RX0 45 "TelegraphPrices" "earned" "I", Cond.methodLink RX0 112 yX0_priceTo, Cond.instanceMethod yX0_priceTo, Cond.selects RX0 yX0_priceTo yX0_priceTo, Cond.initialized RX0, Cond.code yX0_priceTo cX0_priceTo 2 (some .int), Cond.classLink RX0 133 "java/lang/IndexOutOfBoundsException", Cond.initialized "java/lang/IndexOutOfBoundsException", Cond.methodLink RX0 138 yX0_price, Cond.instanceMethod yX0_price, Cond.selects RX0 yX0_price yX0_price, Cond.code yX0_price cX0_price 1 (some .int), Cond.fieldLink RX0 29 "TelegraphPrices" "coins" "I", Cond.methodLink RX0 105 yX0_count, Cond.instanceMethod yX0_count, Cond.selects RX0 yX0_count yX0_count, Cond.code yX0_count cX0_count 3 (some .int), Cond.fieldLink RX0 35 "TelegraphPrices" "joined" "[Z", Cond.fieldLink RX0 32 "TelegraphPrices" "telegram" "[I", Cond.fieldLink RX0 9 "TelegraphPrices" "letters" "[I"]
def wsX0_send_r2 : List Cond := [Cond.methodLink RX0 126 yX0_countOfPair, Cond.instanceMethod yX0_countOfPair, Cond.selects RX0 yX0_countOfPair yX0_countOfPair, Cond.code yX0_countOfPair cX0_countOfPair 3 (some .int), Cond.methodLink RX0 118 yX0_countOfLetters, Cond.instanceMethod yX0_countOfLetters, Cond.selects RX0 yX0_countOfLetters yX0_countOfLetters, Cond.code yX0_countOfLetters cX0_countOfLetters 2 (some .int), Cond.fieldLink RX0 23 "TelegraphPrices" "limit" "I", Cond.methodLink RX0 130 yX0_atLeastTheLeastCount, Cond.instanceMethod yX0_atLeastTheLeastCount, Cond.selects RX0 yX0_atLeastTheLeastCount yX0_atLeastTheLeastCount, Cond.code yX0_atLeastTheLeastCount cX0_atLeastTheLeastCount 2 (some .int), Cond.fieldLink RX0 26 "TelegraphPrices" "leastCount" "I", Cond.methodLink RX0 175 Lib.Math.max.name, Cond.static Lib.Math.max.name, Cond.initialized "java/lang/Math", Cond.code Lib.Math.max.name Lib.Math.max.code 2 (some .int)]
def wsX0_send : List Cond := .code yX0_send cX0_send 3 (some .int) :: ((wsX0_send_r1 ++ wsX0_send_r2) ++ wsX00 ++ (vx_atS RX0 77 "java/lang/IllegalStateException" ["java/lang/RuntimeException", "java/lang/Exception"]).filter goodWord ++ (vx_atS RX0 137 "java/lang/IndexOutOfBoundsException" ["java/lang/RuntimeException", "java/lang/Exception"]).filter goodWord)
def wsX0_words : List Cond := .code yX0_words cX0_words 1 (some .int) :: ([.fieldLink RX0 19 "TelegraphPrices" "words" "I"] ++ wsX00)
def wsX0_lettersOf : List Cond := .code yX0_lettersOf cX0_lettersOf 2 (some .int) :: ([.fieldLink RX0 9 "TelegraphPrices" "letters" "[I", .methodLink RX0 78 yX0_needWord, .instanceMethod yX0_needWord, .selects RX0 yX0_needWord yX0_needWord, .initialized RX0, .code yX0_needWord cX0_needWord 2 none, .classLink RX0 133 "java/lang/IndexOutOfBoundsException", .initialized "java/lang/IndexOutOfBoundsException", .fieldLink RX0 19 "TelegraphPrices" "words" "I"] ++ wsX00 ++ (vx_atS RX0 137 "java/lang/IndexOutOfBoundsException" ["java/lang/RuntimeException", "java/lang/Exception"]).filter goodWord)
def wsX0_countOf : List Cond := .code yX0_countOf cX0_countOf 2 (some .int) :: ([.fieldLink RX0 9 "TelegraphPrices" "letters" "[I", .methodLink RX0 78 yX0_needWord, .instanceMethod yX0_needWord, .selects RX0 yX0_needWord yX0_needWord, .initialized RX0, .code yX0_needWord cX0_needWord 2 none, .classLink RX0 133 "java/lang/IndexOutOfBoundsException", .initialized "java/lang/IndexOutOfBoundsException", .fieldLink RX0 19 "TelegraphPrices" "words" "I", .methodLink RX0 118 yX0_countOfLetters, .instanceMethod yX0_countOfLetters, .selects RX0 yX0_countOfLetters yX0_countOfLetters, .code yX0_countOfLetters cX0_countOfLetters 2 (some .int), .fieldLink RX0 23 "TelegraphPrices" "limit" "I"] ++ wsX00 ++ (vx_atS RX0 137 "java/lang/IndexOutOfBoundsException" ["java/lang/RuntimeException", "java/lang/Exception"]).filter goodWord)
def wsX0_mayStandFor : List Cond := .code yX0_mayStandFor cX0_mayStandFor 3 (some .boolean) :: ([.fieldLink RX0 13 "TelegraphPrices" "standIns" "[I", .methodLink RX0 78 yX0_needWord, .instanceMethod yX0_needWord, .selects RX0 yX0_needWord yX0_needWord, .initialized RX0, .code yX0_needWord cX0_needWord 2 none, .classLink RX0 133 "java/lang/IndexOutOfBoundsException", .initialized "java/lang/IndexOutOfBoundsException", .fieldLink RX0 19 "TelegraphPrices" "words" "I", .methodLink RX0 84 yX0_hasBit, .static yX0_hasBit, .code yX0_hasBit cX0_hasBit 2 (some .boolean)] ++ wsX00 ++ (vx_atS RX0 137 "java/lang/IndexOutOfBoundsException" ["java/lang/RuntimeException", "java/lang/Exception"]).filter goodWord)
def wsX0_mayJoin : List Cond := .code yX0_mayJoin cX0_mayJoin 3 (some .boolean) :: ([.fieldLink RX0 16 "TelegraphPrices" "joins" "[I", .methodLink RX0 78 yX0_needWord, .instanceMethod yX0_needWord, .selects RX0 yX0_needWord yX0_needWord, .initialized RX0, .code yX0_needWord cX0_needWord 2 none, .classLink RX0 133 "java/lang/IndexOutOfBoundsException", .initialized "java/lang/IndexOutOfBoundsException", .fieldLink RX0 19 "TelegraphPrices" "words" "I", .methodLink RX0 84 yX0_hasBit, .static yX0_hasBit, .code yX0_hasBit cX0_hasBit 2 (some .boolean)] ++ wsX00 ++ (vx_atS RX0 137 "java/lang/IndexOutOfBoundsException" ["java/lang/RuntimeException", "java/lang/Exception"]).filter goodWord)
def wsJ6_bitCount_0f7a4 : List Cond := .code yJ6_bitCount_0f7a4 cJ6_bitCount_0f7a4 1 (some .int) :: ([.constant RJ6 265 (1431655765), .constant RJ6 266 (858993459), .constant RJ6 267 (252645135)])
def wsX0_standInsOf : List Cond := .code yX0_standInsOf cX0_standInsOf 2 (some .int) :: ([.fieldLink RX0 13 "TelegraphPrices" "standIns" "[I", .methodLink RX0 78 yX0_needWord, .instanceMethod yX0_needWord, .selects RX0 yX0_needWord yX0_needWord, .initialized RX0, .code yX0_needWord cX0_needWord 2 none, .classLink RX0 133 "java/lang/IndexOutOfBoundsException", .initialized "java/lang/IndexOutOfBoundsException", .fieldLink RX0 19 "TelegraphPrices" "words" "I", .methodLink RX0 121 yJ6_bitCount_0f7a4, .static yJ6_bitCount_0f7a4, .initialized RJ6, .code yJ6_bitCount_0f7a4 cJ6_bitCount_0f7a4 1 (some .int), .constant RJ6 265 (1431655765), .constant RJ6 266 (858993459), .constant RJ6 267 (252645135)] ++ wsX00 ++ (vx_atS RX0 137 "java/lang/IndexOutOfBoundsException" ["java/lang/RuntimeException", "java/lang/Exception"]).filter goodWord)
def wsX0_limit : List Cond := .code yX0_limit cX0_limit 1 (some .int) :: ([.fieldLink RX0 23 "TelegraphPrices" "limit" "I"] ++ wsX00)
def wsX0_leastCount : List Cond := .code yX0_leastCount cX0_leastCount 1 (some .int) :: ([.fieldLink RX0 26 "TelegraphPrices" "leastCount" "I"] ++ wsX00)
def wsX0_coins : List Cond := .code yX0_coins cX0_coins 1 (some .int) :: ([.fieldLink RX0 29 "TelegraphPrices" "coins" "I"] ++ wsX00)
def wsX0_length : List Cond := .code yX0_length cX0_length 1 (some .int) :: ([.fieldLink RX0 39 "TelegraphPrices" "length" "I"] ++ wsX00)
def wsX0_wordAt : List Cond := .code yX0_wordAt cX0_wordAt 2 (some .int) :: ([.fieldLink RX0 32 "TelegraphPrices" "telegram" "[I", .methodLink RX0 96 yX0_needPlace, .instanceMethod yX0_needPlace, .selects RX0 yX0_needPlace yX0_needPlace, .initialized RX0, .code yX0_needPlace cX0_needPlace 2 none, .classLink RX0 133 "java/lang/IndexOutOfBoundsException", .initialized "java/lang/IndexOutOfBoundsException", .fieldLink RX0 39 "TelegraphPrices" "length" "I"] ++ wsX00 ++ (vx_atS RX0 137 "java/lang/IndexOutOfBoundsException" ["java/lang/RuntimeException", "java/lang/Exception"]).filter goodWord)
def wsX0_isJoined : List Cond := .code yX0_isJoined cX0_isJoined 2 (some .boolean) :: ([.fieldLink RX0 35 "TelegraphPrices" "joined" "[Z", .methodLink RX0 96 yX0_needPlace, .instanceMethod yX0_needPlace, .selects RX0 yX0_needPlace yX0_needPlace, .initialized RX0, .code yX0_needPlace cX0_needPlace 2 none, .classLink RX0 133 "java/lang/IndexOutOfBoundsException", .initialized "java/lang/IndexOutOfBoundsException", .fieldLink RX0 39 "TelegraphPrices" "length" "I"] ++ wsX00 ++ (vx_atS RX0 137 "java/lang/IndexOutOfBoundsException" ["java/lang/RuntimeException", "java/lang/Exception"]).filter goodWord)
def wsX0_sent : List Cond := .code yX0_sent cX0_sent 1 (some .int) :: ([.fieldLink RX0 42 "TelegraphPrices" "sent" "I"] ++ wsX00)
def wsX0_earned : List Cond := .code yX0_earned cX0_earned 1 (some .int) :: ([.fieldLink RX0 45 "TelegraphPrices" "earned" "I"] ++ wsX00)
def wsX0_cheapestCount_r1 : List Cond := [Cond.fieldLink RX0 51 "TelegraphPrices" "leastJoined" "[I", Cond.methodLink RX0 141 yX0_noteLeastCounts, Cond.instanceMethod yX0_noteLeastCounts, Cond.selects RX0 yX0_noteLeastCounts yX0_noteLeastCounts, Cond.initialized RX0, Cond.code yX0_noteLeastCounts cX0_noteLeastCounts 3 none, Cond.fieldLink RX0 39 "TelegraphPrices" "length" "I", Cond.fieldLink RX0 48 "TelegraphPrices" "leastAlone" "[I", Cond.fieldLink RX0 9 "TelegraphPrices" "letters" "[I", Cond.constant RX0 151 (1000000), Cond.methodLink RX0 178 yX0_bestWordAt, Cond.instanceMethod yX0_bestWordAt, Cond.selects RX0 yX0_bestWordAt yX0_bestWordAt, Cond.code yX0_bestWordAt cX0_bestWordAt 5 (some .int), Cond.fieldLink RX0 32 "TelegraphPrices" "telegram" "[I", Cond.fieldLink RX0 19 "TelegraphPrices" "words" "I", Cond.methodLink RX0 184 yX0_mayHold, Cond.instanceMethod yX0_mayHold, Cond.selects RX0 yX0_mayHold yX0_mayHold, Cond.code yX0_mayHold cX0_mayHold 3 (some .boolean), Cond.fieldLink RX0 13 "TelegraphPrices" "standIns" "[I", Cond.methodLink RX0 84 yX0_hasBit, Cond.static yX0_hasBit, Cond.code yX0_hasBit cX0_hasBit 2 (some .boolean)]
def wsX0_cheapestCount_r2 : List Cond := [Cond.methodLink RX0 118 yX0_countOfLetters, Cond.instanceMethod yX0_countOfLetters, Cond.selects RX0 yX0_countOfLetters yX0_countOfLetters, Cond.code yX0_countOfLetters cX0_countOfLetters 2 (some .int), Cond.fieldLink RX0 23 "TelegraphPrices" "limit" "I", Cond.methodLink RX0 181 yX0_bestPairAt, Cond.instanceMethod yX0_bestPairAt, Cond.selects RX0 yX0_bestPairAt yX0_bestPairAt, Cond.code yX0_bestPairAt cX0_bestPairAt 7 (some .int), Cond.fieldLink RX0 16 "TelegraphPrices" "joins" "[I", Cond.methodLink RX0 126 yX0_countOfPair, Cond.instanceMethod yX0_countOfPair, Cond.selects RX0 yX0_countOfPair yX0_countOfPair, Cond.code yX0_countOfPair cX0_countOfPair 3 (some .int), Cond.methodLink RX0 144 yX0_leastInAll, Cond.instanceMethod yX0_leastInAll, Cond.selects RX0 yX0_leastInAll yX0_leastInAll, Cond.code yX0_leastInAll cX0_leastInAll 4 (some .int), Cond.fieldLink RX0 57 "TelegraphPrices" "leastFrom" "[I", Cond.methodLink RX0 152 Lib.Math.min.name, Cond.static Lib.Math.min.name, Cond.initialized "java/lang/Math", Cond.code Lib.Math.min.name Lib.Math.min.code 2 (some .int), Cond.methodLink RX0 130 yX0_atLeastTheLeastCount]
def wsX0_cheapestCount_r3 : List Cond := [Cond.instanceMethod yX0_atLeastTheLeastCount, Cond.selects RX0 yX0_atLeastTheLeastCount yX0_atLeastTheLeastCount, Cond.code yX0_atLeastTheLeastCount cX0_atLeastTheLeastCount 2 (some .int), Cond.fieldLink RX0 26 "TelegraphPrices" "leastCount" "I", Cond.methodLink RX0 175 Lib.Math.max.name, Cond.static Lib.Math.max.name, Cond.code Lib.Math.max.name Lib.Math.max.code 2 (some .int)]
def wsX0_cheapestCount : List Cond := .code yX0_cheapestCount cX0_cheapestCount 1 (some .int) :: ((wsX0_cheapestCount_r1 ++ (wsX0_cheapestCount_r2 ++ wsX0_cheapestCount_r3)) ++ wsX00)
def wsX0_cheapestWordAt_r1 : List Cond := [Cond.fieldLink RX0 60 "TelegraphPrices" "cheapestWords" "[I", Cond.methodLink RX0 96 yX0_needPlace, Cond.instanceMethod yX0_needPlace, Cond.selects RX0 yX0_needPlace yX0_needPlace, Cond.initialized RX0, Cond.code yX0_needPlace cX0_needPlace 2 none, Cond.classLink RX0 133 "java/lang/IndexOutOfBoundsException", Cond.initialized "java/lang/IndexOutOfBoundsException", Cond.fieldLink RX0 39 "TelegraphPrices" "length" "I", Cond.methodLink RX0 109 yX0_noteCheapestWording, Cond.instanceMethod yX0_noteCheapestWording, Cond.selects RX0 yX0_noteCheapestWording yX0_noteCheapestWording, Cond.code yX0_noteCheapestWording cX0_noteCheapestWording 3 none, Cond.fieldLink RX0 51 "TelegraphPrices" "leastJoined" "[I", Cond.fieldLink RX0 48 "TelegraphPrices" "leastAlone" "[I", Cond.fieldLink RX0 57 "TelegraphPrices" "leastFrom" "[I", Cond.methodLink RX0 141 yX0_noteLeastCounts, Cond.instanceMethod yX0_noteLeastCounts, Cond.selects RX0 yX0_noteLeastCounts yX0_noteLeastCounts, Cond.code yX0_noteLeastCounts cX0_noteLeastCounts 3 none, Cond.fieldLink RX0 9 "TelegraphPrices" "letters" "[I", Cond.constant RX0 151 (1000000), Cond.methodLink RX0 178 yX0_bestWordAt, Cond.instanceMethod yX0_bestWordAt]
def wsX0_cheapestWordAt_r2 : List Cond := [Cond.selects RX0 yX0_bestWordAt yX0_bestWordAt, Cond.code yX0_bestWordAt cX0_bestWordAt 5 (some .int), Cond.fieldLink RX0 32 "TelegraphPrices" "telegram" "[I", Cond.fieldLink RX0 19 "TelegraphPrices" "words" "I", Cond.methodLink RX0 184 yX0_mayHold, Cond.instanceMethod yX0_mayHold, Cond.selects RX0 yX0_mayHold yX0_mayHold, Cond.code yX0_mayHold cX0_mayHold 3 (some .boolean), Cond.fieldLink RX0 13 "TelegraphPrices" "standIns" "[I", Cond.methodLink RX0 84 yX0_hasBit, Cond.static yX0_hasBit, Cond.code yX0_hasBit cX0_hasBit 2 (some .boolean), Cond.methodLink RX0 118 yX0_countOfLetters, Cond.instanceMethod yX0_countOfLetters, Cond.selects RX0 yX0_countOfLetters yX0_countOfLetters, Cond.code yX0_countOfLetters cX0_countOfLetters 2 (some .int), Cond.fieldLink RX0 23 "TelegraphPrices" "limit" "I", Cond.methodLink RX0 181 yX0_bestPairAt, Cond.instanceMethod yX0_bestPairAt, Cond.selects RX0 yX0_bestPairAt yX0_bestPairAt, Cond.code yX0_bestPairAt cX0_bestPairAt 7 (some .int), Cond.fieldLink RX0 16 "TelegraphPrices" "joins" "[I", Cond.methodLink RX0 126 yX0_countOfPair, Cond.instanceMethod yX0_countOfPair]
def wsX0_cheapestWordAt_r3 : List Cond := [Cond.selects RX0 yX0_countOfPair yX0_countOfPair, Cond.code yX0_countOfPair cX0_countOfPair 3 (some .int), Cond.methodLink RX0 144 yX0_leastInAll, Cond.instanceMethod yX0_leastInAll, Cond.selects RX0 yX0_leastInAll yX0_leastInAll, Cond.code yX0_leastInAll cX0_leastInAll 4 (some .int), Cond.methodLink RX0 152 Lib.Math.min.name, Cond.static Lib.Math.min.name, Cond.initialized "java/lang/Math", Cond.code Lib.Math.min.name Lib.Math.min.code 2 (some .int), Cond.methodLink RX0 187 yX0_noteCheapestAt, Cond.instanceMethod yX0_noteCheapestAt, Cond.selects RX0 yX0_noteCheapestAt yX0_noteCheapestAt, Cond.code yX0_noteCheapestAt cX0_noteCheapestAt 4 none, Cond.fieldLink RX0 63 "TelegraphPrices" "cheapestJoined" "[Z"]
def wsX0_cheapestWordAt : List Cond := .code yX0_cheapestWordAt cX0_cheapestWordAt 2 (some .int) :: ((wsX0_cheapestWordAt_r1 ++ (wsX0_cheapestWordAt_r2 ++ wsX0_cheapestWordAt_r3)) ++ wsX00 ++ (vx_atS RX0 137 "java/lang/IndexOutOfBoundsException" ["java/lang/RuntimeException", "java/lang/Exception"]).filter goodWord)
def wsX0_isJoinedInCheapest_r1 : List Cond := [Cond.fieldLink RX0 63 "TelegraphPrices" "cheapestJoined" "[Z", Cond.methodLink RX0 96 yX0_needPlace, Cond.instanceMethod yX0_needPlace, Cond.selects RX0 yX0_needPlace yX0_needPlace, Cond.initialized RX0, Cond.code yX0_needPlace cX0_needPlace 2 none, Cond.classLink RX0 133 "java/lang/IndexOutOfBoundsException", Cond.initialized "java/lang/IndexOutOfBoundsException", Cond.fieldLink RX0 39 "TelegraphPrices" "length" "I", Cond.methodLink RX0 109 yX0_noteCheapestWording, Cond.instanceMethod yX0_noteCheapestWording, Cond.selects RX0 yX0_noteCheapestWording yX0_noteCheapestWording, Cond.code yX0_noteCheapestWording cX0_noteCheapestWording 3 none, Cond.fieldLink RX0 51 "TelegraphPrices" "leastJoined" "[I", Cond.fieldLink RX0 48 "TelegraphPrices" "leastAlone" "[I", Cond.fieldLink RX0 57 "TelegraphPrices" "leastFrom" "[I", Cond.methodLink RX0 141 yX0_noteLeastCounts, Cond.instanceMethod yX0_noteLeastCounts, Cond.selects RX0 yX0_noteLeastCounts yX0_noteLeastCounts, Cond.code yX0_noteLeastCounts cX0_noteLeastCounts 3 none, Cond.fieldLink RX0 9 "TelegraphPrices" "letters" "[I", Cond.constant RX0 151 (1000000), Cond.methodLink RX0 178 yX0_bestWordAt, Cond.instanceMethod yX0_bestWordAt]
def wsX0_isJoinedInCheapest_r2 : List Cond := [Cond.selects RX0 yX0_bestWordAt yX0_bestWordAt, Cond.code yX0_bestWordAt cX0_bestWordAt 5 (some .int), Cond.fieldLink RX0 32 "TelegraphPrices" "telegram" "[I", Cond.fieldLink RX0 19 "TelegraphPrices" "words" "I", Cond.methodLink RX0 184 yX0_mayHold, Cond.instanceMethod yX0_mayHold, Cond.selects RX0 yX0_mayHold yX0_mayHold, Cond.code yX0_mayHold cX0_mayHold 3 (some .boolean), Cond.fieldLink RX0 13 "TelegraphPrices" "standIns" "[I", Cond.methodLink RX0 84 yX0_hasBit, Cond.static yX0_hasBit, Cond.code yX0_hasBit cX0_hasBit 2 (some .boolean), Cond.methodLink RX0 118 yX0_countOfLetters, Cond.instanceMethod yX0_countOfLetters, Cond.selects RX0 yX0_countOfLetters yX0_countOfLetters, Cond.code yX0_countOfLetters cX0_countOfLetters 2 (some .int), Cond.fieldLink RX0 23 "TelegraphPrices" "limit" "I", Cond.methodLink RX0 181 yX0_bestPairAt, Cond.instanceMethod yX0_bestPairAt, Cond.selects RX0 yX0_bestPairAt yX0_bestPairAt, Cond.code yX0_bestPairAt cX0_bestPairAt 7 (some .int), Cond.fieldLink RX0 16 "TelegraphPrices" "joins" "[I", Cond.methodLink RX0 126 yX0_countOfPair, Cond.instanceMethod yX0_countOfPair]
def wsX0_isJoinedInCheapest_r3 : List Cond := [Cond.selects RX0 yX0_countOfPair yX0_countOfPair, Cond.code yX0_countOfPair cX0_countOfPair 3 (some .int), Cond.methodLink RX0 144 yX0_leastInAll, Cond.instanceMethod yX0_leastInAll, Cond.selects RX0 yX0_leastInAll yX0_leastInAll, Cond.code yX0_leastInAll cX0_leastInAll 4 (some .int), Cond.methodLink RX0 152 Lib.Math.min.name, Cond.static Lib.Math.min.name, Cond.initialized "java/lang/Math", Cond.code Lib.Math.min.name Lib.Math.min.code 2 (some .int), Cond.methodLink RX0 187 yX0_noteCheapestAt, Cond.instanceMethod yX0_noteCheapestAt, Cond.selects RX0 yX0_noteCheapestAt yX0_noteCheapestAt, Cond.code yX0_noteCheapestAt cX0_noteCheapestAt 4 none, Cond.fieldLink RX0 60 "TelegraphPrices" "cheapestWords" "[I"]
def wsX0_isJoinedInCheapest : List Cond := .code yX0_isJoinedInCheapest cX0_isJoinedInCheapest 2 (some .boolean) :: ((wsX0_isJoinedInCheapest_r1 ++ (wsX0_isJoinedInCheapest_r2 ++ wsX0_isJoinedInCheapest_r3)) ++ wsX00 ++ (vx_atS RX0 137 "java/lang/IndexOutOfBoundsException" ["java/lang/RuntimeException", "java/lang/Exception"]).filter goodWord)
def wsX0_saves_r1 : List Cond := [Cond.fieldLink RX0 29 "TelegraphPrices" "coins" "I", Cond.methodLink RX0 138 yX0_price, Cond.instanceMethod yX0_price, Cond.selects RX0 yX0_price yX0_price, Cond.initialized RX0, Cond.code yX0_price cX0_price 1 (some .int), Cond.methodLink RX0 105 yX0_count, Cond.instanceMethod yX0_count, Cond.selects RX0 yX0_count yX0_count, Cond.code yX0_count cX0_count 3 (some .int), Cond.fieldLink RX0 39 "TelegraphPrices" "length" "I", Cond.fieldLink RX0 35 "TelegraphPrices" "joined" "[Z", Cond.fieldLink RX0 32 "TelegraphPrices" "telegram" "[I", Cond.fieldLink RX0 9 "TelegraphPrices" "letters" "[I", Cond.methodLink RX0 126 yX0_countOfPair, Cond.instanceMethod yX0_countOfPair, Cond.selects RX0 yX0_countOfPair yX0_countOfPair, Cond.code yX0_countOfPair cX0_countOfPair 3 (some .int), Cond.methodLink RX0 118 yX0_countOfLetters, Cond.instanceMethod yX0_countOfLetters, Cond.selects RX0 yX0_countOfLetters yX0_countOfLetters, Cond.code yX0_countOfLetters cX0_countOfLetters 2 (some .int), Cond.fieldLink RX0 23 "TelegraphPrices" "limit" "I", Cond.methodLink RX0 130 yX0_atLeastTheLeastCount]
def wsX0_saves_r2 : List Cond := [Cond.instanceMethod yX0_atLeastTheLeastCount, Cond.selects RX0 yX0_atLeastTheLeastCount yX0_atLeastTheLeastCount, Cond.code yX0_atLeastTheLeastCount cX0_atLeastTheLeastCount 2 (some .int), Cond.fieldLink RX0 26 "TelegraphPrices" "leastCount" "I", Cond.methodLink RX0 175 Lib.Math.max.name, Cond.static Lib.Math.max.name, Cond.initialized "java/lang/Math", Cond.code Lib.Math.max.name Lib.Math.max.code 2 (some .int), Cond.methodLink RX0 148 yX0_cheapestCount, Cond.instanceMethod yX0_cheapestCount, Cond.selects RX0 yX0_cheapestCount yX0_cheapestCount, Cond.code yX0_cheapestCount cX0_cheapestCount 1 (some .int), Cond.fieldLink RX0 51 "TelegraphPrices" "leastJoined" "[I", Cond.methodLink RX0 141 yX0_noteLeastCounts, Cond.instanceMethod yX0_noteLeastCounts, Cond.selects RX0 yX0_noteLeastCounts yX0_noteLeastCounts, Cond.code yX0_noteLeastCounts cX0_noteLeastCounts 3 none, Cond.fieldLink RX0 48 "TelegraphPrices" "leastAlone" "[I", Cond.constant RX0 151 (1000000), Cond.methodLink RX0 178 yX0_bestWordAt, Cond.instanceMethod yX0_bestWordAt, Cond.selects RX0 yX0_bestWordAt yX0_bestWordAt, Cond.code yX0_bestWordAt cX0_bestWordAt 5 (some .int), Cond.fieldLink RX0 19 "TelegraphPrices" "words" "I"]
def wsX0_saves_r3 : List Cond := [Cond.methodLink RX0 184 yX0_mayHold, Cond.instanceMethod yX0_mayHold, Cond.selects RX0 yX0_mayHold yX0_mayHold, Cond.code yX0_mayHold cX0_mayHold 3 (some .boolean), Cond.fieldLink RX0 13 "TelegraphPrices" "standIns" "[I", Cond.methodLink RX0 84 yX0_hasBit, Cond.static yX0_hasBit, Cond.code yX0_hasBit cX0_hasBit 2 (some .boolean), Cond.methodLink RX0 181 yX0_bestPairAt, Cond.instanceMethod yX0_bestPairAt, Cond.selects RX0 yX0_bestPairAt yX0_bestPairAt, Cond.code yX0_bestPairAt cX0_bestPairAt 7 (some .int), Cond.fieldLink RX0 16 "TelegraphPrices" "joins" "[I", Cond.methodLink RX0 144 yX0_leastInAll, Cond.instanceMethod yX0_leastInAll, Cond.selects RX0 yX0_leastInAll yX0_leastInAll, Cond.code yX0_leastInAll cX0_leastInAll 4 (some .int), Cond.fieldLink RX0 57 "TelegraphPrices" "leastFrom" "[I", Cond.methodLink RX0 152 Lib.Math.min.name, Cond.static Lib.Math.min.name, Cond.code Lib.Math.min.name Lib.Math.min.code 2 (some .int)]
def wsX0_saves : List Cond := .code yX0_saves cX0_saves 1 (some .int) :: ((wsX0_saves_r1 ++ (wsX0_saves_r2 ++ wsX0_saves_r3)) ++ wsX00)
def wsX0_wordings : List Cond := .code yX0_wordings cX0_wordings 3 (some .int) :: ([.fieldLink RX0 39 "TelegraphPrices" "length" "I", .fieldLink RX0 13 "TelegraphPrices" "standIns" "[I", .fieldLink RX0 32 "TelegraphPrices" "telegram" "[I", .constant RX0 151 (1000000), .methodLink RX0 152 Lib.Math.min.name, .static Lib.Math.min.name, .initialized "java/lang/Math", .code Lib.Math.min.name Lib.Math.min.code 2 (some .int), .methodLink RX0 121 yJ6_bitCount_0f7a4, .static yJ6_bitCount_0f7a4, .initialized RJ6, .code yJ6_bitCount_0f7a4 cJ6_bitCount_0f7a4 1 (some .int), .constant RJ6 265 (1431655765), .constant RJ6 266 (858993459), .constant RJ6 267 (252645135)] ++ wsX00)
def wsX0_cheapestCountWithJoin_r1 : List Cond := [Cond.fieldLink RX0 39 "TelegraphPrices" "length" "I", Cond.fieldLink RX0 54 "TelegraphPrices" "leastTried" "[I", Cond.fieldLink RX0 51 "TelegraphPrices" "leastJoined" "[I", Cond.methodLink RX0 152 Lib.Math.min.name, Cond.static Lib.Math.min.name, Cond.initialized "java/lang/Math", Cond.code Lib.Math.min.name Lib.Math.min.code 2 (some .int), Cond.methodLink RX0 126 yX0_countOfPair, Cond.instanceMethod yX0_countOfPair, Cond.selects RX0 yX0_countOfPair yX0_countOfPair, Cond.initialized RX0, Cond.code yX0_countOfPair cX0_countOfPair 3 (some .int), Cond.fieldLink RX0 9 "TelegraphPrices" "letters" "[I", Cond.methodLink RX0 118 yX0_countOfLetters, Cond.instanceMethod yX0_countOfLetters, Cond.selects RX0 yX0_countOfLetters yX0_countOfLetters, Cond.code yX0_countOfLetters cX0_countOfLetters 2 (some .int), Cond.fieldLink RX0 23 "TelegraphPrices" "limit" "I", Cond.methodLink RX0 184 yX0_mayHold, Cond.instanceMethod yX0_mayHold, Cond.selects RX0 yX0_mayHold yX0_mayHold, Cond.code yX0_mayHold cX0_mayHold 3 (some .boolean), Cond.fieldLink RX0 13 "TelegraphPrices" "standIns" "[I", Cond.fieldLink RX0 32 "TelegraphPrices" "telegram" "[I"]
def wsX0_cheapestCountWithJoin_r2 : List Cond := [Cond.methodLink RX0 84 yX0_hasBit, Cond.static yX0_hasBit, Cond.code yX0_hasBit cX0_hasBit 2 (some .boolean), Cond.methodLink RX0 144 yX0_leastInAll, Cond.instanceMethod yX0_leastInAll, Cond.selects RX0 yX0_leastInAll yX0_leastInAll, Cond.code yX0_leastInAll cX0_leastInAll 4 (some .int), Cond.fieldLink RX0 57 "TelegraphPrices" "leastFrom" "[I", Cond.fieldLink RX0 48 "TelegraphPrices" "leastAlone" "[I", Cond.methodLink RX0 130 yX0_atLeastTheLeastCount, Cond.instanceMethod yX0_atLeastTheLeastCount, Cond.selects RX0 yX0_atLeastTheLeastCount yX0_atLeastTheLeastCount, Cond.code yX0_atLeastTheLeastCount cX0_atLeastTheLeastCount 2 (some .int), Cond.fieldLink RX0 26 "TelegraphPrices" "leastCount" "I", Cond.methodLink RX0 175 Lib.Math.max.name, Cond.static Lib.Math.max.name, Cond.code Lib.Math.max.name Lib.Math.max.code 2 (some .int)]
def wsX0_cheapestCountWithJoin : List Cond := .code yX0_cheapestCountWithJoin cX0_cheapestCountWithJoin 6 (some .int) :: ((wsX0_cheapestCountWithJoin_r1 ++ wsX0_cheapestCountWithJoin_r2) ++ wsX00)
def wsX0_bestJoin_r1 : List Cond := [Cond.fieldLink RX0 19 "TelegraphPrices" "words" "I", Cond.fieldLink RX0 16 "TelegraphPrices" "joins" "[I", Cond.methodLink RX0 148 yX0_cheapestCount, Cond.instanceMethod yX0_cheapestCount, Cond.selects RX0 yX0_cheapestCount yX0_cheapestCount, Cond.initialized RX0, Cond.code yX0_cheapestCount cX0_cheapestCount 1 (some .int), Cond.fieldLink RX0 51 "TelegraphPrices" "leastJoined" "[I", Cond.methodLink RX0 141 yX0_noteLeastCounts, Cond.instanceMethod yX0_noteLeastCounts, Cond.selects RX0 yX0_noteLeastCounts yX0_noteLeastCounts, Cond.code yX0_noteLeastCounts cX0_noteLeastCounts 3 none, Cond.fieldLink RX0 39 "TelegraphPrices" "length" "I", Cond.fieldLink RX0 48 "TelegraphPrices" "leastAlone" "[I", Cond.fieldLink RX0 9 "TelegraphPrices" "letters" "[I", Cond.constant RX0 151 (1000000), Cond.methodLink RX0 178 yX0_bestWordAt, Cond.instanceMethod yX0_bestWordAt, Cond.selects RX0 yX0_bestWordAt yX0_bestWordAt, Cond.code yX0_bestWordAt cX0_bestWordAt 5 (some .int), Cond.fieldLink RX0 32 "TelegraphPrices" "telegram" "[I", Cond.methodLink RX0 184 yX0_mayHold, Cond.instanceMethod yX0_mayHold, Cond.selects RX0 yX0_mayHold yX0_mayHold]
def wsX0_bestJoin_r2 : List Cond := [Cond.code yX0_mayHold cX0_mayHold 3 (some .boolean), Cond.fieldLink RX0 13 "TelegraphPrices" "standIns" "[I", Cond.methodLink RX0 84 yX0_hasBit, Cond.static yX0_hasBit, Cond.code yX0_hasBit cX0_hasBit 2 (some .boolean), Cond.methodLink RX0 118 yX0_countOfLetters, Cond.instanceMethod yX0_countOfLetters, Cond.selects RX0 yX0_countOfLetters yX0_countOfLetters, Cond.code yX0_countOfLetters cX0_countOfLetters 2 (some .int), Cond.fieldLink RX0 23 "TelegraphPrices" "limit" "I", Cond.methodLink RX0 181 yX0_bestPairAt, Cond.instanceMethod yX0_bestPairAt, Cond.selects RX0 yX0_bestPairAt yX0_bestPairAt, Cond.code yX0_bestPairAt cX0_bestPairAt 7 (some .int), Cond.methodLink RX0 126 yX0_countOfPair, Cond.instanceMethod yX0_countOfPair, Cond.selects RX0 yX0_countOfPair yX0_countOfPair, Cond.code yX0_countOfPair cX0_countOfPair 3 (some .int), Cond.methodLink RX0 144 yX0_leastInAll, Cond.instanceMethod yX0_leastInAll, Cond.selects RX0 yX0_leastInAll yX0_leastInAll, Cond.code yX0_leastInAll cX0_leastInAll 4 (some .int), Cond.fieldLink RX0 57 "TelegraphPrices" "leastFrom" "[I", Cond.methodLink RX0 152 Lib.Math.min.name]
def wsX0_bestJoin_r3 : List Cond := [Cond.static Lib.Math.min.name, Cond.initialized "java/lang/Math", Cond.code Lib.Math.min.name Lib.Math.min.code 2 (some .int), Cond.methodLink RX0 130 yX0_atLeastTheLeastCount, Cond.instanceMethod yX0_atLeastTheLeastCount, Cond.selects RX0 yX0_atLeastTheLeastCount yX0_atLeastTheLeastCount, Cond.code yX0_atLeastTheLeastCount cX0_atLeastTheLeastCount 2 (some .int), Cond.fieldLink RX0 26 "TelegraphPrices" "leastCount" "I", Cond.methodLink RX0 175 Lib.Math.max.name, Cond.static Lib.Math.max.name, Cond.code Lib.Math.max.name Lib.Math.max.code 2 (some .int), Cond.methodLink RX0 157 yX0_cheapestCountWithJoin, Cond.instanceMethod yX0_cheapestCountWithJoin, Cond.selects RX0 yX0_cheapestCountWithJoin yX0_cheapestCountWithJoin, Cond.code yX0_cheapestCountWithJoin cX0_cheapestCountWithJoin 6 (some .int), Cond.fieldLink RX0 54 "TelegraphPrices" "leastTried" "[I"]
def wsX0_bestJoin : List Cond := .code yX0_bestJoin cX0_bestJoin 6 (some .int) :: ((wsX0_bestJoin_r1 ++ (wsX0_bestJoin_r2 ++ wsX0_bestJoin_r3)) ++ wsX00)
def wsX0_meanCost : List Cond := .code yX0_meanCost cX0_meanCost 1 (some .double) :: ([.fieldLink RX0 42 "TelegraphPrices" "sent" "I", .fieldLink RX0 45 "TelegraphPrices" "earned" "I"] ++ wsX00)
def wsX0_digestOfWords_r1 : List Cond := [Cond.fieldLink RX0 19 "TelegraphPrices" "words" "I", Cond.constantLong RX0 162 (31), Cond.fieldLink RX0 9 "TelegraphPrices" "letters" "[I", Cond.methodLink RX0 191 yX0_countOf, Cond.instanceMethod yX0_countOf, Cond.selects RX0 yX0_countOf yX0_countOf, Cond.initialized RX0, Cond.code yX0_countOf cX0_countOf 2 (some .int), Cond.methodLink RX0 78 yX0_needWord, Cond.instanceMethod yX0_needWord, Cond.selects RX0 yX0_needWord yX0_needWord, Cond.code yX0_needWord cX0_needWord 2 none, Cond.classLink RX0 133 "java/lang/IndexOutOfBoundsException", Cond.initialized "java/lang/IndexOutOfBoundsException", Cond.methodLink RX0 118 yX0_countOfLetters, Cond.instanceMethod yX0_countOfLetters, Cond.selects RX0 yX0_countOfLetters yX0_countOfLetters, Cond.code yX0_countOfLetters cX0_countOfLetters 2 (some .int), Cond.fieldLink RX0 23 "TelegraphPrices" "limit" "I", Cond.methodLink RX0 194 yX0_standInsOf, Cond.instanceMethod yX0_standInsOf, Cond.selects RX0 yX0_standInsOf yX0_standInsOf, Cond.code yX0_standInsOf cX0_standInsOf 2 (some .int), Cond.fieldLink RX0 13 "TelegraphPrices" "standIns" "[I"]
def wsX0_digestOfWords_r2 : List Cond := [Cond.methodLink RX0 121 yJ6_bitCount_0f7a4, Cond.static yJ6_bitCount_0f7a4, Cond.initialized RJ6, Cond.code yJ6_bitCount_0f7a4 cJ6_bitCount_0f7a4 1 (some .int), Cond.constant RJ6 265 (1431655765), Cond.constant RJ6 266 (858993459), Cond.constant RJ6 267 (252645135)]
def wsX0_digestOfWords : List Cond := .code yX0_digestOfWords cX0_digestOfWords 6 (some .long) :: ((wsX0_digestOfWords_r1 ++ wsX0_digestOfWords_r2) ++ wsX00 ++ (vx_atS RX0 137 "java/lang/IndexOutOfBoundsException" ["java/lang/RuntimeException", "java/lang/Exception"]).filter goodWord)
def wsX0_digestOfPlaces_r1 : List Cond := [Cond.fieldLink RX0 39 "TelegraphPrices" "length" "I", Cond.constantLong RX0 162 (31), Cond.fieldLink RX0 32 "TelegraphPrices" "telegram" "[I", Cond.fieldLink RX0 35 "TelegraphPrices" "joined" "[Z", Cond.fieldLink RX0 60 "TelegraphPrices" "cheapestWords" "[I", Cond.fieldLink RX0 63 "TelegraphPrices" "cheapestJoined" "[Z", Cond.methodLink RX0 109 yX0_noteCheapestWording, Cond.instanceMethod yX0_noteCheapestWording, Cond.selects RX0 yX0_noteCheapestWording yX0_noteCheapestWording, Cond.initialized RX0, Cond.code yX0_noteCheapestWording cX0_noteCheapestWording 3 none, Cond.fieldLink RX0 51 "TelegraphPrices" "leastJoined" "[I", Cond.fieldLink RX0 48 "TelegraphPrices" "leastAlone" "[I", Cond.fieldLink RX0 57 "TelegraphPrices" "leastFrom" "[I", Cond.methodLink RX0 141 yX0_noteLeastCounts, Cond.instanceMethod yX0_noteLeastCounts, Cond.selects RX0 yX0_noteLeastCounts yX0_noteLeastCounts, Cond.code yX0_noteLeastCounts cX0_noteLeastCounts 3 none, Cond.fieldLink RX0 9 "TelegraphPrices" "letters" "[I", Cond.constant RX0 151 (1000000), Cond.methodLink RX0 178 yX0_bestWordAt, Cond.instanceMethod yX0_bestWordAt, Cond.selects RX0 yX0_bestWordAt yX0_bestWordAt, Cond.code yX0_bestWordAt cX0_bestWordAt 5 (some .int)]
def wsX0_digestOfPlaces_r2 : List Cond := [Cond.fieldLink RX0 19 "TelegraphPrices" "words" "I", Cond.methodLink RX0 184 yX0_mayHold, Cond.instanceMethod yX0_mayHold, Cond.selects RX0 yX0_mayHold yX0_mayHold, Cond.code yX0_mayHold cX0_mayHold 3 (some .boolean), Cond.fieldLink RX0 13 "TelegraphPrices" "standIns" "[I", Cond.methodLink RX0 84 yX0_hasBit, Cond.static yX0_hasBit, Cond.code yX0_hasBit cX0_hasBit 2 (some .boolean), Cond.methodLink RX0 118 yX0_countOfLetters, Cond.instanceMethod yX0_countOfLetters, Cond.selects RX0 yX0_countOfLetters yX0_countOfLetters, Cond.code yX0_countOfLetters cX0_countOfLetters 2 (some .int), Cond.fieldLink RX0 23 "TelegraphPrices" "limit" "I", Cond.methodLink RX0 181 yX0_bestPairAt, Cond.instanceMethod yX0_bestPairAt, Cond.selects RX0 yX0_bestPairAt yX0_bestPairAt, Cond.code yX0_bestPairAt cX0_bestPairAt 7 (some .int), Cond.fieldLink RX0 16 "TelegraphPrices" "joins" "[I", Cond.methodLink RX0 126 yX0_countOfPair, Cond.instanceMethod yX0_countOfPair, Cond.selects RX0 yX0_countOfPair yX0_countOfPair, Cond.code yX0_countOfPair cX0_countOfPair 3 (some .int), Cond.methodLink RX0 144 yX0_leastInAll]
def wsX0_digestOfPlaces_r3 : List Cond := [Cond.instanceMethod yX0_leastInAll, Cond.selects RX0 yX0_leastInAll yX0_leastInAll, Cond.code yX0_leastInAll cX0_leastInAll 4 (some .int), Cond.methodLink RX0 152 Lib.Math.min.name, Cond.static Lib.Math.min.name, Cond.initialized "java/lang/Math", Cond.code Lib.Math.min.name Lib.Math.min.code 2 (some .int), Cond.methodLink RX0 187 yX0_noteCheapestAt, Cond.instanceMethod yX0_noteCheapestAt, Cond.selects RX0 yX0_noteCheapestAt yX0_noteCheapestAt, Cond.code yX0_noteCheapestAt cX0_noteCheapestAt 4 none]
def wsX0_digestOfPlaces : List Cond := .code yX0_digestOfPlaces cX0_digestOfPlaces 6 (some .long) :: ((wsX0_digestOfPlaces_r1 ++ (wsX0_digestOfPlaces_r2 ++ wsX0_digestOfPlaces_r3)) ++ wsX00)
def wsX0_digest_r1 : List Cond := [Cond.constantLong RX0 160 (1913), Cond.constantLong RX0 162 (31), Cond.fieldLink RX0 19 "TelegraphPrices" "words" "I", Cond.fieldLink RX0 23 "TelegraphPrices" "limit" "I", Cond.fieldLink RX0 26 "TelegraphPrices" "leastCount" "I", Cond.fieldLink RX0 29 "TelegraphPrices" "coins" "I", Cond.fieldLink RX0 39 "TelegraphPrices" "length" "I", Cond.fieldLink RX0 42 "TelegraphPrices" "sent" "I", Cond.fieldLink RX0 45 "TelegraphPrices" "earned" "I", Cond.methodLink RX0 105 yX0_count, Cond.instanceMethod yX0_count, Cond.selects RX0 yX0_count yX0_count, Cond.initialized RX0, Cond.code yX0_count cX0_count 3 (some .int), Cond.fieldLink RX0 35 "TelegraphPrices" "joined" "[Z", Cond.fieldLink RX0 32 "TelegraphPrices" "telegram" "[I", Cond.fieldLink RX0 9 "TelegraphPrices" "letters" "[I", Cond.methodLink RX0 126 yX0_countOfPair, Cond.instanceMethod yX0_countOfPair, Cond.selects RX0 yX0_countOfPair yX0_countOfPair, Cond.code yX0_countOfPair cX0_countOfPair 3 (some .int), Cond.methodLink RX0 118 yX0_countOfLetters, Cond.instanceMethod yX0_countOfLetters, Cond.selects RX0 yX0_countOfLetters yX0_countOfLetters]
def wsX0_digest_r2 : List Cond := [Cond.code yX0_countOfLetters cX0_countOfLetters 2 (some .int), Cond.methodLink RX0 130 yX0_atLeastTheLeastCount, Cond.instanceMethod yX0_atLeastTheLeastCount, Cond.selects RX0 yX0_atLeastTheLeastCount yX0_atLeastTheLeastCount, Cond.code yX0_atLeastTheLeastCount cX0_atLeastTheLeastCount 2 (some .int), Cond.methodLink RX0 175 Lib.Math.max.name, Cond.static Lib.Math.max.name, Cond.initialized "java/lang/Math", Cond.code Lib.Math.max.name Lib.Math.max.code 2 (some .int), Cond.methodLink RX0 138 yX0_price, Cond.instanceMethod yX0_price, Cond.selects RX0 yX0_price yX0_price, Cond.code yX0_price cX0_price 1 (some .int), Cond.methodLink RX0 148 yX0_cheapestCount, Cond.instanceMethod yX0_cheapestCount, Cond.selects RX0 yX0_cheapestCount yX0_cheapestCount, Cond.code yX0_cheapestCount cX0_cheapestCount 1 (some .int), Cond.fieldLink RX0 51 "TelegraphPrices" "leastJoined" "[I", Cond.methodLink RX0 141 yX0_noteLeastCounts, Cond.instanceMethod yX0_noteLeastCounts, Cond.selects RX0 yX0_noteLeastCounts yX0_noteLeastCounts, Cond.code yX0_noteLeastCounts cX0_noteLeastCounts 3 none, Cond.fieldLink RX0 48 "TelegraphPrices" "leastAlone" "[I", Cond.constant RX0 151 (1000000)]
def wsX0_digest_r3 : List Cond := [Cond.methodLink RX0 178 yX0_bestWordAt, Cond.instanceMethod yX0_bestWordAt, Cond.selects RX0 yX0_bestWordAt yX0_bestWordAt, Cond.code yX0_bestWordAt cX0_bestWordAt 5 (some .int), Cond.methodLink RX0 184 yX0_mayHold, Cond.instanceMethod yX0_mayHold, Cond.selects RX0 yX0_mayHold yX0_mayHold, Cond.code yX0_mayHold cX0_mayHold 3 (some .boolean), Cond.fieldLink RX0 13 "TelegraphPrices" "standIns" "[I", Cond.methodLink RX0 84 yX0_hasBit, Cond.static yX0_hasBit, Cond.code yX0_hasBit cX0_hasBit 2 (some .boolean), Cond.methodLink RX0 181 yX0_bestPairAt, Cond.instanceMethod yX0_bestPairAt, Cond.selects RX0 yX0_bestPairAt yX0_bestPairAt, Cond.code yX0_bestPairAt cX0_bestPairAt 7 (some .int), Cond.fieldLink RX0 16 "TelegraphPrices" "joins" "[I", Cond.methodLink RX0 144 yX0_leastInAll, Cond.instanceMethod yX0_leastInAll, Cond.selects RX0 yX0_leastInAll yX0_leastInAll, Cond.code yX0_leastInAll cX0_leastInAll 4 (some .int), Cond.fieldLink RX0 57 "TelegraphPrices" "leastFrom" "[I", Cond.methodLink RX0 152 Lib.Math.min.name, Cond.static Lib.Math.min.name]
def wsX0_digest_r4 : List Cond := [Cond.code Lib.Math.min.name Lib.Math.min.code 2 (some .int), Cond.methodLink RX0 164 yX0_digestOfWords, Cond.instanceMethod yX0_digestOfWords, Cond.selects RX0 yX0_digestOfWords yX0_digestOfWords, Cond.code yX0_digestOfWords cX0_digestOfWords 6 (some .long), Cond.methodLink RX0 191 yX0_countOf, Cond.instanceMethod yX0_countOf, Cond.selects RX0 yX0_countOf yX0_countOf, Cond.code yX0_countOf cX0_countOf 2 (some .int), Cond.methodLink RX0 78 yX0_needWord, Cond.instanceMethod yX0_needWord, Cond.selects RX0 yX0_needWord yX0_needWord, Cond.code yX0_needWord cX0_needWord 2 none, Cond.classLink RX0 133 "java/lang/IndexOutOfBoundsException", Cond.initialized "java/lang/IndexOutOfBoundsException", Cond.methodLink RX0 194 yX0_standInsOf, Cond.instanceMethod yX0_standInsOf, Cond.selects RX0 yX0_standInsOf yX0_standInsOf, Cond.code yX0_standInsOf cX0_standInsOf 2 (some .int), Cond.methodLink RX0 121 yJ6_bitCount_0f7a4, Cond.static yJ6_bitCount_0f7a4, Cond.initialized RJ6, Cond.code yJ6_bitCount_0f7a4 cJ6_bitCount_0f7a4 1 (some .int), Cond.constant RJ6 265 (1431655765)]
def wsX0_digest_r5 : List Cond := [Cond.constant RJ6 266 (858993459), Cond.constant RJ6 267 (252645135), Cond.methodLink RX0 168 yX0_digestOfPlaces, Cond.instanceMethod yX0_digestOfPlaces, Cond.selects RX0 yX0_digestOfPlaces yX0_digestOfPlaces, Cond.code yX0_digestOfPlaces cX0_digestOfPlaces 6 (some .long), Cond.fieldLink RX0 60 "TelegraphPrices" "cheapestWords" "[I", Cond.fieldLink RX0 63 "TelegraphPrices" "cheapestJoined" "[Z", Cond.methodLink RX0 109 yX0_noteCheapestWording, Cond.instanceMethod yX0_noteCheapestWording, Cond.selects RX0 yX0_noteCheapestWording yX0_noteCheapestWording, Cond.code yX0_noteCheapestWording cX0_noteCheapestWording 3 none, Cond.methodLink RX0 187 yX0_noteCheapestAt, Cond.instanceMethod yX0_noteCheapestAt, Cond.selects RX0 yX0_noteCheapestAt yX0_noteCheapestAt, Cond.code yX0_noteCheapestAt cX0_noteCheapestAt 4 none]
def wsX0_digest : List Cond := .code yX0_digest cX0_digest 3 (some .long) :: ((wsX0_digest_r1 ++ (wsX0_digest_r2 ++ (wsX0_digest_r3 ++ (wsX0_digest_r4 ++ wsX0_digest_r5)))) ++ wsX00 ++ (vx_atS RX0 137 "java/lang/IndexOutOfBoundsException" ["java/lang/RuntimeException", "java/lang/Exception"]).filter goodWord)
def wsX1_init : List Cond := .code yX1_init cX1_init 1 none :: ([.methodLink RX1 1 objectInit, .instanceMethod objectInit, .code objectInit ⟨#[0xb1]⟩ 1 none, .fieldLink RX1 7 "TelegraphPricesModel" "limit" "I", .fieldLink RX1 13 "TelegraphPricesModel" "least" "I", .fieldLink RX1 16 "TelegraphPricesModel" "coins" "I", .arrayClass .int, .fieldLink RX1 19 "TelegraphPricesModel" "letters" "[I", .fieldLink RX1 23 "TelegraphPricesModel" "stand" "[I", .fieldLink RX1 26 "TelegraphPricesModel" "join" "[I", .fieldLink RX1 29 "TelegraphPricesModel" "word" "[I", .arrayClass .boolean, .fieldLink RX1 32 "TelegraphPricesModel" "joined" "[Z", .fieldLink RX1 36 "TelegraphPricesModel" "from" "[I", .fieldLink RX1 39 "TelegraphPricesModel" "cheap" "[I", .fieldLink RX1 42 "TelegraphPricesModel" "with" "[Z"] ++ wsX10)
def wsX1_thrown : List Cond := .code yX1_thrown cX1_thrown 1 (some .int) :: ([.fieldLink RX1 45 "TelegraphPricesModel" "thrown" "I"] ++ wsX10)
def wsX1_fail : List Cond := .code yX1_fail cX1_fail 2 (some .int) :: ([.fieldLink RX1 45 "TelegraphPricesModel" "thrown" "I"] ++ wsX10)
def wsX1_failed : List Cond := .code yX1_failed cX1_failed 2 (some .boolean) :: ([.fieldLink RX1 45 "TelegraphPricesModel" "thrown" "I"] ++ wsX10)
def wsX1_told : List Cond := .code yX1_told cX1_told 2 (some .int) :: ([.fieldLink RX1 45 "TelegraphPricesModel" "thrown" "I"] ++ wsX10)
def wsX1_isIn : List Cond := .code yX1_isIn cX1_isIn 3 (some .boolean) :: ([])
def wsX1_isWord : List Cond := .code yX1_isWord cX1_isWord 2 (some .boolean) :: ([.fieldLink RX1 48 "TelegraphPricesModel" "words" "I", .methodLink RX1 51 yX1_isIn, .static yX1_isIn, .initialized RX1, .code yX1_isIn cX1_isIn 3 (some .boolean)] ++ wsX10)
def wsX1_isPlace : List Cond := .code yX1_isPlace cX1_isPlace 2 (some .boolean) :: ([.fieldLink RX1 55 "TelegraphPricesModel" "length" "I", .methodLink RX1 51 yX1_isIn, .static yX1_isIn, .initialized RX1, .code yX1_isIn cX1_isIn 3 (some .boolean)] ++ wsX10)
def wsX1_arePair : List Cond := .code yX1_arePair cX1_arePair 3 (some .boolean) :: ([.fieldLink RX1 45 "TelegraphPricesModel" "thrown" "I", .methodLink RX1 58 yX1_isWord, .instanceMethod yX1_isWord, .selects RX1 yX1_isWord yX1_isWord, .initialized RX1, .code yX1_isWord cX1_isWord 2 (some .boolean), .fieldLink RX1 48 "TelegraphPricesModel" "words" "I", .methodLink RX1 51 yX1_isIn, .static yX1_isIn, .code yX1_isIn cX1_isIn 3 (some .boolean)] ++ wsX10)
def wsX1_has : List Cond := .code yX1_has cX1_has 2 (some .boolean) :: ([])
def wsX1_counts : List Cond := .code yX1_counts cX1_counts 2 (some .int) :: ([.fieldLink RX1 7 "TelegraphPricesModel" "limit" "I"] ++ wsX10)
def wsX1_lifted : List Cond := .code yX1_lifted cX1_lifted 2 (some .int) :: ([.fieldLink RX1 55 "TelegraphPricesModel" "length" "I", .fieldLink RX1 13 "TelegraphPricesModel" "least" "I", .methodLink RX1 62 Lib.Math.max.name, .static Lib.Math.max.name, .initialized "java/lang/Math", .code Lib.Math.max.name Lib.Math.max.code 2 (some .int)] ++ wsX10)
def wsX1_countNow : List Cond := .code yX1_countNow cX1_countNow 4 (some .int) :: ([.fieldLink RX1 55 "TelegraphPricesModel" "length" "I", .fieldLink RX1 19 "TelegraphPricesModel" "letters" "[I", .fieldLink RX1 29 "TelegraphPricesModel" "word" "[I", .fieldLink RX1 32 "TelegraphPricesModel" "joined" "[Z", .methodLink RX1 68 yX1_counts, .instanceMethod yX1_counts, .selects RX1 yX1_counts yX1_counts, .initialized RX1, .code yX1_counts cX1_counts 2 (some .int), .fieldLink RX1 7 "TelegraphPricesModel" "limit" "I", .methodLink RX1 72 yX1_lifted, .instanceMethod yX1_lifted, .selects RX1 yX1_lifted yX1_lifted, .code yX1_lifted cX1_lifted 2 (some .int), .fieldLink RX1 13 "TelegraphPricesModel" "least" "I", .methodLink RX1 62 Lib.Math.max.name, .static Lib.Math.max.name, .initialized "java/lang/Math", .code Lib.Math.max.name Lib.Math.max.code 2 (some .int)] ++ wsX10)
def wsX1_leastPair : List Cond := .code yX1_leastPair cX1_leastPair 5 (some .int) :: ([.constant RX1 75 (1000000), .fieldLink RX1 48 "TelegraphPricesModel" "words" "I", .fieldLink RX1 23 "TelegraphPricesModel" "stand" "[I", .fieldLink RX1 29 "TelegraphPricesModel" "word" "[I", .fieldLink RX1 26 "TelegraphPricesModel" "join" "[I", .fieldLink RX1 19 "TelegraphPricesModel" "letters" "[I", .methodLink RX1 80 Lib.Math.min.name, .static Lib.Math.min.name, .initialized "java/lang/Math", .code Lib.Math.min.name Lib.Math.min.code 2 (some .int), .methodLink RX1 76 yX1_has, .static yX1_has, .initialized RX1, .code yX1_has cX1_has 2 (some .boolean), .methodLink RX1 68 yX1_counts, .instanceMethod yX1_counts, .selects RX1 yX1_counts yX1_counts, .code yX1_counts cX1_counts 2 (some .int), .fieldLink RX1 7 "TelegraphPricesModel" "limit" "I"] ++ wsX10)
def wsX1_leastSingle : List Cond := .code yX1_leastSingle cX1_leastSingle 4 (some .int) :: ([.constant RX1 75 (1000000), .fieldLink RX1 48 "TelegraphPricesModel" "words" "I", .fieldLink RX1 23 "TelegraphPricesModel" "stand" "[I", .fieldLink RX1 29 "TelegraphPricesModel" "word" "[I", .fieldLink RX1 19 "TelegraphPricesModel" "letters" "[I", .methodLink RX1 80 Lib.Math.min.name, .static Lib.Math.min.name, .initialized "java/lang/Math", .code Lib.Math.min.name Lib.Math.min.code 2 (some .int), .methodLink RX1 76 yX1_has, .static yX1_has, .initialized RX1, .code yX1_has cX1_has 2 (some .boolean), .methodLink RX1 68 yX1_counts, .instanceMethod yX1_counts, .selects RX1 yX1_counts yX1_counts, .code yX1_counts cX1_counts 2 (some .int), .fieldLink RX1 7 "TelegraphPricesModel" "limit" "I"] ++ wsX10)
def wsX1_reckon_r1 : List Cond := [Cond.fieldLink RX1 36 "TelegraphPricesModel" "from" "[I", Cond.fieldLink RX1 55 "TelegraphPricesModel" "length" "I", Cond.methodLink RX1 80 Lib.Math.min.name, Cond.static Lib.Math.min.name, Cond.initialized "java/lang/Math", Cond.code Lib.Math.min.name Lib.Math.min.code 2 (some .int), Cond.methodLink RX1 83 yX1_leastSingle, Cond.instanceMethod yX1_leastSingle, Cond.selects RX1 yX1_leastSingle yX1_leastSingle, Cond.initialized RX1, Cond.code yX1_leastSingle cX1_leastSingle 4 (some .int), Cond.constant RX1 75 (1000000), Cond.fieldLink RX1 48 "TelegraphPricesModel" "words" "I", Cond.fieldLink RX1 23 "TelegraphPricesModel" "stand" "[I", Cond.fieldLink RX1 29 "TelegraphPricesModel" "word" "[I", Cond.fieldLink RX1 19 "TelegraphPricesModel" "letters" "[I", Cond.methodLink RX1 76 yX1_has, Cond.static yX1_has, Cond.code yX1_has cX1_has 2 (some .boolean), Cond.methodLink RX1 68 yX1_counts, Cond.instanceMethod yX1_counts, Cond.selects RX1 yX1_counts yX1_counts, Cond.code yX1_counts cX1_counts 2 (some .int), Cond.fieldLink RX1 7 "TelegraphPricesModel" "limit" "I"]
def wsX1_reckon_r2 : List Cond := [Cond.methodLink RX1 86 yX1_leastPair, Cond.instanceMethod yX1_leastPair, Cond.selects RX1 yX1_leastPair yX1_leastPair, Cond.code yX1_leastPair cX1_leastPair 5 (some .int), Cond.fieldLink RX1 26 "TelegraphPricesModel" "join" "[I"]
def wsX1_reckon : List Cond := .code yX1_reckon cX1_reckon 2 (some .int) :: ((wsX1_reckon_r1 ++ wsX1_reckon_r2) ++ wsX10)
def wsX1_single : List Cond := .code yX1_single cX1_single 3 (some .int) :: ([.fieldLink RX1 48 "TelegraphPricesModel" "words" "I", .fieldLink RX1 23 "TelegraphPricesModel" "stand" "[I", .fieldLink RX1 29 "TelegraphPricesModel" "word" "[I", .fieldLink RX1 19 "TelegraphPricesModel" "letters" "[I", .fieldLink RX1 36 "TelegraphPricesModel" "from" "[I", .methodLink RX1 76 yX1_has, .static yX1_has, .initialized RX1, .code yX1_has cX1_has 2 (some .boolean), .methodLink RX1 68 yX1_counts, .instanceMethod yX1_counts, .selects RX1 yX1_counts yX1_counts, .code yX1_counts cX1_counts 2 (some .int), .fieldLink RX1 7 "TelegraphPricesModel" "limit" "I"] ++ wsX10)
def wsX1_pair : List Cond := .code yX1_pair cX1_pair 4 none :: ([.fieldLink RX1 48 "TelegraphPricesModel" "words" "I", .fieldLink RX1 23 "TelegraphPricesModel" "stand" "[I", .fieldLink RX1 29 "TelegraphPricesModel" "word" "[I", .fieldLink RX1 26 "TelegraphPricesModel" "join" "[I", .fieldLink RX1 19 "TelegraphPricesModel" "letters" "[I", .fieldLink RX1 36 "TelegraphPricesModel" "from" "[I", .fieldLink RX1 39 "TelegraphPricesModel" "cheap" "[I", .methodLink RX1 76 yX1_has, .static yX1_has, .initialized RX1, .code yX1_has cX1_has 2 (some .boolean), .methodLink RX1 68 yX1_counts, .instanceMethod yX1_counts, .selects RX1 yX1_counts yX1_counts, .code yX1_counts cX1_counts 2 (some .int), .fieldLink RX1 7 "TelegraphPricesModel" "limit" "I"] ++ wsX10)
def wsX1_choose_r1 : List Cond := [Cond.fieldLink RX1 55 "TelegraphPricesModel" "length" "I", Cond.fieldLink RX1 42 "TelegraphPricesModel" "with" "[Z", Cond.fieldLink RX1 39 "TelegraphPricesModel" "cheap" "[I", Cond.methodLink RX1 89 yX1_reckon, Cond.instanceMethod yX1_reckon, Cond.selects RX1 yX1_reckon yX1_reckon, Cond.initialized RX1, Cond.code yX1_reckon cX1_reckon 2 (some .int), Cond.fieldLink RX1 36 "TelegraphPricesModel" "from" "[I", Cond.methodLink RX1 80 Lib.Math.min.name, Cond.static Lib.Math.min.name, Cond.initialized "java/lang/Math", Cond.code Lib.Math.min.name Lib.Math.min.code 2 (some .int), Cond.methodLink RX1 83 yX1_leastSingle, Cond.instanceMethod yX1_leastSingle, Cond.selects RX1 yX1_leastSingle yX1_leastSingle, Cond.code yX1_leastSingle cX1_leastSingle 4 (some .int), Cond.constant RX1 75 (1000000), Cond.fieldLink RX1 48 "TelegraphPricesModel" "words" "I", Cond.fieldLink RX1 23 "TelegraphPricesModel" "stand" "[I", Cond.fieldLink RX1 29 "TelegraphPricesModel" "word" "[I", Cond.fieldLink RX1 19 "TelegraphPricesModel" "letters" "[I", Cond.methodLink RX1 76 yX1_has, Cond.static yX1_has]
def wsX1_choose_r2 : List Cond := [Cond.code yX1_has cX1_has 2 (some .boolean), Cond.methodLink RX1 68 yX1_counts, Cond.instanceMethod yX1_counts, Cond.selects RX1 yX1_counts yX1_counts, Cond.code yX1_counts cX1_counts 2 (some .int), Cond.fieldLink RX1 7 "TelegraphPricesModel" "limit" "I", Cond.methodLink RX1 86 yX1_leastPair, Cond.instanceMethod yX1_leastPair, Cond.selects RX1 yX1_leastPair yX1_leastPair, Cond.code yX1_leastPair cX1_leastPair 5 (some .int), Cond.fieldLink RX1 26 "TelegraphPricesModel" "join" "[I", Cond.methodLink RX1 93 yX1_single, Cond.instanceMethod yX1_single, Cond.selects RX1 yX1_single yX1_single, Cond.code yX1_single cX1_single 3 (some .int), Cond.methodLink RX1 96 yX1_pair, Cond.instanceMethod yX1_pair, Cond.selects RX1 yX1_pair yX1_pair, Cond.code yX1_pair cX1_pair 4 none]
def wsX1_choose : List Cond := .code yX1_choose cX1_choose 3 none :: ((wsX1_choose_r1 ++ wsX1_choose_r2) ++ wsX10)
def wsX1_addWord : List Cond := .code yX1_addWord cX1_addWord 2 (some .int) :: ([.fieldLink RX1 45 "TelegraphPricesModel" "thrown" "I", .fieldLink RX1 48 "TelegraphPricesModel" "words" "I", .fieldLink RX1 19 "TelegraphPricesModel" "letters" "[I", .fieldLink RX1 23 "TelegraphPricesModel" "stand" "[I", .methodLink RX1 51 yX1_isIn, .static yX1_isIn, .initialized RX1, .code yX1_isIn cX1_isIn 3 (some .boolean), .methodLink RX1 100 yX1_fail, .instanceMethod yX1_fail, .selects RX1 yX1_fail yX1_fail, .code yX1_fail cX1_fail 2 (some .int)] ++ wsX10)
def wsX1_turnStandIn : List Cond := .code yX1_turnStandIn cX1_turnStandIn 3 (some .boolean) :: ([.fieldLink RX1 23 "TelegraphPricesModel" "stand" "[I", .methodLink RX1 103 yX1_arePair, .instanceMethod yX1_arePair, .selects RX1 yX1_arePair yX1_arePair, .initialized RX1, .code yX1_arePair cX1_arePair 3 (some .boolean), .fieldLink RX1 45 "TelegraphPricesModel" "thrown" "I", .methodLink RX1 58 yX1_isWord, .instanceMethod yX1_isWord, .selects RX1 yX1_isWord yX1_isWord, .code yX1_isWord cX1_isWord 2 (some .boolean), .fieldLink RX1 48 "TelegraphPricesModel" "words" "I", .methodLink RX1 51 yX1_isIn, .static yX1_isIn, .code yX1_isIn cX1_isIn 3 (some .boolean), .methodLink RX1 106 yX1_failed, .instanceMethod yX1_failed, .selects RX1 yX1_failed yX1_failed, .code yX1_failed cX1_failed 2 (some .boolean), .methodLink RX1 76 yX1_has, .static yX1_has, .code yX1_has cX1_has 2 (some .boolean)] ++ wsX10)
def wsX1_turnJoin : List Cond := .code yX1_turnJoin cX1_turnJoin 3 (some .boolean) :: ([.fieldLink RX1 26 "TelegraphPricesModel" "join" "[I", .methodLink RX1 103 yX1_arePair, .instanceMethod yX1_arePair, .selects RX1 yX1_arePair yX1_arePair, .initialized RX1, .code yX1_arePair cX1_arePair 3 (some .boolean), .fieldLink RX1 45 "TelegraphPricesModel" "thrown" "I", .methodLink RX1 58 yX1_isWord, .instanceMethod yX1_isWord, .selects RX1 yX1_isWord yX1_isWord, .code yX1_isWord cX1_isWord 2 (some .boolean), .fieldLink RX1 48 "TelegraphPricesModel" "words" "I", .methodLink RX1 51 yX1_isIn, .static yX1_isIn, .code yX1_isIn cX1_isIn 3 (some .boolean), .methodLink RX1 76 yX1_has, .static yX1_has, .code yX1_has cX1_has 2 (some .boolean)] ++ wsX10)
def wsX1_setLimit : List Cond := .code yX1_setLimit cX1_setLimit 3 (some .int) :: ([.fieldLink RX1 45 "TelegraphPricesModel" "thrown" "I", .fieldLink RX1 7 "TelegraphPricesModel" "limit" "I", .methodLink RX1 51 yX1_isIn, .static yX1_isIn, .initialized RX1, .code yX1_isIn cX1_isIn 3 (some .boolean), .methodLink RX1 100 yX1_fail, .instanceMethod yX1_fail, .selects RX1 yX1_fail yX1_fail, .code yX1_fail cX1_fail 2 (some .int)] ++ wsX10)
def wsX1_setLeastCount : List Cond := .code yX1_setLeastCount cX1_setLeastCount 3 (some .int) :: ([.fieldLink RX1 45 "TelegraphPricesModel" "thrown" "I", .fieldLink RX1 13 "TelegraphPricesModel" "least" "I", .methodLink RX1 51 yX1_isIn, .static yX1_isIn, .initialized RX1, .code yX1_isIn cX1_isIn 3 (some .boolean), .methodLink RX1 100 yX1_fail, .instanceMethod yX1_fail, .selects RX1 yX1_fail yX1_fail, .code yX1_fail cX1_fail 2 (some .int)] ++ wsX10)
def wsX1_setCoins : List Cond := .code yX1_setCoins cX1_setCoins 3 (some .int) :: ([.fieldLink RX1 45 "TelegraphPricesModel" "thrown" "I", .fieldLink RX1 16 "TelegraphPricesModel" "coins" "I", .methodLink RX1 51 yX1_isIn, .static yX1_isIn, .initialized RX1, .code yX1_isIn cX1_isIn 3 (some .boolean), .methodLink RX1 100 yX1_fail, .instanceMethod yX1_fail, .selects RX1 yX1_fail yX1_fail, .code yX1_fail cX1_fail 2 (some .int)] ++ wsX10)
def wsX1_write : List Cond := .code yX1_write cX1_write 2 (some .int) :: ([.fieldLink RX1 45 "TelegraphPricesModel" "thrown" "I", .fieldLink RX1 55 "TelegraphPricesModel" "length" "I", .fieldLink RX1 29 "TelegraphPricesModel" "word" "[I", .fieldLink RX1 32 "TelegraphPricesModel" "joined" "[Z", .methodLink RX1 58 yX1_isWord, .instanceMethod yX1_isWord, .selects RX1 yX1_isWord yX1_isWord, .initialized RX1, .code yX1_isWord cX1_isWord 2 (some .boolean), .fieldLink RX1 48 "TelegraphPricesModel" "words" "I", .methodLink RX1 51 yX1_isIn, .static yX1_isIn, .code yX1_isIn cX1_isIn 3 (some .boolean), .methodLink RX1 100 yX1_fail, .instanceMethod yX1_fail, .selects RX1 yX1_fail yX1_fail, .code yX1_fail cX1_fail 2 (some .int)] ++ wsX10)
def wsX1_strike : List Cond := .code yX1_strike cX1_strike 3 (some .int) :: ([.fieldLink RX1 45 "TelegraphPricesModel" "thrown" "I", .fieldLink RX1 32 "TelegraphPricesModel" "joined" "[Z", .fieldLink RX1 55 "TelegraphPricesModel" "length" "I", .fieldLink RX1 29 "TelegraphPricesModel" "word" "[I", .methodLink RX1 109 yX1_isPlace, .instanceMethod yX1_isPlace, .selects RX1 yX1_isPlace yX1_isPlace, .initialized RX1, .code yX1_isPlace cX1_isPlace 2 (some .boolean), .methodLink RX1 51 yX1_isIn, .static yX1_isIn, .code yX1_isIn cX1_isIn 3 (some .boolean), .methodLink RX1 100 yX1_fail, .instanceMethod yX1_fail, .selects RX1 yX1_fail yX1_fail, .code yX1_fail cX1_fail 2 (some .int)] ++ wsX10)
def wsX1_turnJoined : List Cond := .code yX1_turnJoined cX1_turnJoined 3 (some .boolean) :: ([.fieldLink RX1 45 "TelegraphPricesModel" "thrown" "I", .fieldLink RX1 55 "TelegraphPricesModel" "length" "I", .fieldLink RX1 32 "TelegraphPricesModel" "joined" "[Z", .fieldLink RX1 26 "TelegraphPricesModel" "join" "[I", .fieldLink RX1 29 "TelegraphPricesModel" "word" "[I", .methodLink RX1 51 yX1_isIn, .static yX1_isIn, .initialized RX1, .code yX1_isIn cX1_isIn 3 (some .boolean), .methodLink RX1 106 yX1_failed, .instanceMethod yX1_failed, .selects RX1 yX1_failed yX1_failed, .code yX1_failed cX1_failed 2 (some .boolean), .methodLink RX1 76 yX1_has, .static yX1_has, .code yX1_has cX1_has 2 (some .boolean)] ++ wsX10)
def wsX1_reword_r1 : List Cond := [Cond.fieldLink RX1 45 "TelegraphPricesModel" "thrown" "I", Cond.fieldLink RX1 39 "TelegraphPricesModel" "cheap" "[I", Cond.fieldLink RX1 29 "TelegraphPricesModel" "word" "[I", Cond.fieldLink RX1 55 "TelegraphPricesModel" "length" "I", Cond.methodLink RX1 118 arraycopyName, Cond.native arraycopyName, Cond.static arraycopyName, Cond.initialized "java/lang/System", Cond.fieldLink RX1 42 "TelegraphPricesModel" "with" "[Z", Cond.fieldLink RX1 32 "TelegraphPricesModel" "joined" "[Z", Cond.methodLink RX1 112 yX1_countNow, Cond.instanceMethod yX1_countNow, Cond.selects RX1 yX1_countNow yX1_countNow, Cond.initialized RX1, Cond.code yX1_countNow cX1_countNow 4 (some .int), Cond.fieldLink RX1 19 "TelegraphPricesModel" "letters" "[I", Cond.methodLink RX1 68 yX1_counts, Cond.instanceMethod yX1_counts, Cond.selects RX1 yX1_counts yX1_counts, Cond.code yX1_counts cX1_counts 2 (some .int), Cond.fieldLink RX1 7 "TelegraphPricesModel" "limit" "I", Cond.methodLink RX1 72 yX1_lifted, Cond.instanceMethod yX1_lifted, Cond.selects RX1 yX1_lifted yX1_lifted]
def wsX1_reword_r2 : List Cond := [Cond.code yX1_lifted cX1_lifted 2 (some .int), Cond.fieldLink RX1 13 "TelegraphPricesModel" "least" "I", Cond.methodLink RX1 62 Lib.Math.max.name, Cond.static Lib.Math.max.name, Cond.initialized "java/lang/Math", Cond.code Lib.Math.max.name Lib.Math.max.code 2 (some .int), Cond.methodLink RX1 115 yX1_choose, Cond.instanceMethod yX1_choose, Cond.selects RX1 yX1_choose yX1_choose, Cond.code yX1_choose cX1_choose 3 none, Cond.methodLink RX1 89 yX1_reckon, Cond.instanceMethod yX1_reckon, Cond.selects RX1 yX1_reckon yX1_reckon, Cond.code yX1_reckon cX1_reckon 2 (some .int), Cond.fieldLink RX1 36 "TelegraphPricesModel" "from" "[I", Cond.methodLink RX1 80 Lib.Math.min.name, Cond.static Lib.Math.min.name, Cond.code Lib.Math.min.name Lib.Math.min.code 2 (some .int), Cond.methodLink RX1 83 yX1_leastSingle, Cond.instanceMethod yX1_leastSingle, Cond.selects RX1 yX1_leastSingle yX1_leastSingle, Cond.code yX1_leastSingle cX1_leastSingle 4 (some .int), Cond.constant RX1 75 (1000000), Cond.fieldLink RX1 48 "TelegraphPricesModel" "words" "I"]
def wsX1_reword_r3 : List Cond := [Cond.fieldLink RX1 23 "TelegraphPricesModel" "stand" "[I", Cond.methodLink RX1 76 yX1_has, Cond.static yX1_has, Cond.code yX1_has cX1_has 2 (some .boolean), Cond.methodLink RX1 86 yX1_leastPair, Cond.instanceMethod yX1_leastPair, Cond.selects RX1 yX1_leastPair yX1_leastPair, Cond.code yX1_leastPair cX1_leastPair 5 (some .int), Cond.fieldLink RX1 26 "TelegraphPricesModel" "join" "[I", Cond.methodLink RX1 93 yX1_single, Cond.instanceMethod yX1_single, Cond.selects RX1 yX1_single yX1_single, Cond.code yX1_single cX1_single 3 (some .int), Cond.methodLink RX1 96 yX1_pair, Cond.instanceMethod yX1_pair, Cond.selects RX1 yX1_pair yX1_pair, Cond.code yX1_pair cX1_pair 4 none]
def wsX1_reword : List Cond := .code yX1_reword cX1_reword 2 (some .int) :: ((wsX1_reword_r1 ++ (wsX1_reword_r2 ++ wsX1_reword_r3)) ++ wsX10)
def wsX1_costTo : List Cond := .code yX1_costTo cX1_costTo 2 (some .int) :: ([.fieldLink RX1 16 "TelegraphPricesModel" "coins" "I", .methodLink RX1 112 yX1_countNow, .instanceMethod yX1_countNow, .selects RX1 yX1_countNow yX1_countNow, .initialized RX1, .code yX1_countNow cX1_countNow 4 (some .int), .fieldLink RX1 55 "TelegraphPricesModel" "length" "I", .fieldLink RX1 19 "TelegraphPricesModel" "letters" "[I", .fieldLink RX1 29 "TelegraphPricesModel" "word" "[I", .fieldLink RX1 32 "TelegraphPricesModel" "joined" "[Z", .methodLink RX1 68 yX1_counts, .instanceMethod yX1_counts, .selects RX1 yX1_counts yX1_counts, .code yX1_counts cX1_counts 2 (some .int), .fieldLink RX1 7 "TelegraphPricesModel" "limit" "I", .methodLink RX1 72 yX1_lifted, .instanceMethod yX1_lifted, .selects RX1 yX1_lifted yX1_lifted, .code yX1_lifted cX1_lifted 2 (some .int), .fieldLink RX1 13 "TelegraphPricesModel" "least" "I", .methodLink RX1 62 Lib.Math.max.name, .static Lib.Math.max.name, .initialized "java/lang/Math", .code Lib.Math.max.name Lib.Math.max.code 2 (some .int)] ++ wsX10)
def wsX1_send_r1 : List Cond := [Cond.fieldLink RX1 45 "TelegraphPricesModel" "thrown" "I", Cond.fieldLink RX1 55 "TelegraphPricesModel" "length" "I", Cond.fieldLink RX1 127 "TelegraphPricesModel" "sent" "I", Cond.fieldLink RX1 130 "TelegraphPricesModel" "earned" "I", Cond.methodLink RX1 51 yX1_isIn, Cond.static yX1_isIn, Cond.initialized RX1, Cond.code yX1_isIn cX1_isIn 3 (some .boolean), Cond.methodLink RX1 100 yX1_fail, Cond.instanceMethod yX1_fail, Cond.selects RX1 yX1_fail yX1_fail, Cond.code yX1_fail cX1_fail 2 (some .int), Cond.methodLink RX1 124 yX1_costTo, Cond.instanceMethod yX1_costTo, Cond.selects RX1 yX1_costTo yX1_costTo, Cond.code yX1_costTo cX1_costTo 2 (some .int), Cond.fieldLink RX1 16 "TelegraphPricesModel" "coins" "I", Cond.methodLink RX1 112 yX1_countNow, Cond.instanceMethod yX1_countNow, Cond.selects RX1 yX1_countNow yX1_countNow, Cond.code yX1_countNow cX1_countNow 4 (some .int), Cond.fieldLink RX1 19 "TelegraphPricesModel" "letters" "[I", Cond.fieldLink RX1 29 "TelegraphPricesModel" "word" "[I", Cond.fieldLink RX1 32 "TelegraphPricesModel" "joined" "[Z"]
def wsX1_send_r2 : List Cond := [Cond.methodLink RX1 68 yX1_counts, Cond.instanceMethod yX1_counts, Cond.selects RX1 yX1_counts yX1_counts, Cond.code yX1_counts cX1_counts 2 (some .int), Cond.fieldLink RX1 7 "TelegraphPricesModel" "limit" "I", Cond.methodLink RX1 72 yX1_lifted, Cond.instanceMethod yX1_lifted, Cond.selects RX1 yX1_lifted yX1_lifted, Cond.code yX1_lifted cX1_lifted 2 (some .int), Cond.fieldLink RX1 13 "TelegraphPricesModel" "least" "I", Cond.methodLink RX1 62 Lib.Math.max.name, Cond.static Lib.Math.max.name, Cond.initialized "java/lang/Math", Cond.code Lib.Math.max.name Lib.Math.max.code 2 (some .int)]
def wsX1_send : List Cond := .code yX1_send cX1_send 3 (some .int) :: ((wsX1_send_r1 ++ wsX1_send_r2) ++ wsX10)
def wsX1_words : List Cond := .code yX1_words cX1_words 1 (some .int) :: ([.fieldLink RX1 48 "TelegraphPricesModel" "words" "I", .methodLink RX1 133 yX1_told, .instanceMethod yX1_told, .selects RX1 yX1_told yX1_told, .initialized RX1, .code yX1_told cX1_told 2 (some .int), .fieldLink RX1 45 "TelegraphPricesModel" "thrown" "I"] ++ wsX10)
def wsX1_lettersOf : List Cond := .code yX1_lettersOf cX1_lettersOf 2 (some .int) :: ([.fieldLink RX1 45 "TelegraphPricesModel" "thrown" "I", .fieldLink RX1 19 "TelegraphPricesModel" "letters" "[I", .methodLink RX1 58 yX1_isWord, .instanceMethod yX1_isWord, .selects RX1 yX1_isWord yX1_isWord, .initialized RX1, .code yX1_isWord cX1_isWord 2 (some .boolean), .fieldLink RX1 48 "TelegraphPricesModel" "words" "I", .methodLink RX1 51 yX1_isIn, .static yX1_isIn, .code yX1_isIn cX1_isIn 3 (some .boolean), .methodLink RX1 100 yX1_fail, .instanceMethod yX1_fail, .selects RX1 yX1_fail yX1_fail, .code yX1_fail cX1_fail 2 (some .int)] ++ wsX10)
def wsX1_countOf : List Cond := .code yX1_countOf cX1_countOf 2 (some .int) :: ([.fieldLink RX1 45 "TelegraphPricesModel" "thrown" "I", .fieldLink RX1 19 "TelegraphPricesModel" "letters" "[I", .methodLink RX1 58 yX1_isWord, .instanceMethod yX1_isWord, .selects RX1 yX1_isWord yX1_isWord, .initialized RX1, .code yX1_isWord cX1_isWord 2 (some .boolean), .fieldLink RX1 48 "TelegraphPricesModel" "words" "I", .methodLink RX1 51 yX1_isIn, .static yX1_isIn, .code yX1_isIn cX1_isIn 3 (some .boolean), .methodLink RX1 68 yX1_counts, .instanceMethod yX1_counts, .selects RX1 yX1_counts yX1_counts, .code yX1_counts cX1_counts 2 (some .int), .fieldLink RX1 7 "TelegraphPricesModel" "limit" "I", .methodLink RX1 100 yX1_fail, .instanceMethod yX1_fail, .selects RX1 yX1_fail yX1_fail, .code yX1_fail cX1_fail 2 (some .int)] ++ wsX10)
def wsX1_mayStandFor : List Cond := .code yX1_mayStandFor cX1_mayStandFor 3 (some .boolean) :: ([.fieldLink RX1 23 "TelegraphPricesModel" "stand" "[I", .methodLink RX1 103 yX1_arePair, .instanceMethod yX1_arePair, .selects RX1 yX1_arePair yX1_arePair, .initialized RX1, .code yX1_arePair cX1_arePair 3 (some .boolean), .fieldLink RX1 45 "TelegraphPricesModel" "thrown" "I", .methodLink RX1 58 yX1_isWord, .instanceMethod yX1_isWord, .selects RX1 yX1_isWord yX1_isWord, .code yX1_isWord cX1_isWord 2 (some .boolean), .fieldLink RX1 48 "TelegraphPricesModel" "words" "I", .methodLink RX1 51 yX1_isIn, .static yX1_isIn, .code yX1_isIn cX1_isIn 3 (some .boolean), .methodLink RX1 76 yX1_has, .static yX1_has, .code yX1_has cX1_has 2 (some .boolean)] ++ wsX10)
def wsX1_mayJoin : List Cond := .code yX1_mayJoin cX1_mayJoin 3 (some .boolean) :: ([.fieldLink RX1 26 "TelegraphPricesModel" "join" "[I", .methodLink RX1 103 yX1_arePair, .instanceMethod yX1_arePair, .selects RX1 yX1_arePair yX1_arePair, .initialized RX1, .code yX1_arePair cX1_arePair 3 (some .boolean), .fieldLink RX1 45 "TelegraphPricesModel" "thrown" "I", .methodLink RX1 58 yX1_isWord, .instanceMethod yX1_isWord, .selects RX1 yX1_isWord yX1_isWord, .code yX1_isWord cX1_isWord 2 (some .boolean), .fieldLink RX1 48 "TelegraphPricesModel" "words" "I", .methodLink RX1 51 yX1_isIn, .static yX1_isIn, .code yX1_isIn cX1_isIn 3 (some .boolean), .methodLink RX1 76 yX1_has, .static yX1_has, .code yX1_has cX1_has 2 (some .boolean)] ++ wsX10)
def wsX1_standIns : List Cond := .code yX1_standIns cX1_standIns 4 (some .int) :: ([.fieldLink RX1 48 "TelegraphPricesModel" "words" "I", .fieldLink RX1 23 "TelegraphPricesModel" "stand" "[I"] ++ wsX10)
def wsX1_standInsOf : List Cond := .code yX1_standInsOf cX1_standInsOf 2 (some .int) :: ([.fieldLink RX1 45 "TelegraphPricesModel" "thrown" "I", .methodLink RX1 58 yX1_isWord, .instanceMethod yX1_isWord, .selects RX1 yX1_isWord yX1_isWord, .initialized RX1, .code yX1_isWord cX1_isWord 2 (some .boolean), .fieldLink RX1 48 "TelegraphPricesModel" "words" "I", .methodLink RX1 51 yX1_isIn, .static yX1_isIn, .code yX1_isIn cX1_isIn 3 (some .boolean), .methodLink RX1 136 yX1_standIns, .instanceMethod yX1_standIns, .selects RX1 yX1_standIns yX1_standIns, .code yX1_standIns cX1_standIns 4 (some .int), .fieldLink RX1 23 "TelegraphPricesModel" "stand" "[I", .methodLink RX1 100 yX1_fail, .instanceMethod yX1_fail, .selects RX1 yX1_fail yX1_fail, .code yX1_fail cX1_fail 2 (some .int)] ++ wsX10)
def wsX1_limit : List Cond := .code yX1_limit cX1_limit 1 (some .int) :: ([.fieldLink RX1 7 "TelegraphPricesModel" "limit" "I", .methodLink RX1 133 yX1_told, .instanceMethod yX1_told, .selects RX1 yX1_told yX1_told, .initialized RX1, .code yX1_told cX1_told 2 (some .int), .fieldLink RX1 45 "TelegraphPricesModel" "thrown" "I"] ++ wsX10)
def wsX1_leastCount : List Cond := .code yX1_leastCount cX1_leastCount 1 (some .int) :: ([.fieldLink RX1 13 "TelegraphPricesModel" "least" "I", .methodLink RX1 133 yX1_told, .instanceMethod yX1_told, .selects RX1 yX1_told yX1_told, .initialized RX1, .code yX1_told cX1_told 2 (some .int), .fieldLink RX1 45 "TelegraphPricesModel" "thrown" "I"] ++ wsX10)
def wsX1_coins : List Cond := .code yX1_coins cX1_coins 1 (some .int) :: ([.fieldLink RX1 16 "TelegraphPricesModel" "coins" "I", .methodLink RX1 133 yX1_told, .instanceMethod yX1_told, .selects RX1 yX1_told yX1_told, .initialized RX1, .code yX1_told cX1_told 2 (some .int), .fieldLink RX1 45 "TelegraphPricesModel" "thrown" "I"] ++ wsX10)
def wsX1_length : List Cond := .code yX1_length cX1_length 1 (some .int) :: ([.fieldLink RX1 55 "TelegraphPricesModel" "length" "I", .methodLink RX1 133 yX1_told, .instanceMethod yX1_told, .selects RX1 yX1_told yX1_told, .initialized RX1, .code yX1_told cX1_told 2 (some .int), .fieldLink RX1 45 "TelegraphPricesModel" "thrown" "I"] ++ wsX10)
def wsX1_wordAt : List Cond := .code yX1_wordAt cX1_wordAt 2 (some .int) :: ([.fieldLink RX1 45 "TelegraphPricesModel" "thrown" "I", .fieldLink RX1 29 "TelegraphPricesModel" "word" "[I", .methodLink RX1 109 yX1_isPlace, .instanceMethod yX1_isPlace, .selects RX1 yX1_isPlace yX1_isPlace, .initialized RX1, .code yX1_isPlace cX1_isPlace 2 (some .boolean), .fieldLink RX1 55 "TelegraphPricesModel" "length" "I", .methodLink RX1 51 yX1_isIn, .static yX1_isIn, .code yX1_isIn cX1_isIn 3 (some .boolean), .methodLink RX1 100 yX1_fail, .instanceMethod yX1_fail, .selects RX1 yX1_fail yX1_fail, .code yX1_fail cX1_fail 2 (some .int)] ++ wsX10)
def wsX1_isJoined : List Cond := .code yX1_isJoined cX1_isJoined 2 (some .boolean) :: ([.fieldLink RX1 45 "TelegraphPricesModel" "thrown" "I", .fieldLink RX1 32 "TelegraphPricesModel" "joined" "[Z", .methodLink RX1 109 yX1_isPlace, .instanceMethod yX1_isPlace, .selects RX1 yX1_isPlace yX1_isPlace, .initialized RX1, .code yX1_isPlace cX1_isPlace 2 (some .boolean), .fieldLink RX1 55 "TelegraphPricesModel" "length" "I", .methodLink RX1 51 yX1_isIn, .static yX1_isIn, .code yX1_isIn cX1_isIn 3 (some .boolean), .methodLink RX1 106 yX1_failed, .instanceMethod yX1_failed, .selects RX1 yX1_failed yX1_failed, .code yX1_failed cX1_failed 2 (some .boolean)] ++ wsX10)
def wsX1_count_r1 : List Cond := [Cond.methodLink RX1 112 yX1_countNow, Cond.instanceMethod yX1_countNow, Cond.selects RX1 yX1_countNow yX1_countNow, Cond.initialized RX1, Cond.code yX1_countNow cX1_countNow 4 (some .int), Cond.fieldLink RX1 55 "TelegraphPricesModel" "length" "I", Cond.fieldLink RX1 19 "TelegraphPricesModel" "letters" "[I", Cond.fieldLink RX1 29 "TelegraphPricesModel" "word" "[I", Cond.fieldLink RX1 32 "TelegraphPricesModel" "joined" "[Z", Cond.methodLink RX1 68 yX1_counts, Cond.instanceMethod yX1_counts, Cond.selects RX1 yX1_counts yX1_counts, Cond.code yX1_counts cX1_counts 2 (some .int), Cond.fieldLink RX1 7 "TelegraphPricesModel" "limit" "I", Cond.methodLink RX1 72 yX1_lifted, Cond.instanceMethod yX1_lifted, Cond.selects RX1 yX1_lifted yX1_lifted, Cond.code yX1_lifted cX1_lifted 2 (some .int), Cond.fieldLink RX1 13 "TelegraphPricesModel" "least" "I", Cond.methodLink RX1 62 Lib.Math.max.name, Cond.static Lib.Math.max.name, Cond.initialized "java/lang/Math", Cond.code Lib.Math.max.name Lib.Math.max.code 2 (some .int), Cond.methodLink RX1 133 yX1_told]
def wsX1_count_r2 : List Cond := [Cond.instanceMethod yX1_told, Cond.selects RX1 yX1_told yX1_told, Cond.code yX1_told cX1_told 2 (some .int), Cond.fieldLink RX1 45 "TelegraphPricesModel" "thrown" "I"]
def wsX1_count : List Cond := .code yX1_count cX1_count 1 (some .int) :: ((wsX1_count_r1 ++ wsX1_count_r2) ++ wsX10)
def wsX1_price_r1 : List Cond := [Cond.fieldLink RX1 16 "TelegraphPricesModel" "coins" "I", Cond.methodLink RX1 112 yX1_countNow, Cond.instanceMethod yX1_countNow, Cond.selects RX1 yX1_countNow yX1_countNow, Cond.initialized RX1, Cond.code yX1_countNow cX1_countNow 4 (some .int), Cond.fieldLink RX1 55 "TelegraphPricesModel" "length" "I", Cond.fieldLink RX1 19 "TelegraphPricesModel" "letters" "[I", Cond.fieldLink RX1 29 "TelegraphPricesModel" "word" "[I", Cond.fieldLink RX1 32 "TelegraphPricesModel" "joined" "[Z", Cond.methodLink RX1 68 yX1_counts, Cond.instanceMethod yX1_counts, Cond.selects RX1 yX1_counts yX1_counts, Cond.code yX1_counts cX1_counts 2 (some .int), Cond.fieldLink RX1 7 "TelegraphPricesModel" "limit" "I", Cond.methodLink RX1 72 yX1_lifted, Cond.instanceMethod yX1_lifted, Cond.selects RX1 yX1_lifted yX1_lifted, Cond.code yX1_lifted cX1_lifted 2 (some .int), Cond.fieldLink RX1 13 "TelegraphPricesModel" "least" "I", Cond.methodLink RX1 62 Lib.Math.max.name, Cond.static Lib.Math.max.name, Cond.initialized "java/lang/Math", Cond.code Lib.Math.max.name Lib.Math.max.code 2 (some .int)]
def wsX1_price_r2 : List Cond := [Cond.methodLink RX1 133 yX1_told, Cond.instanceMethod yX1_told, Cond.selects RX1 yX1_told yX1_told, Cond.code yX1_told cX1_told 2 (some .int), Cond.fieldLink RX1 45 "TelegraphPricesModel" "thrown" "I"]
def wsX1_price : List Cond := .code yX1_price cX1_price 1 (some .int) :: ((wsX1_price_r1 ++ wsX1_price_r2) ++ wsX10)
def wsX1_priceTo_r1 : List Cond := [Cond.fieldLink RX1 45 "TelegraphPricesModel" "thrown" "I", Cond.methodLink RX1 51 yX1_isIn, Cond.static yX1_isIn, Cond.initialized RX1, Cond.code yX1_isIn cX1_isIn 3 (some .boolean), Cond.methodLink RX1 124 yX1_costTo, Cond.instanceMethod yX1_costTo, Cond.selects RX1 yX1_costTo yX1_costTo, Cond.code yX1_costTo cX1_costTo 2 (some .int), Cond.fieldLink RX1 16 "TelegraphPricesModel" "coins" "I", Cond.methodLink RX1 112 yX1_countNow, Cond.instanceMethod yX1_countNow, Cond.selects RX1 yX1_countNow yX1_countNow, Cond.code yX1_countNow cX1_countNow 4 (some .int), Cond.fieldLink RX1 55 "TelegraphPricesModel" "length" "I", Cond.fieldLink RX1 19 "TelegraphPricesModel" "letters" "[I", Cond.fieldLink RX1 29 "TelegraphPricesModel" "word" "[I", Cond.fieldLink RX1 32 "TelegraphPricesModel" "joined" "[Z", Cond.methodLink RX1 68 yX1_counts, Cond.instanceMethod yX1_counts, Cond.selects RX1 yX1_counts yX1_counts, Cond.code yX1_counts cX1_counts 2 (some .int), Cond.fieldLink RX1 7 "TelegraphPricesModel" "limit" "I", Cond.methodLink RX1 72 yX1_lifted]
def wsX1_priceTo_r2 : List Cond := [Cond.instanceMethod yX1_lifted, Cond.selects RX1 yX1_lifted yX1_lifted, Cond.code yX1_lifted cX1_lifted 2 (some .int), Cond.fieldLink RX1 13 "TelegraphPricesModel" "least" "I", Cond.methodLink RX1 62 Lib.Math.max.name, Cond.static Lib.Math.max.name, Cond.initialized "java/lang/Math", Cond.code Lib.Math.max.name Lib.Math.max.code 2 (some .int), Cond.methodLink RX1 100 yX1_fail, Cond.instanceMethod yX1_fail, Cond.selects RX1 yX1_fail yX1_fail, Cond.code yX1_fail cX1_fail 2 (some .int)]
def wsX1_priceTo : List Cond := .code yX1_priceTo cX1_priceTo 2 (some .int) :: ((wsX1_priceTo_r1 ++ wsX1_priceTo_r2) ++ wsX10)
def wsX1_sent : List Cond := .code yX1_sent cX1_sent 1 (some .int) :: ([.fieldLink RX1 127 "TelegraphPricesModel" "sent" "I", .methodLink RX1 133 yX1_told, .instanceMethod yX1_told, .selects RX1 yX1_told yX1_told, .initialized RX1, .code yX1_told cX1_told 2 (some .int), .fieldLink RX1 45 "TelegraphPricesModel" "thrown" "I"] ++ wsX10)
def wsX1_earned : List Cond := .code yX1_earned cX1_earned 1 (some .int) :: ([.fieldLink RX1 130 "TelegraphPricesModel" "earned" "I", .methodLink RX1 133 yX1_told, .instanceMethod yX1_told, .selects RX1 yX1_told yX1_told, .initialized RX1, .code yX1_told cX1_told 2 (some .int), .fieldLink RX1 45 "TelegraphPricesModel" "thrown" "I"] ++ wsX10)
def wsX1_cheapestCount_r1 : List Cond := [Cond.methodLink RX1 89 yX1_reckon, Cond.instanceMethod yX1_reckon, Cond.selects RX1 yX1_reckon yX1_reckon, Cond.initialized RX1, Cond.code yX1_reckon cX1_reckon 2 (some .int), Cond.fieldLink RX1 36 "TelegraphPricesModel" "from" "[I", Cond.fieldLink RX1 55 "TelegraphPricesModel" "length" "I", Cond.methodLink RX1 80 Lib.Math.min.name, Cond.static Lib.Math.min.name, Cond.initialized "java/lang/Math", Cond.code Lib.Math.min.name Lib.Math.min.code 2 (some .int), Cond.methodLink RX1 83 yX1_leastSingle, Cond.instanceMethod yX1_leastSingle, Cond.selects RX1 yX1_leastSingle yX1_leastSingle, Cond.code yX1_leastSingle cX1_leastSingle 4 (some .int), Cond.constant RX1 75 (1000000), Cond.fieldLink RX1 48 "TelegraphPricesModel" "words" "I", Cond.fieldLink RX1 23 "TelegraphPricesModel" "stand" "[I", Cond.fieldLink RX1 29 "TelegraphPricesModel" "word" "[I", Cond.fieldLink RX1 19 "TelegraphPricesModel" "letters" "[I", Cond.methodLink RX1 76 yX1_has, Cond.static yX1_has, Cond.code yX1_has cX1_has 2 (some .boolean), Cond.methodLink RX1 68 yX1_counts]
def wsX1_cheapestCount_r2 : List Cond := [Cond.instanceMethod yX1_counts, Cond.selects RX1 yX1_counts yX1_counts, Cond.code yX1_counts cX1_counts 2 (some .int), Cond.fieldLink RX1 7 "TelegraphPricesModel" "limit" "I", Cond.methodLink RX1 86 yX1_leastPair, Cond.instanceMethod yX1_leastPair, Cond.selects RX1 yX1_leastPair yX1_leastPair, Cond.code yX1_leastPair cX1_leastPair 5 (some .int), Cond.fieldLink RX1 26 "TelegraphPricesModel" "join" "[I", Cond.methodLink RX1 72 yX1_lifted, Cond.instanceMethod yX1_lifted, Cond.selects RX1 yX1_lifted yX1_lifted, Cond.code yX1_lifted cX1_lifted 2 (some .int), Cond.fieldLink RX1 13 "TelegraphPricesModel" "least" "I", Cond.methodLink RX1 62 Lib.Math.max.name, Cond.static Lib.Math.max.name, Cond.code Lib.Math.max.name Lib.Math.max.code 2 (some .int), Cond.methodLink RX1 133 yX1_told, Cond.instanceMethod yX1_told, Cond.selects RX1 yX1_told yX1_told, Cond.code yX1_told cX1_told 2 (some .int), Cond.fieldLink RX1 45 "TelegraphPricesModel" "thrown" "I"]
def wsX1_cheapestCount : List Cond := .code yX1_cheapestCount cX1_cheapestCount 1 (some .int) :: ((wsX1_cheapestCount_r1 ++ wsX1_cheapestCount_r2) ++ wsX10)
def wsX1_cheapestWordAt_r1 : List Cond := [Cond.fieldLink RX1 45 "TelegraphPricesModel" "thrown" "I", Cond.fieldLink RX1 39 "TelegraphPricesModel" "cheap" "[I", Cond.methodLink RX1 109 yX1_isPlace, Cond.instanceMethod yX1_isPlace, Cond.selects RX1 yX1_isPlace yX1_isPlace, Cond.initialized RX1, Cond.code yX1_isPlace cX1_isPlace 2 (some .boolean), Cond.fieldLink RX1 55 "TelegraphPricesModel" "length" "I", Cond.methodLink RX1 51 yX1_isIn, Cond.static yX1_isIn, Cond.code yX1_isIn cX1_isIn 3 (some .boolean), Cond.methodLink RX1 100 yX1_fail, Cond.instanceMethod yX1_fail, Cond.selects RX1 yX1_fail yX1_fail, Cond.code yX1_fail cX1_fail 2 (some .int), Cond.methodLink RX1 115 yX1_choose, Cond.instanceMethod yX1_choose, Cond.selects RX1 yX1_choose yX1_choose, Cond.code yX1_choose cX1_choose 3 none, Cond.fieldLink RX1 42 "TelegraphPricesModel" "with" "[Z", Cond.methodLink RX1 89 yX1_reckon, Cond.instanceMethod yX1_reckon, Cond.selects RX1 yX1_reckon yX1_reckon, Cond.code yX1_reckon cX1_reckon 2 (some .int)]
def wsX1_cheapestWordAt_r2 : List Cond := [Cond.fieldLink RX1 36 "TelegraphPricesModel" "from" "[I", Cond.methodLink RX1 80 Lib.Math.min.name, Cond.static Lib.Math.min.name, Cond.initialized "java/lang/Math", Cond.code Lib.Math.min.name Lib.Math.min.code 2 (some .int), Cond.methodLink RX1 83 yX1_leastSingle, Cond.instanceMethod yX1_leastSingle, Cond.selects RX1 yX1_leastSingle yX1_leastSingle, Cond.code yX1_leastSingle cX1_leastSingle 4 (some .int), Cond.constant RX1 75 (1000000), Cond.fieldLink RX1 48 "TelegraphPricesModel" "words" "I", Cond.fieldLink RX1 23 "TelegraphPricesModel" "stand" "[I", Cond.fieldLink RX1 29 "TelegraphPricesModel" "word" "[I", Cond.fieldLink RX1 19 "TelegraphPricesModel" "letters" "[I", Cond.methodLink RX1 76 yX1_has, Cond.static yX1_has, Cond.code yX1_has cX1_has 2 (some .boolean), Cond.methodLink RX1 68 yX1_counts, Cond.instanceMethod yX1_counts, Cond.selects RX1 yX1_counts yX1_counts, Cond.code yX1_counts cX1_counts 2 (some .int), Cond.fieldLink RX1 7 "TelegraphPricesModel" "limit" "I", Cond.methodLink RX1 86 yX1_leastPair, Cond.instanceMethod yX1_leastPair]
def wsX1_cheapestWordAt_r3 : List Cond := [Cond.selects RX1 yX1_leastPair yX1_leastPair, Cond.code yX1_leastPair cX1_leastPair 5 (some .int), Cond.fieldLink RX1 26 "TelegraphPricesModel" "join" "[I", Cond.methodLink RX1 93 yX1_single, Cond.instanceMethod yX1_single, Cond.selects RX1 yX1_single yX1_single, Cond.code yX1_single cX1_single 3 (some .int), Cond.methodLink RX1 96 yX1_pair, Cond.instanceMethod yX1_pair, Cond.selects RX1 yX1_pair yX1_pair, Cond.code yX1_pair cX1_pair 4 none]
def wsX1_cheapestWordAt : List Cond := .code yX1_cheapestWordAt cX1_cheapestWordAt 2 (some .int) :: ((wsX1_cheapestWordAt_r1 ++ (wsX1_cheapestWordAt_r2 ++ wsX1_cheapestWordAt_r3)) ++ wsX10)
def wsX1_isJoinedInCheapest_r1 : List Cond := [Cond.fieldLink RX1 45 "TelegraphPricesModel" "thrown" "I", Cond.fieldLink RX1 42 "TelegraphPricesModel" "with" "[Z", Cond.methodLink RX1 109 yX1_isPlace, Cond.instanceMethod yX1_isPlace, Cond.selects RX1 yX1_isPlace yX1_isPlace, Cond.initialized RX1, Cond.code yX1_isPlace cX1_isPlace 2 (some .boolean), Cond.fieldLink RX1 55 "TelegraphPricesModel" "length" "I", Cond.methodLink RX1 51 yX1_isIn, Cond.static yX1_isIn, Cond.code yX1_isIn cX1_isIn 3 (some .boolean), Cond.methodLink RX1 106 yX1_failed, Cond.instanceMethod yX1_failed, Cond.selects RX1 yX1_failed yX1_failed, Cond.code yX1_failed cX1_failed 2 (some .boolean), Cond.methodLink RX1 115 yX1_choose, Cond.instanceMethod yX1_choose, Cond.selects RX1 yX1_choose yX1_choose, Cond.code yX1_choose cX1_choose 3 none, Cond.fieldLink RX1 39 "TelegraphPricesModel" "cheap" "[I", Cond.methodLink RX1 89 yX1_reckon, Cond.instanceMethod yX1_reckon, Cond.selects RX1 yX1_reckon yX1_reckon, Cond.code yX1_reckon cX1_reckon 2 (some .int)]
def wsX1_isJoinedInCheapest_r2 : List Cond := [Cond.fieldLink RX1 36 "TelegraphPricesModel" "from" "[I", Cond.methodLink RX1 80 Lib.Math.min.name, Cond.static Lib.Math.min.name, Cond.initialized "java/lang/Math", Cond.code Lib.Math.min.name Lib.Math.min.code 2 (some .int), Cond.methodLink RX1 83 yX1_leastSingle, Cond.instanceMethod yX1_leastSingle, Cond.selects RX1 yX1_leastSingle yX1_leastSingle, Cond.code yX1_leastSingle cX1_leastSingle 4 (some .int), Cond.constant RX1 75 (1000000), Cond.fieldLink RX1 48 "TelegraphPricesModel" "words" "I", Cond.fieldLink RX1 23 "TelegraphPricesModel" "stand" "[I", Cond.fieldLink RX1 29 "TelegraphPricesModel" "word" "[I", Cond.fieldLink RX1 19 "TelegraphPricesModel" "letters" "[I", Cond.methodLink RX1 76 yX1_has, Cond.static yX1_has, Cond.code yX1_has cX1_has 2 (some .boolean), Cond.methodLink RX1 68 yX1_counts, Cond.instanceMethod yX1_counts, Cond.selects RX1 yX1_counts yX1_counts, Cond.code yX1_counts cX1_counts 2 (some .int), Cond.fieldLink RX1 7 "TelegraphPricesModel" "limit" "I", Cond.methodLink RX1 86 yX1_leastPair, Cond.instanceMethod yX1_leastPair]
def wsX1_isJoinedInCheapest_r3 : List Cond := [Cond.selects RX1 yX1_leastPair yX1_leastPair, Cond.code yX1_leastPair cX1_leastPair 5 (some .int), Cond.fieldLink RX1 26 "TelegraphPricesModel" "join" "[I", Cond.methodLink RX1 93 yX1_single, Cond.instanceMethod yX1_single, Cond.selects RX1 yX1_single yX1_single, Cond.code yX1_single cX1_single 3 (some .int), Cond.methodLink RX1 96 yX1_pair, Cond.instanceMethod yX1_pair, Cond.selects RX1 yX1_pair yX1_pair, Cond.code yX1_pair cX1_pair 4 none]
def wsX1_isJoinedInCheapest : List Cond := .code yX1_isJoinedInCheapest cX1_isJoinedInCheapest 2 (some .boolean) :: ((wsX1_isJoinedInCheapest_r1 ++ (wsX1_isJoinedInCheapest_r2 ++ wsX1_isJoinedInCheapest_r3)) ++ wsX10)
def wsX1_saves_r1 : List Cond := [Cond.fieldLink RX1 16 "TelegraphPricesModel" "coins" "I", Cond.methodLink RX1 112 yX1_countNow, Cond.instanceMethod yX1_countNow, Cond.selects RX1 yX1_countNow yX1_countNow, Cond.initialized RX1, Cond.code yX1_countNow cX1_countNow 4 (some .int), Cond.fieldLink RX1 55 "TelegraphPricesModel" "length" "I", Cond.fieldLink RX1 19 "TelegraphPricesModel" "letters" "[I", Cond.fieldLink RX1 29 "TelegraphPricesModel" "word" "[I", Cond.fieldLink RX1 32 "TelegraphPricesModel" "joined" "[Z", Cond.methodLink RX1 68 yX1_counts, Cond.instanceMethod yX1_counts, Cond.selects RX1 yX1_counts yX1_counts, Cond.code yX1_counts cX1_counts 2 (some .int), Cond.fieldLink RX1 7 "TelegraphPricesModel" "limit" "I", Cond.methodLink RX1 72 yX1_lifted, Cond.instanceMethod yX1_lifted, Cond.selects RX1 yX1_lifted yX1_lifted, Cond.code yX1_lifted cX1_lifted 2 (some .int), Cond.fieldLink RX1 13 "TelegraphPricesModel" "least" "I", Cond.methodLink RX1 62 Lib.Math.max.name, Cond.static Lib.Math.max.name, Cond.initialized "java/lang/Math", Cond.code Lib.Math.max.name Lib.Math.max.code 2 (some .int)]
def wsX1_saves_r2 : List Cond := [Cond.methodLink RX1 89 yX1_reckon, Cond.instanceMethod yX1_reckon, Cond.selects RX1 yX1_reckon yX1_reckon, Cond.code yX1_reckon cX1_reckon 2 (some .int), Cond.fieldLink RX1 36 "TelegraphPricesModel" "from" "[I", Cond.methodLink RX1 80 Lib.Math.min.name, Cond.static Lib.Math.min.name, Cond.code Lib.Math.min.name Lib.Math.min.code 2 (some .int), Cond.methodLink RX1 83 yX1_leastSingle, Cond.instanceMethod yX1_leastSingle, Cond.selects RX1 yX1_leastSingle yX1_leastSingle, Cond.code yX1_leastSingle cX1_leastSingle 4 (some .int), Cond.constant RX1 75 (1000000), Cond.fieldLink RX1 48 "TelegraphPricesModel" "words" "I", Cond.fieldLink RX1 23 "TelegraphPricesModel" "stand" "[I", Cond.methodLink RX1 76 yX1_has, Cond.static yX1_has, Cond.code yX1_has cX1_has 2 (some .boolean), Cond.methodLink RX1 86 yX1_leastPair, Cond.instanceMethod yX1_leastPair, Cond.selects RX1 yX1_leastPair yX1_leastPair, Cond.code yX1_leastPair cX1_leastPair 5 (some .int), Cond.fieldLink RX1 26 "TelegraphPricesModel" "join" "[I", Cond.methodLink RX1 133 yX1_told]
def wsX1_saves_r3 : List Cond := [Cond.instanceMethod yX1_told, Cond.selects RX1 yX1_told yX1_told, Cond.code yX1_told cX1_told 2 (some .int), Cond.fieldLink RX1 45 "TelegraphPricesModel" "thrown" "I"]
def wsX1_saves : List Cond := .code yX1_saves cX1_saves 1 (some .int) :: ((wsX1_saves_r1 ++ (wsX1_saves_r2 ++ wsX1_saves_r3)) ++ wsX10)
def wsX1_wordings : List Cond := .code yX1_wordings cX1_wordings 3 (some .int) :: ([.fieldLink RX1 45 "TelegraphPricesModel" "thrown" "I", .fieldLink RX1 55 "TelegraphPricesModel" "length" "I", .constant RX1 75 (1000000), .fieldLink RX1 29 "TelegraphPricesModel" "word" "[I", .methodLink RX1 80 Lib.Math.min.name, .static Lib.Math.min.name, .initialized "java/lang/Math", .code Lib.Math.min.name Lib.Math.min.code 2 (some .int), .methodLink RX1 136 yX1_standIns, .instanceMethod yX1_standIns, .selects RX1 yX1_standIns yX1_standIns, .initialized RX1, .code yX1_standIns cX1_standIns 4 (some .int), .fieldLink RX1 48 "TelegraphPricesModel" "words" "I", .fieldLink RX1 23 "TelegraphPricesModel" "stand" "[I"] ++ wsX10)
def wsX1_bestJoin_r1 : List Cond := [Cond.fieldLink RX1 45 "TelegraphPricesModel" "thrown" "I", Cond.fieldLink RX1 48 "TelegraphPricesModel" "words" "I", Cond.fieldLink RX1 26 "TelegraphPricesModel" "join" "[I", Cond.methodLink RX1 89 yX1_reckon, Cond.instanceMethod yX1_reckon, Cond.selects RX1 yX1_reckon yX1_reckon, Cond.initialized RX1, Cond.code yX1_reckon cX1_reckon 2 (some .int), Cond.fieldLink RX1 36 "TelegraphPricesModel" "from" "[I", Cond.fieldLink RX1 55 "TelegraphPricesModel" "length" "I", Cond.methodLink RX1 80 Lib.Math.min.name, Cond.static Lib.Math.min.name, Cond.initialized "java/lang/Math", Cond.code Lib.Math.min.name Lib.Math.min.code 2 (some .int), Cond.methodLink RX1 83 yX1_leastSingle, Cond.instanceMethod yX1_leastSingle, Cond.selects RX1 yX1_leastSingle yX1_leastSingle, Cond.code yX1_leastSingle cX1_leastSingle 4 (some .int), Cond.constant RX1 75 (1000000), Cond.fieldLink RX1 23 "TelegraphPricesModel" "stand" "[I", Cond.fieldLink RX1 29 "TelegraphPricesModel" "word" "[I", Cond.fieldLink RX1 19 "TelegraphPricesModel" "letters" "[I", Cond.methodLink RX1 76 yX1_has, Cond.static yX1_has]
def wsX1_bestJoin_r2 : List Cond := [Cond.code yX1_has cX1_has 2 (some .boolean), Cond.methodLink RX1 68 yX1_counts, Cond.instanceMethod yX1_counts, Cond.selects RX1 yX1_counts yX1_counts, Cond.code yX1_counts cX1_counts 2 (some .int), Cond.fieldLink RX1 7 "TelegraphPricesModel" "limit" "I", Cond.methodLink RX1 86 yX1_leastPair, Cond.instanceMethod yX1_leastPair, Cond.selects RX1 yX1_leastPair yX1_leastPair, Cond.code yX1_leastPair cX1_leastPair 5 (some .int), Cond.methodLink RX1 72 yX1_lifted, Cond.instanceMethod yX1_lifted, Cond.selects RX1 yX1_lifted yX1_lifted, Cond.code yX1_lifted cX1_lifted 2 (some .int), Cond.fieldLink RX1 13 "TelegraphPricesModel" "least" "I", Cond.methodLink RX1 62 Lib.Math.max.name, Cond.static Lib.Math.max.name, Cond.code Lib.Math.max.name Lib.Math.max.code 2 (some .int)]
def wsX1_bestJoin : List Cond := .code yX1_bestJoin cX1_bestJoin 6 (some .int) :: ((wsX1_bestJoin_r1 ++ wsX1_bestJoin_r2) ++ wsX10)
def wsX1_meanCost : List Cond := .code yX1_meanCost cX1_meanCost 1 (some .double) :: ([.fieldLink RX1 45 "TelegraphPricesModel" "thrown" "I", .fieldLink RX1 127 "TelegraphPricesModel" "sent" "I", .fieldLink RX1 130 "TelegraphPricesModel" "earned" "I"] ++ wsX10)
def wsX1_digest_r1 : List Cond := [Cond.fieldLink RX1 45 "TelegraphPricesModel" "thrown" "I", Cond.arrayClass .int, Cond.fieldLink RX1 48 "TelegraphPricesModel" "words" "I", Cond.fieldLink RX1 7 "TelegraphPricesModel" "limit" "I", Cond.fieldLink RX1 13 "TelegraphPricesModel" "least" "I", Cond.fieldLink RX1 16 "TelegraphPricesModel" "coins" "I", Cond.fieldLink RX1 55 "TelegraphPricesModel" "length" "I", Cond.fieldLink RX1 36 "TelegraphPricesModel" "from" "[I", Cond.fieldLink RX1 127 "TelegraphPricesModel" "sent" "I", Cond.fieldLink RX1 130 "TelegraphPricesModel" "earned" "I", Cond.constantLong RX1 139 (1913), Cond.constantLong RX1 141 (31), Cond.fieldLink RX1 19 "TelegraphPricesModel" "letters" "[I", Cond.fieldLink RX1 29 "TelegraphPricesModel" "word" "[I", Cond.fieldLink RX1 32 "TelegraphPricesModel" "joined" "[Z", Cond.fieldLink RX1 39 "TelegraphPricesModel" "cheap" "[I", Cond.fieldLink RX1 42 "TelegraphPricesModel" "with" "[Z", Cond.methodLink RX1 115 yX1_choose, Cond.instanceMethod yX1_choose, Cond.selects RX1 yX1_choose yX1_choose, Cond.initialized RX1, Cond.code yX1_choose cX1_choose 3 none, Cond.methodLink RX1 89 yX1_reckon, Cond.instanceMethod yX1_reckon]
def wsX1_digest_r2 : List Cond := [Cond.selects RX1 yX1_reckon yX1_reckon, Cond.code yX1_reckon cX1_reckon 2 (some .int), Cond.methodLink RX1 80 Lib.Math.min.name, Cond.static Lib.Math.min.name, Cond.initialized "java/lang/Math", Cond.code Lib.Math.min.name Lib.Math.min.code 2 (some .int), Cond.methodLink RX1 83 yX1_leastSingle, Cond.instanceMethod yX1_leastSingle, Cond.selects RX1 yX1_leastSingle yX1_leastSingle, Cond.code yX1_leastSingle cX1_leastSingle 4 (some .int), Cond.constant RX1 75 (1000000), Cond.fieldLink RX1 23 "TelegraphPricesModel" "stand" "[I", Cond.methodLink RX1 76 yX1_has, Cond.static yX1_has, Cond.code yX1_has cX1_has 2 (some .boolean), Cond.methodLink RX1 68 yX1_counts, Cond.instanceMethod yX1_counts, Cond.selects RX1 yX1_counts yX1_counts, Cond.code yX1_counts cX1_counts 2 (some .int), Cond.methodLink RX1 86 yX1_leastPair, Cond.instanceMethod yX1_leastPair, Cond.selects RX1 yX1_leastPair yX1_leastPair, Cond.code yX1_leastPair cX1_leastPair 5 (some .int), Cond.fieldLink RX1 26 "TelegraphPricesModel" "join" "[I"]
def wsX1_digest_r3 : List Cond := [Cond.methodLink RX1 93 yX1_single, Cond.instanceMethod yX1_single, Cond.selects RX1 yX1_single yX1_single, Cond.code yX1_single cX1_single 3 (some .int), Cond.methodLink RX1 96 yX1_pair, Cond.instanceMethod yX1_pair, Cond.selects RX1 yX1_pair yX1_pair, Cond.code yX1_pair cX1_pair 4 none, Cond.methodLink RX1 112 yX1_countNow, Cond.instanceMethod yX1_countNow, Cond.selects RX1 yX1_countNow yX1_countNow, Cond.code yX1_countNow cX1_countNow 4 (some .int), Cond.methodLink RX1 72 yX1_lifted, Cond.instanceMethod yX1_lifted, Cond.selects RX1 yX1_lifted yX1_lifted, Cond.code yX1_lifted cX1_lifted 2 (some .int), Cond.methodLink RX1 62 Lib.Math.max.name, Cond.static Lib.Math.max.name, Cond.code Lib.Math.max.name Lib.Math.max.code 2 (some .int), Cond.methodLink RX1 136 yX1_standIns, Cond.instanceMethod yX1_standIns, Cond.selects RX1 yX1_standIns yX1_standIns, Cond.code yX1_standIns cX1_standIns 4 (some .int)]
def wsX1_digest : List Cond := .code yX1_digest cX1_digest 8 (some .long) :: ((wsX1_digest_r1 ++ (wsX1_digest_r2 ++ wsX1_digest_r3)) ++ wsX10)
def wsJ9_max_7cf53 : List Cond := .code yJ9_max_7cf53 cJ9_max_7cf53 2 (some .int) :: ([])
def wsJ9_min_7cf53 : List Cond := .code yJ9_min_7cf53 cJ9_min_7cf53 2 (some .int) :: ([])
def wsL_addWord : List Cond := .codeWith yL_addWord cL_addWord 4 (some .int) [(0, 9, 12, 13), (0, 9, 15, 15)] :: ([.classLink RL 13 "java/lang/IllegalArgumentException", .classLink RL 15 "java/lang/IllegalStateException", .methodLink RL 7 yX0_addWord, .instanceMethod yX0_addWord, .selects RX0 yX0_addWord yX0_addWord, .initialized RX0, .code yX0_addWord cX0_addWord 3 (some .int), .classLink RX0 66 "java/lang/IllegalArgumentException", .initialized "java/lang/IllegalArgumentException", .classLink RX0 73 "java/lang/IllegalStateException", .initialized "java/lang/IllegalStateException", .fieldLink RX0 19 "TelegraphPrices" "words" "I", .fieldLink RX0 9 "TelegraphPrices" "letters" "[I", .fieldLink RX0 13 "TelegraphPrices" "standIns" "[I", .fieldLink RX0 16 "TelegraphPrices" "joins" "[I"] ++ wsX00 ++ (vx_atS RX0 70 "java/lang/IllegalArgumentException" ["java/lang/RuntimeException", "java/lang/Exception"]).filter goodWord ++ (vx_atS RX0 77 "java/lang/IllegalStateException" ["java/lang/RuntimeException", "java/lang/Exception"]).filter goodWord)
def wsL_turnStandIn : List Cond := .codeWith yL_turnStandIn cL_turnStandIn 5 (some .int) [(0, 17, 20, 21), (0, 17, 24, 13)] :: ([.classLink RL 21 "java/lang/IndexOutOfBoundsException", .classLink RL 13 "java/lang/IllegalArgumentException", .methodLink RL 17 yX0_turnStandIn, .instanceMethod yX0_turnStandIn, .selects RX0 yX0_turnStandIn yX0_turnStandIn, .initialized RX0, .code yX0_turnStandIn cX0_turnStandIn 3 (some .boolean), .classLink RX0 66 "java/lang/IllegalArgumentException", .initialized "java/lang/IllegalArgumentException", .fieldLink RX0 13 "TelegraphPrices" "standIns" "[I", .methodLink RX0 78 yX0_needWord, .instanceMethod yX0_needWord, .selects RX0 yX0_needWord yX0_needWord, .code yX0_needWord cX0_needWord 2 none, .classLink RX0 133 "java/lang/IndexOutOfBoundsException", .initialized "java/lang/IndexOutOfBoundsException", .fieldLink RX0 19 "TelegraphPrices" "words" "I", .methodLink RX0 84 yX0_hasBit, .static yX0_hasBit, .code yX0_hasBit cX0_hasBit 2 (some .boolean)] ++ wsX00 ++ (vx_atS RX0 70 "java/lang/IllegalArgumentException" ["java/lang/RuntimeException", "java/lang/Exception"]).filter goodWord ++ (vx_atS RX0 137 "java/lang/IndexOutOfBoundsException" ["java/lang/RuntimeException", "java/lang/Exception"]).filter goodWord)
def wsL_turnJoin : List Cond := .codeWith yL_turnJoin cL_turnJoin 5 (some .int) [(0, 17, 20, 21)] :: ([.classLink RL 21 "java/lang/IndexOutOfBoundsException", .methodLink RL 23 yX0_turnJoin, .instanceMethod yX0_turnJoin, .selects RX0 yX0_turnJoin yX0_turnJoin, .initialized RX0, .code yX0_turnJoin cX0_turnJoin 3 (some .boolean), .fieldLink RX0 16 "TelegraphPrices" "joins" "[I", .methodLink RX0 78 yX0_needWord, .instanceMethod yX0_needWord, .selects RX0 yX0_needWord yX0_needWord, .code yX0_needWord cX0_needWord 2 none, .classLink RX0 133 "java/lang/IndexOutOfBoundsException", .initialized "java/lang/IndexOutOfBoundsException", .fieldLink RX0 19 "TelegraphPrices" "words" "I", .methodLink RX0 84 yX0_hasBit, .static yX0_hasBit, .code yX0_hasBit cX0_hasBit 2 (some .boolean)] ++ wsX00 ++ (vx_atS RX0 137 "java/lang/IndexOutOfBoundsException" ["java/lang/RuntimeException", "java/lang/Exception"]).filter goodWord)
def wsL_setLimit : List Cond := .codeWith yL_setLimit cL_setLimit 4 (some .int) [(0, 9, 12, 13)] :: ([.classLink RL 13 "java/lang/IllegalArgumentException", .methodLink RL 26 yX0_setLimit, .instanceMethod yX0_setLimit, .selects RX0 yX0_setLimit yX0_setLimit, .initialized RX0, .code yX0_setLimit cX0_setLimit 3 (some .int), .classLink RX0 66 "java/lang/IllegalArgumentException", .initialized "java/lang/IllegalArgumentException", .fieldLink RX0 23 "TelegraphPrices" "limit" "I"] ++ wsX00 ++ (vx_atS RX0 70 "java/lang/IllegalArgumentException" ["java/lang/RuntimeException", "java/lang/Exception"]).filter goodWord)
def wsL_setLeastCount : List Cond := .codeWith yL_setLeastCount cL_setLeastCount 4 (some .int) [(0, 9, 12, 13)] :: ([.classLink RL 13 "java/lang/IllegalArgumentException", .methodLink RL 29 yX0_setLeastCount, .instanceMethod yX0_setLeastCount, .selects RX0 yX0_setLeastCount yX0_setLeastCount, .initialized RX0, .code yX0_setLeastCount cX0_setLeastCount 3 (some .int), .classLink RX0 66 "java/lang/IllegalArgumentException", .initialized "java/lang/IllegalArgumentException", .fieldLink RX0 26 "TelegraphPrices" "leastCount" "I"] ++ wsX00 ++ (vx_atS RX0 70 "java/lang/IllegalArgumentException" ["java/lang/RuntimeException", "java/lang/Exception"]).filter goodWord)
def wsL_setCoins : List Cond := .codeWith yL_setCoins cL_setCoins 4 (some .int) [(0, 9, 12, 13)] :: ([.classLink RL 13 "java/lang/IllegalArgumentException", .methodLink RL 32 yX0_setCoins, .instanceMethod yX0_setCoins, .selects RX0 yX0_setCoins yX0_setCoins, .initialized RX0, .code yX0_setCoins cX0_setCoins 3 (some .int), .classLink RX0 66 "java/lang/IllegalArgumentException", .initialized "java/lang/IllegalArgumentException", .fieldLink RX0 29 "TelegraphPrices" "coins" "I"] ++ wsX00 ++ (vx_atS RX0 70 "java/lang/IllegalArgumentException" ["java/lang/RuntimeException", "java/lang/Exception"]).filter goodWord)
def wsL_write : List Cond := .codeWith yL_write cL_write 4 (some .int) [(0, 9, 12, 21), (0, 9, 15, 15)] :: ([.classLink RL 21 "java/lang/IndexOutOfBoundsException", .classLink RL 15 "java/lang/IllegalStateException", .methodLink RL 35 yX0_write, .instanceMethod yX0_write, .selects RX0 yX0_write yX0_write, .initialized RX0, .code yX0_write cX0_write 2 (some .int), .classLink RX0 73 "java/lang/IllegalStateException", .initialized "java/lang/IllegalStateException", .fieldLink RX0 39 "TelegraphPrices" "length" "I", .fieldLink RX0 32 "TelegraphPrices" "telegram" "[I", .fieldLink RX0 35 "TelegraphPrices" "joined" "[Z", .methodLink RX0 78 yX0_needWord, .instanceMethod yX0_needWord, .selects RX0 yX0_needWord yX0_needWord, .code yX0_needWord cX0_needWord 2 none, .classLink RX0 133 "java/lang/IndexOutOfBoundsException", .initialized "java/lang/IndexOutOfBoundsException", .fieldLink RX0 19 "TelegraphPrices" "words" "I"] ++ wsX00 ++ (vx_atS RX0 77 "java/lang/IllegalStateException" ["java/lang/RuntimeException", "java/lang/Exception"]).filter goodWord ++ (vx_atS RX0 137 "java/lang/IndexOutOfBoundsException" ["java/lang/RuntimeException", "java/lang/Exception"]).filter goodWord)
def wsL_strike : List Cond := .codeWith yL_strike cL_strike 4 (some .int) [(0, 9, 12, 21)] :: ([.classLink RL 21 "java/lang/IndexOutOfBoundsException", .methodLink RL 38 yX0_strike, .instanceMethod yX0_strike, .selects RX0 yX0_strike yX0_strike, .initialized RX0, .code yX0_strike cX0_strike 3 (some .int), .fieldLink RX0 35 "TelegraphPrices" "joined" "[Z", .fieldLink RX0 39 "TelegraphPrices" "length" "I", .fieldLink RX0 32 "TelegraphPrices" "telegram" "[I", .methodLink RX0 96 yX0_needPlace, .instanceMethod yX0_needPlace, .selects RX0 yX0_needPlace yX0_needPlace, .code yX0_needPlace cX0_needPlace 2 none, .classLink RX0 133 "java/lang/IndexOutOfBoundsException", .initialized "java/lang/IndexOutOfBoundsException"] ++ wsX00 ++ (vx_atS RX0 137 "java/lang/IndexOutOfBoundsException" ["java/lang/RuntimeException", "java/lang/Exception"]).filter goodWord)
def wsL_turnJoined_r1 : List Cond := [Cond.classLink RL 21 "java/lang/IndexOutOfBoundsException", Cond.classLink RL 15 "java/lang/IllegalStateException", Cond.methodLink RL 41 yX0_turnJoined, Cond.instanceMethod yX0_turnJoined, Cond.selects RX0 yX0_turnJoined yX0_turnJoined, Cond.initialized RX0, Cond.code yX0_turnJoined cX0_turnJoined 2 (some .boolean), Cond.classLink RX0 73 "java/lang/IllegalStateException", Cond.initialized "java/lang/IllegalStateException", Cond.fieldLink RX0 35 "TelegraphPrices" "joined" "[Z", Cond.methodLink RX0 96 yX0_needPlace, Cond.instanceMethod yX0_needPlace, Cond.selects RX0 yX0_needPlace yX0_needPlace, Cond.code yX0_needPlace cX0_needPlace 2 none, Cond.classLink RX0 133 "java/lang/IndexOutOfBoundsException", Cond.initialized "java/lang/IndexOutOfBoundsException", Cond.fieldLink RX0 39 "TelegraphPrices" "length" "I", Cond.methodLink RX0 99 yX0_couldBeJoined, Cond.instanceMethod yX0_couldBeJoined, Cond.selects RX0 yX0_couldBeJoined yX0_couldBeJoined, Cond.code yX0_couldBeJoined cX0_couldBeJoined 3 (some .boolean), Cond.fieldLink RX0 16 "TelegraphPrices" "joins" "[I", Cond.fieldLink RX0 32 "TelegraphPrices" "telegram" "[I", Cond.methodLink RX0 84 yX0_hasBit]
def wsL_turnJoined_r2 : List Cond := [Cond.static yX0_hasBit, Cond.code yX0_hasBit cX0_hasBit 2 (some .boolean)]
def wsL_turnJoined : List Cond := .codeWith yL_turnJoined cL_turnJoined 4 (some .int) [(0, 16, 19, 21), (0, 16, 22, 15)] :: ((wsL_turnJoined_r1 ++ wsL_turnJoined_r2) ++ wsX00 ++ (vx_atS RX0 77 "java/lang/IllegalStateException" ["java/lang/RuntimeException", "java/lang/Exception"]).filter goodWord ++ (vx_atS RX0 137 "java/lang/IndexOutOfBoundsException" ["java/lang/RuntimeException", "java/lang/Exception"]).filter goodWord)
def wsL_send_r1 : List Cond := [Cond.classLink RL 21 "java/lang/IndexOutOfBoundsException", Cond.classLink RL 15 "java/lang/IllegalStateException", Cond.methodLink RL 45 yX0_send, Cond.instanceMethod yX0_send, Cond.selects RX0 yX0_send yX0_send, Cond.initialized RX0, Cond.code yX0_send cX0_send 3 (some .int), Cond.classLink RX0 73 "java/lang/IllegalStateException", Cond.initialized "java/lang/IllegalStateException", Cond.fieldLink RX0 39 "TelegraphPrices" "length" "I", Cond.fieldLink RX0 42 "TelegraphPrices" "sent" "I", Cond.fieldLink RX0 45 "TelegraphPrices" "earned" "I", Cond.methodLink RX0 112 yX0_priceTo, Cond.instanceMethod yX0_priceTo, Cond.selects RX0 yX0_priceTo yX0_priceTo, Cond.code yX0_priceTo cX0_priceTo 2 (some .int), Cond.classLink RX0 133 "java/lang/IndexOutOfBoundsException", Cond.initialized "java/lang/IndexOutOfBoundsException", Cond.methodLink RX0 138 yX0_price, Cond.instanceMethod yX0_price, Cond.selects RX0 yX0_price yX0_price, Cond.code yX0_price cX0_price 1 (some .int), Cond.fieldLink RX0 29 "TelegraphPrices" "coins" "I", Cond.methodLink RX0 105 yX0_count]
def wsL_send_r2 : List Cond := [Cond.instanceMethod yX0_count, Cond.selects RX0 yX0_count yX0_count, Cond.code yX0_count cX0_count 3 (some .int), Cond.fieldLink RX0 35 "TelegraphPrices" "joined" "[Z", Cond.fieldLink RX0 32 "TelegraphPrices" "telegram" "[I", Cond.fieldLink RX0 9 "TelegraphPrices" "letters" "[I", Cond.methodLink RX0 126 yX0_countOfPair, Cond.instanceMethod yX0_countOfPair, Cond.selects RX0 yX0_countOfPair yX0_countOfPair, Cond.code yX0_countOfPair cX0_countOfPair 3 (some .int), Cond.methodLink RX0 118 yX0_countOfLetters, Cond.instanceMethod yX0_countOfLetters, Cond.selects RX0 yX0_countOfLetters yX0_countOfLetters, Cond.code yX0_countOfLetters cX0_countOfLetters 2 (some .int), Cond.fieldLink RX0 23 "TelegraphPrices" "limit" "I", Cond.methodLink RX0 130 yX0_atLeastTheLeastCount, Cond.instanceMethod yX0_atLeastTheLeastCount, Cond.selects RX0 yX0_atLeastTheLeastCount yX0_atLeastTheLeastCount, Cond.code yX0_atLeastTheLeastCount cX0_atLeastTheLeastCount 2 (some .int), Cond.fieldLink RX0 26 "TelegraphPrices" "leastCount" "I", Cond.methodLink RX0 175 Lib.Math.max.name, Cond.static Lib.Math.max.name, Cond.initialized "java/lang/Math", Cond.code Lib.Math.max.name Lib.Math.max.code 2 (some .int)]
def wsL_send : List Cond := .codeWith yL_send cL_send 4 (some .int) [(0, 9, 12, 21), (0, 9, 15, 15)] :: ((wsL_send_r1 ++ wsL_send_r2) ++ wsX00 ++ (vx_atS RX0 77 "java/lang/IllegalStateException" ["java/lang/RuntimeException", "java/lang/Exception"]).filter goodWord ++ (vx_atS RX0 137 "java/lang/IndexOutOfBoundsException" ["java/lang/RuntimeException", "java/lang/Exception"]).filter goodWord)
def wsL_lettersOf : List Cond := .codeWith yL_lettersOf cL_lettersOf 4 (some .int) [(0, 9, 12, 21)] :: ([.classLink RL 21 "java/lang/IndexOutOfBoundsException", .methodLink RL 48 yX0_lettersOf, .instanceMethod yX0_lettersOf, .selects RX0 yX0_lettersOf yX0_lettersOf, .initialized RX0, .code yX0_lettersOf cX0_lettersOf 2 (some .int), .fieldLink RX0 9 "TelegraphPrices" "letters" "[I", .methodLink RX0 78 yX0_needWord, .instanceMethod yX0_needWord, .selects RX0 yX0_needWord yX0_needWord, .code yX0_needWord cX0_needWord 2 none, .classLink RX0 133 "java/lang/IndexOutOfBoundsException", .initialized "java/lang/IndexOutOfBoundsException", .fieldLink RX0 19 "TelegraphPrices" "words" "I"] ++ wsX00 ++ (vx_atS RX0 137 "java/lang/IndexOutOfBoundsException" ["java/lang/RuntimeException", "java/lang/Exception"]).filter goodWord)
def wsL_countOf : List Cond := .codeWith yL_countOf cL_countOf 4 (some .int) [(0, 9, 12, 21)] :: ([.classLink RL 21 "java/lang/IndexOutOfBoundsException", .methodLink RL 51 yX0_countOf, .instanceMethod yX0_countOf, .selects RX0 yX0_countOf yX0_countOf, .initialized RX0, .code yX0_countOf cX0_countOf 2 (some .int), .fieldLink RX0 9 "TelegraphPrices" "letters" "[I", .methodLink RX0 78 yX0_needWord, .instanceMethod yX0_needWord, .selects RX0 yX0_needWord yX0_needWord, .code yX0_needWord cX0_needWord 2 none, .classLink RX0 133 "java/lang/IndexOutOfBoundsException", .initialized "java/lang/IndexOutOfBoundsException", .fieldLink RX0 19 "TelegraphPrices" "words" "I", .methodLink RX0 118 yX0_countOfLetters, .instanceMethod yX0_countOfLetters, .selects RX0 yX0_countOfLetters yX0_countOfLetters, .code yX0_countOfLetters cX0_countOfLetters 2 (some .int), .fieldLink RX0 23 "TelegraphPrices" "limit" "I"] ++ wsX00 ++ (vx_atS RX0 137 "java/lang/IndexOutOfBoundsException" ["java/lang/RuntimeException", "java/lang/Exception"]).filter goodWord)
def wsL_mayStandFor : List Cond := .codeWith yL_mayStandFor cL_mayStandFor 5 (some .int) [(0, 17, 20, 21)] :: ([.classLink RL 21 "java/lang/IndexOutOfBoundsException", .methodLink RL 54 yX0_mayStandFor, .instanceMethod yX0_mayStandFor, .selects RX0 yX0_mayStandFor yX0_mayStandFor, .initialized RX0, .code yX0_mayStandFor cX0_mayStandFor 3 (some .boolean), .fieldLink RX0 13 "TelegraphPrices" "standIns" "[I", .methodLink RX0 78 yX0_needWord, .instanceMethod yX0_needWord, .selects RX0 yX0_needWord yX0_needWord, .code yX0_needWord cX0_needWord 2 none, .classLink RX0 133 "java/lang/IndexOutOfBoundsException", .initialized "java/lang/IndexOutOfBoundsException", .fieldLink RX0 19 "TelegraphPrices" "words" "I", .methodLink RX0 84 yX0_hasBit, .static yX0_hasBit, .code yX0_hasBit cX0_hasBit 2 (some .boolean)] ++ wsX00 ++ (vx_atS RX0 137 "java/lang/IndexOutOfBoundsException" ["java/lang/RuntimeException", "java/lang/Exception"]).filter goodWord)
def wsL_mayJoin : List Cond := .codeWith yL_mayJoin cL_mayJoin 5 (some .int) [(0, 17, 20, 21)] :: ([.classLink RL 21 "java/lang/IndexOutOfBoundsException", .methodLink RL 57 yX0_mayJoin, .instanceMethod yX0_mayJoin, .selects RX0 yX0_mayJoin yX0_mayJoin, .initialized RX0, .code yX0_mayJoin cX0_mayJoin 3 (some .boolean), .fieldLink RX0 16 "TelegraphPrices" "joins" "[I", .methodLink RX0 78 yX0_needWord, .instanceMethod yX0_needWord, .selects RX0 yX0_needWord yX0_needWord, .code yX0_needWord cX0_needWord 2 none, .classLink RX0 133 "java/lang/IndexOutOfBoundsException", .initialized "java/lang/IndexOutOfBoundsException", .fieldLink RX0 19 "TelegraphPrices" "words" "I", .methodLink RX0 84 yX0_hasBit, .static yX0_hasBit, .code yX0_hasBit cX0_hasBit 2 (some .boolean)] ++ wsX00 ++ (vx_atS RX0 137 "java/lang/IndexOutOfBoundsException" ["java/lang/RuntimeException", "java/lang/Exception"]).filter goodWord)
def wsL_standInsOf : List Cond := .codeWith yL_standInsOf cL_standInsOf 4 (some .int) [(0, 9, 12, 21)] :: ([.classLink RL 21 "java/lang/IndexOutOfBoundsException", .methodLink RL 60 yX0_standInsOf, .instanceMethod yX0_standInsOf, .selects RX0 yX0_standInsOf yX0_standInsOf, .initialized RX0, .code yX0_standInsOf cX0_standInsOf 2 (some .int), .fieldLink RX0 13 "TelegraphPrices" "standIns" "[I", .methodLink RX0 78 yX0_needWord, .instanceMethod yX0_needWord, .selects RX0 yX0_needWord yX0_needWord, .code yX0_needWord cX0_needWord 2 none, .classLink RX0 133 "java/lang/IndexOutOfBoundsException", .initialized "java/lang/IndexOutOfBoundsException", .fieldLink RX0 19 "TelegraphPrices" "words" "I", .methodLink RX0 121 yJ6_bitCount_0f7a4, .static yJ6_bitCount_0f7a4, .initialized RJ6, .code yJ6_bitCount_0f7a4 cJ6_bitCount_0f7a4 1 (some .int), .constant RJ6 265 (1431655765), .constant RJ6 266 (858993459), .constant RJ6 267 (252645135)] ++ wsX00 ++ (vx_atS RX0 137 "java/lang/IndexOutOfBoundsException" ["java/lang/RuntimeException", "java/lang/Exception"]).filter goodWord)
def wsL_wordAt : List Cond := .codeWith yL_wordAt cL_wordAt 4 (some .int) [(0, 9, 12, 21)] :: ([.classLink RL 21 "java/lang/IndexOutOfBoundsException", .methodLink RL 63 yX0_wordAt, .instanceMethod yX0_wordAt, .selects RX0 yX0_wordAt yX0_wordAt, .initialized RX0, .code yX0_wordAt cX0_wordAt 2 (some .int), .fieldLink RX0 32 "TelegraphPrices" "telegram" "[I", .methodLink RX0 96 yX0_needPlace, .instanceMethod yX0_needPlace, .selects RX0 yX0_needPlace yX0_needPlace, .code yX0_needPlace cX0_needPlace 2 none, .classLink RX0 133 "java/lang/IndexOutOfBoundsException", .initialized "java/lang/IndexOutOfBoundsException", .fieldLink RX0 39 "TelegraphPrices" "length" "I"] ++ wsX00 ++ (vx_atS RX0 137 "java/lang/IndexOutOfBoundsException" ["java/lang/RuntimeException", "java/lang/Exception"]).filter goodWord)
def wsL_isJoined : List Cond := .codeWith yL_isJoined cL_isJoined 4 (some .int) [(0, 16, 19, 21)] :: ([.classLink RL 21 "java/lang/IndexOutOfBoundsException", .methodLink RL 66 yX0_isJoined, .instanceMethod yX0_isJoined, .selects RX0 yX0_isJoined yX0_isJoined, .initialized RX0, .code yX0_isJoined cX0_isJoined 2 (some .boolean), .fieldLink RX0 35 "TelegraphPrices" "joined" "[Z", .methodLink RX0 96 yX0_needPlace, .instanceMethod yX0_needPlace, .selects RX0 yX0_needPlace yX0_needPlace, .code yX0_needPlace cX0_needPlace 2 none, .classLink RX0 133 "java/lang/IndexOutOfBoundsException", .initialized "java/lang/IndexOutOfBoundsException", .fieldLink RX0 39 "TelegraphPrices" "length" "I"] ++ wsX00 ++ (vx_atS RX0 137 "java/lang/IndexOutOfBoundsException" ["java/lang/RuntimeException", "java/lang/Exception"]).filter goodWord)
def wsL_priceTo_r1 : List Cond := [Cond.classLink RL 21 "java/lang/IndexOutOfBoundsException", Cond.methodLink RL 69 yX0_priceTo, Cond.instanceMethod yX0_priceTo, Cond.selects RX0 yX0_priceTo yX0_priceTo, Cond.initialized RX0, Cond.code yX0_priceTo cX0_priceTo 2 (some .int), Cond.classLink RX0 133 "java/lang/IndexOutOfBoundsException", Cond.initialized "java/lang/IndexOutOfBoundsException", Cond.methodLink RX0 138 yX0_price, Cond.instanceMethod yX0_price, Cond.selects RX0 yX0_price yX0_price, Cond.code yX0_price cX0_price 1 (some .int), Cond.fieldLink RX0 29 "TelegraphPrices" "coins" "I", Cond.methodLink RX0 105 yX0_count, Cond.instanceMethod yX0_count, Cond.selects RX0 yX0_count yX0_count, Cond.code yX0_count cX0_count 3 (some .int), Cond.fieldLink RX0 39 "TelegraphPrices" "length" "I", Cond.fieldLink RX0 35 "TelegraphPrices" "joined" "[Z", Cond.fieldLink RX0 32 "TelegraphPrices" "telegram" "[I", Cond.fieldLink RX0 9 "TelegraphPrices" "letters" "[I", Cond.methodLink RX0 126 yX0_countOfPair, Cond.instanceMethod yX0_countOfPair, Cond.selects RX0 yX0_countOfPair yX0_countOfPair]
def wsL_priceTo_r2 : List Cond := [Cond.code yX0_countOfPair cX0_countOfPair 3 (some .int), Cond.methodLink RX0 118 yX0_countOfLetters, Cond.instanceMethod yX0_countOfLetters, Cond.selects RX0 yX0_countOfLetters yX0_countOfLetters, Cond.code yX0_countOfLetters cX0_countOfLetters 2 (some .int), Cond.fieldLink RX0 23 "TelegraphPrices" "limit" "I", Cond.methodLink RX0 130 yX0_atLeastTheLeastCount, Cond.instanceMethod yX0_atLeastTheLeastCount, Cond.selects RX0 yX0_atLeastTheLeastCount yX0_atLeastTheLeastCount, Cond.code yX0_atLeastTheLeastCount cX0_atLeastTheLeastCount 2 (some .int), Cond.fieldLink RX0 26 "TelegraphPrices" "leastCount" "I", Cond.methodLink RX0 175 Lib.Math.max.name, Cond.static Lib.Math.max.name, Cond.initialized "java/lang/Math", Cond.code Lib.Math.max.name Lib.Math.max.code 2 (some .int)]
def wsL_priceTo : List Cond := .codeWith yL_priceTo cL_priceTo 4 (some .int) [(0, 9, 12, 21)] :: ((wsL_priceTo_r1 ++ wsL_priceTo_r2) ++ wsX00 ++ (vx_atS RX0 137 "java/lang/IndexOutOfBoundsException" ["java/lang/RuntimeException", "java/lang/Exception"]).filter goodWord)
def wsL_cheapestWordAt_r1 : List Cond := [Cond.classLink RL 21 "java/lang/IndexOutOfBoundsException", Cond.methodLink RL 72 yX0_cheapestWordAt, Cond.instanceMethod yX0_cheapestWordAt, Cond.selects RX0 yX0_cheapestWordAt yX0_cheapestWordAt, Cond.initialized RX0, Cond.code yX0_cheapestWordAt cX0_cheapestWordAt 2 (some .int), Cond.fieldLink RX0 60 "TelegraphPrices" "cheapestWords" "[I", Cond.methodLink RX0 96 yX0_needPlace, Cond.instanceMethod yX0_needPlace, Cond.selects RX0 yX0_needPlace yX0_needPlace, Cond.code yX0_needPlace cX0_needPlace 2 none, Cond.classLink RX0 133 "java/lang/IndexOutOfBoundsException", Cond.initialized "java/lang/IndexOutOfBoundsException", Cond.fieldLink RX0 39 "TelegraphPrices" "length" "I", Cond.methodLink RX0 109 yX0_noteCheapestWording, Cond.instanceMethod yX0_noteCheapestWording, Cond.selects RX0 yX0_noteCheapestWording yX0_noteCheapestWording, Cond.code yX0_noteCheapestWording cX0_noteCheapestWording 3 none, Cond.fieldLink RX0 51 "TelegraphPrices" "leastJoined" "[I", Cond.fieldLink RX0 48 "TelegraphPrices" "leastAlone" "[I", Cond.fieldLink RX0 57 "TelegraphPrices" "leastFrom" "[I", Cond.methodLink RX0 141 yX0_noteLeastCounts, Cond.instanceMethod yX0_noteLeastCounts, Cond.selects RX0 yX0_noteLeastCounts yX0_noteLeastCounts]
def wsL_cheapestWordAt_r2 : List Cond := [Cond.code yX0_noteLeastCounts cX0_noteLeastCounts 3 none, Cond.fieldLink RX0 9 "TelegraphPrices" "letters" "[I", Cond.constant RX0 151 (1000000), Cond.methodLink RX0 178 yX0_bestWordAt, Cond.instanceMethod yX0_bestWordAt, Cond.selects RX0 yX0_bestWordAt yX0_bestWordAt, Cond.code yX0_bestWordAt cX0_bestWordAt 5 (some .int), Cond.fieldLink RX0 32 "TelegraphPrices" "telegram" "[I", Cond.fieldLink RX0 19 "TelegraphPrices" "words" "I", Cond.methodLink RX0 184 yX0_mayHold, Cond.instanceMethod yX0_mayHold, Cond.selects RX0 yX0_mayHold yX0_mayHold, Cond.code yX0_mayHold cX0_mayHold 3 (some .boolean), Cond.fieldLink RX0 13 "TelegraphPrices" "standIns" "[I", Cond.methodLink RX0 84 yX0_hasBit, Cond.static yX0_hasBit, Cond.code yX0_hasBit cX0_hasBit 2 (some .boolean), Cond.methodLink RX0 118 yX0_countOfLetters, Cond.instanceMethod yX0_countOfLetters, Cond.selects RX0 yX0_countOfLetters yX0_countOfLetters, Cond.code yX0_countOfLetters cX0_countOfLetters 2 (some .int), Cond.fieldLink RX0 23 "TelegraphPrices" "limit" "I", Cond.methodLink RX0 181 yX0_bestPairAt, Cond.instanceMethod yX0_bestPairAt]
def wsL_cheapestWordAt_r3 : List Cond := [Cond.selects RX0 yX0_bestPairAt yX0_bestPairAt, Cond.code yX0_bestPairAt cX0_bestPairAt 7 (some .int), Cond.fieldLink RX0 16 "TelegraphPrices" "joins" "[I", Cond.methodLink RX0 126 yX0_countOfPair, Cond.instanceMethod yX0_countOfPair, Cond.selects RX0 yX0_countOfPair yX0_countOfPair, Cond.code yX0_countOfPair cX0_countOfPair 3 (some .int), Cond.methodLink RX0 144 yX0_leastInAll, Cond.instanceMethod yX0_leastInAll, Cond.selects RX0 yX0_leastInAll yX0_leastInAll, Cond.code yX0_leastInAll cX0_leastInAll 4 (some .int), Cond.methodLink RX0 152 Lib.Math.min.name, Cond.static Lib.Math.min.name, Cond.initialized "java/lang/Math", Cond.code Lib.Math.min.name Lib.Math.min.code 2 (some .int), Cond.methodLink RX0 187 yX0_noteCheapestAt, Cond.instanceMethod yX0_noteCheapestAt, Cond.selects RX0 yX0_noteCheapestAt yX0_noteCheapestAt, Cond.code yX0_noteCheapestAt cX0_noteCheapestAt 4 none, Cond.fieldLink RX0 63 "TelegraphPrices" "cheapestJoined" "[Z"]
def wsL_cheapestWordAt : List Cond := .codeWith yL_cheapestWordAt cL_cheapestWordAt 4 (some .int) [(0, 9, 12, 21)] :: ((wsL_cheapestWordAt_r1 ++ (wsL_cheapestWordAt_r2 ++ wsL_cheapestWordAt_r3)) ++ wsX00 ++ (vx_atS RX0 137 "java/lang/IndexOutOfBoundsException" ["java/lang/RuntimeException", "java/lang/Exception"]).filter goodWord)
def wsL_isJoinedInCheapest_r1 : List Cond := [Cond.classLink RL 21 "java/lang/IndexOutOfBoundsException", Cond.methodLink RL 75 yX0_isJoinedInCheapest, Cond.instanceMethod yX0_isJoinedInCheapest, Cond.selects RX0 yX0_isJoinedInCheapest yX0_isJoinedInCheapest, Cond.initialized RX0, Cond.code yX0_isJoinedInCheapest cX0_isJoinedInCheapest 2 (some .boolean), Cond.fieldLink RX0 63 "TelegraphPrices" "cheapestJoined" "[Z", Cond.methodLink RX0 96 yX0_needPlace, Cond.instanceMethod yX0_needPlace, Cond.selects RX0 yX0_needPlace yX0_needPlace, Cond.code yX0_needPlace cX0_needPlace 2 none, Cond.classLink RX0 133 "java/lang/IndexOutOfBoundsException", Cond.initialized "java/lang/IndexOutOfBoundsException", Cond.fieldLink RX0 39 "TelegraphPrices" "length" "I", Cond.methodLink RX0 109 yX0_noteCheapestWording, Cond.instanceMethod yX0_noteCheapestWording, Cond.selects RX0 yX0_noteCheapestWording yX0_noteCheapestWording, Cond.code yX0_noteCheapestWording cX0_noteCheapestWording 3 none, Cond.fieldLink RX0 51 "TelegraphPrices" "leastJoined" "[I", Cond.fieldLink RX0 48 "TelegraphPrices" "leastAlone" "[I", Cond.fieldLink RX0 57 "TelegraphPrices" "leastFrom" "[I", Cond.methodLink RX0 141 yX0_noteLeastCounts, Cond.instanceMethod yX0_noteLeastCounts, Cond.selects RX0 yX0_noteLeastCounts yX0_noteLeastCounts]
def wsL_isJoinedInCheapest_r2 : List Cond := [Cond.code yX0_noteLeastCounts cX0_noteLeastCounts 3 none, Cond.fieldLink RX0 9 "TelegraphPrices" "letters" "[I", Cond.constant RX0 151 (1000000), Cond.methodLink RX0 178 yX0_bestWordAt, Cond.instanceMethod yX0_bestWordAt, Cond.selects RX0 yX0_bestWordAt yX0_bestWordAt, Cond.code yX0_bestWordAt cX0_bestWordAt 5 (some .int), Cond.fieldLink RX0 32 "TelegraphPrices" "telegram" "[I", Cond.fieldLink RX0 19 "TelegraphPrices" "words" "I", Cond.methodLink RX0 184 yX0_mayHold, Cond.instanceMethod yX0_mayHold, Cond.selects RX0 yX0_mayHold yX0_mayHold, Cond.code yX0_mayHold cX0_mayHold 3 (some .boolean), Cond.fieldLink RX0 13 "TelegraphPrices" "standIns" "[I", Cond.methodLink RX0 84 yX0_hasBit, Cond.static yX0_hasBit, Cond.code yX0_hasBit cX0_hasBit 2 (some .boolean), Cond.methodLink RX0 118 yX0_countOfLetters, Cond.instanceMethod yX0_countOfLetters, Cond.selects RX0 yX0_countOfLetters yX0_countOfLetters, Cond.code yX0_countOfLetters cX0_countOfLetters 2 (some .int), Cond.fieldLink RX0 23 "TelegraphPrices" "limit" "I", Cond.methodLink RX0 181 yX0_bestPairAt, Cond.instanceMethod yX0_bestPairAt]
def wsL_isJoinedInCheapest_r3 : List Cond := [Cond.selects RX0 yX0_bestPairAt yX0_bestPairAt, Cond.code yX0_bestPairAt cX0_bestPairAt 7 (some .int), Cond.fieldLink RX0 16 "TelegraphPrices" "joins" "[I", Cond.methodLink RX0 126 yX0_countOfPair, Cond.instanceMethod yX0_countOfPair, Cond.selects RX0 yX0_countOfPair yX0_countOfPair, Cond.code yX0_countOfPair cX0_countOfPair 3 (some .int), Cond.methodLink RX0 144 yX0_leastInAll, Cond.instanceMethod yX0_leastInAll, Cond.selects RX0 yX0_leastInAll yX0_leastInAll, Cond.code yX0_leastInAll cX0_leastInAll 4 (some .int), Cond.methodLink RX0 152 Lib.Math.min.name, Cond.static Lib.Math.min.name, Cond.initialized "java/lang/Math", Cond.code Lib.Math.min.name Lib.Math.min.code 2 (some .int), Cond.methodLink RX0 187 yX0_noteCheapestAt, Cond.instanceMethod yX0_noteCheapestAt, Cond.selects RX0 yX0_noteCheapestAt yX0_noteCheapestAt, Cond.code yX0_noteCheapestAt cX0_noteCheapestAt 4 none, Cond.fieldLink RX0 60 "TelegraphPrices" "cheapestWords" "[I"]
def wsL_isJoinedInCheapest : List Cond := .codeWith yL_isJoinedInCheapest cL_isJoinedInCheapest 4 (some .int) [(0, 16, 19, 21)] :: ((wsL_isJoinedInCheapest_r1 ++ (wsL_isJoinedInCheapest_r2 ++ wsL_isJoinedInCheapest_r3)) ++ wsX00 ++ (vx_atS RX0 137 "java/lang/IndexOutOfBoundsException" ["java/lang/RuntimeException", "java/lang/Exception"]).filter goodWord)
def wsL_law0_r1 : List Cond := [Cond.classLink RL 8 RX0, Cond.instantiable RX0 18, Cond.initialized RX0, Cond.classLink RL 79 RX1, Cond.instantiable RX1 16, Cond.initialized RX1, Cond.arrayClass .long, Cond.methodLink RL 78 yX0_init, Cond.instanceMethod yX0_init, Cond.code yX0_init cX0_init 1 none, Cond.methodLink RX0 1 objectInit, Cond.instanceMethod objectInit, Cond.code objectInit ⟨#[0xb1]⟩ 1 none, Cond.arrayClass .int, Cond.fieldLink RX0 9 "TelegraphPrices" "letters" "[I", Cond.fieldLink RX0 13 "TelegraphPrices" "standIns" "[I", Cond.fieldLink RX0 16 "TelegraphPrices" "joins" "[I", Cond.fieldLink RX0 19 "TelegraphPrices" "words" "I", Cond.fieldLink RX0 23 "TelegraphPrices" "limit" "I", Cond.fieldLink RX0 26 "TelegraphPrices" "leastCount" "I", Cond.fieldLink RX0 29 "TelegraphPrices" "coins" "I", Cond.fieldLink RX0 32 "TelegraphPrices" "telegram" "[I", Cond.arrayClass .boolean, Cond.fieldLink RX0 35 "TelegraphPrices" "joined" "[Z"]
def wsL_law0_r2 : List Cond := [Cond.fieldLink RX0 39 "TelegraphPrices" "length" "I", Cond.fieldLink RX0 42 "TelegraphPrices" "sent" "I", Cond.fieldLink RX0 45 "TelegraphPrices" "earned" "I", Cond.fieldLink RX0 48 "TelegraphPrices" "leastAlone" "[I", Cond.fieldLink RX0 51 "TelegraphPrices" "leastJoined" "[I", Cond.fieldLink RX0 54 "TelegraphPrices" "leastTried" "[I", Cond.fieldLink RX0 57 "TelegraphPrices" "leastFrom" "[I", Cond.fieldLink RX0 60 "TelegraphPrices" "cheapestWords" "[I", Cond.fieldLink RX0 63 "TelegraphPrices" "cheapestJoined" "[Z", Cond.methodLink RL 81 yX1_init, Cond.instanceMethod yX1_init, Cond.code yX1_init cX1_init 1 none, Cond.methodLink RX1 1 objectInit, Cond.fieldLink RX1 7 "TelegraphPricesModel" "limit" "I", Cond.fieldLink RX1 13 "TelegraphPricesModel" "least" "I", Cond.fieldLink RX1 16 "TelegraphPricesModel" "coins" "I", Cond.fieldLink RX1 19 "TelegraphPricesModel" "letters" "[I", Cond.fieldLink RX1 23 "TelegraphPricesModel" "stand" "[I", Cond.fieldLink RX1 26 "TelegraphPricesModel" "join" "[I", Cond.fieldLink RX1 29 "TelegraphPricesModel" "word" "[I", Cond.fieldLink RX1 32 "TelegraphPricesModel" "joined" "[Z", Cond.fieldLink RX1 36 "TelegraphPricesModel" "from" "[I", Cond.fieldLink RX1 39 "TelegraphPricesModel" "cheap" "[I", Cond.fieldLink RX1 42 "TelegraphPricesModel" "with" "[Z"]
def wsL_law0_r3 : List Cond := [Cond.methodLink RL 82 yL_addWord, Cond.static yL_addWord, Cond.initialized RL, Cond.codeWith yL_addWord cL_addWord 4 (some .int) [(0, 9, 12, 13), (0, 9, 15, 15)], Cond.classLink RL 13 "java/lang/IllegalArgumentException", Cond.classLink RL 15 "java/lang/IllegalStateException", Cond.methodLink RL 7 yX0_addWord, Cond.instanceMethod yX0_addWord, Cond.selects RX0 yX0_addWord yX0_addWord, Cond.code yX0_addWord cX0_addWord 3 (some .int), Cond.classLink RX0 66 "java/lang/IllegalArgumentException", Cond.initialized "java/lang/IllegalArgumentException", Cond.classLink RX0 73 "java/lang/IllegalStateException", Cond.initialized "java/lang/IllegalStateException", Cond.methodLink RL 87 yX1_addWord, Cond.instanceMethod yX1_addWord, Cond.selects RX1 yX1_addWord yX1_addWord, Cond.code yX1_addWord cX1_addWord 2 (some .int), Cond.fieldLink RX1 45 "TelegraphPricesModel" "thrown" "I", Cond.fieldLink RX1 48 "TelegraphPricesModel" "words" "I", Cond.methodLink RX1 51 yX1_isIn, Cond.static yX1_isIn, Cond.code yX1_isIn cX1_isIn 3 (some .boolean), Cond.methodLink RX1 100 yX1_fail]
def wsL_law0_r4 : List Cond := [Cond.instanceMethod yX1_fail, Cond.selects RX1 yX1_fail yX1_fail, Cond.code yX1_fail cX1_fail 2 (some .int), Cond.methodLink RL 88 yX1_thrown, Cond.instanceMethod yX1_thrown, Cond.selects RX1 yX1_thrown yX1_thrown, Cond.code yX1_thrown cX1_thrown 1 (some .int), Cond.methodLink RL 92 yL_turnStandIn, Cond.static yL_turnStandIn, Cond.codeWith yL_turnStandIn cL_turnStandIn 5 (some .int) [(0, 17, 20, 21), (0, 17, 24, 13)], Cond.classLink RL 21 "java/lang/IndexOutOfBoundsException", Cond.methodLink RL 17 yX0_turnStandIn, Cond.instanceMethod yX0_turnStandIn, Cond.selects RX0 yX0_turnStandIn yX0_turnStandIn, Cond.code yX0_turnStandIn cX0_turnStandIn 3 (some .boolean), Cond.methodLink RX0 78 yX0_needWord, Cond.instanceMethod yX0_needWord, Cond.selects RX0 yX0_needWord yX0_needWord, Cond.code yX0_needWord cX0_needWord 2 none, Cond.classLink RX0 133 "java/lang/IndexOutOfBoundsException", Cond.initialized "java/lang/IndexOutOfBoundsException", Cond.methodLink RX0 84 yX0_hasBit, Cond.static yX0_hasBit, Cond.code yX0_hasBit cX0_hasBit 2 (some .boolean)]
def wsL_law0_r5 : List Cond := [Cond.methodLink RL 95 yX1_turnStandIn, Cond.instanceMethod yX1_turnStandIn, Cond.selects RX1 yX1_turnStandIn yX1_turnStandIn, Cond.code yX1_turnStandIn cX1_turnStandIn 3 (some .boolean), Cond.methodLink RX1 103 yX1_arePair, Cond.instanceMethod yX1_arePair, Cond.selects RX1 yX1_arePair yX1_arePair, Cond.code yX1_arePair cX1_arePair 3 (some .boolean), Cond.methodLink RX1 58 yX1_isWord, Cond.instanceMethod yX1_isWord, Cond.selects RX1 yX1_isWord yX1_isWord, Cond.code yX1_isWord cX1_isWord 2 (some .boolean), Cond.methodLink RX1 106 yX1_failed, Cond.instanceMethod yX1_failed, Cond.selects RX1 yX1_failed yX1_failed, Cond.code yX1_failed cX1_failed 2 (some .boolean), Cond.methodLink RX1 76 yX1_has, Cond.static yX1_has, Cond.code yX1_has cX1_has 2 (some .boolean), Cond.methodLink RL 96 yL_turnJoin, Cond.static yL_turnJoin, Cond.codeWith yL_turnJoin cL_turnJoin 5 (some .int) [(0, 17, 20, 21)], Cond.methodLink RL 23 yX0_turnJoin, Cond.instanceMethod yX0_turnJoin]
def wsL_law0_r6 : List Cond := [Cond.selects RX0 yX0_turnJoin yX0_turnJoin, Cond.code yX0_turnJoin cX0_turnJoin 3 (some .boolean), Cond.methodLink RL 98 yX1_turnJoin, Cond.instanceMethod yX1_turnJoin, Cond.selects RX1 yX1_turnJoin yX1_turnJoin, Cond.code yX1_turnJoin cX1_turnJoin 3 (some .boolean), Cond.methodLink RL 99 yL_setLimit, Cond.static yL_setLimit, Cond.codeWith yL_setLimit cL_setLimit 4 (some .int) [(0, 9, 12, 13)], Cond.methodLink RL 26 yX0_setLimit, Cond.instanceMethod yX0_setLimit, Cond.selects RX0 yX0_setLimit yX0_setLimit, Cond.code yX0_setLimit cX0_setLimit 3 (some .int), Cond.methodLink RL 101 yX1_setLimit, Cond.instanceMethod yX1_setLimit, Cond.selects RX1 yX1_setLimit yX1_setLimit, Cond.code yX1_setLimit cX1_setLimit 3 (some .int), Cond.methodLink RL 102 yL_setLeastCount, Cond.static yL_setLeastCount, Cond.codeWith yL_setLeastCount cL_setLeastCount 4 (some .int) [(0, 9, 12, 13)], Cond.methodLink RL 29 yX0_setLeastCount, Cond.instanceMethod yX0_setLeastCount, Cond.selects RX0 yX0_setLeastCount yX0_setLeastCount, Cond.code yX0_setLeastCount cX0_setLeastCount 3 (some .int)]
def wsL_law0_r7 : List Cond := [Cond.methodLink RL 104 yX1_setLeastCount, Cond.instanceMethod yX1_setLeastCount, Cond.selects RX1 yX1_setLeastCount yX1_setLeastCount, Cond.code yX1_setLeastCount cX1_setLeastCount 3 (some .int), Cond.methodLink RL 105 yL_setCoins, Cond.static yL_setCoins, Cond.codeWith yL_setCoins cL_setCoins 4 (some .int) [(0, 9, 12, 13)], Cond.methodLink RL 32 yX0_setCoins, Cond.instanceMethod yX0_setCoins, Cond.selects RX0 yX0_setCoins yX0_setCoins, Cond.code yX0_setCoins cX0_setCoins 3 (some .int), Cond.methodLink RL 107 yX1_setCoins, Cond.instanceMethod yX1_setCoins, Cond.selects RX1 yX1_setCoins yX1_setCoins, Cond.code yX1_setCoins cX1_setCoins 3 (some .int), Cond.methodLink RL 108 yL_write, Cond.static yL_write, Cond.codeWith yL_write cL_write 4 (some .int) [(0, 9, 12, 21), (0, 9, 15, 15)], Cond.methodLink RL 35 yX0_write, Cond.instanceMethod yX0_write, Cond.selects RX0 yX0_write yX0_write, Cond.code yX0_write cX0_write 2 (some .int), Cond.methodLink RL 110 yX1_write, Cond.instanceMethod yX1_write]
def wsL_law0_r8 : List Cond := [Cond.selects RX1 yX1_write yX1_write, Cond.code yX1_write cX1_write 2 (some .int), Cond.fieldLink RX1 55 "TelegraphPricesModel" "length" "I", Cond.methodLink RL 111 yL_strike, Cond.static yL_strike, Cond.codeWith yL_strike cL_strike 4 (some .int) [(0, 9, 12, 21)], Cond.methodLink RL 38 yX0_strike, Cond.instanceMethod yX0_strike, Cond.selects RX0 yX0_strike yX0_strike, Cond.code yX0_strike cX0_strike 3 (some .int), Cond.methodLink RX0 96 yX0_needPlace, Cond.instanceMethod yX0_needPlace, Cond.selects RX0 yX0_needPlace yX0_needPlace, Cond.code yX0_needPlace cX0_needPlace 2 none, Cond.methodLink RL 113 yX1_strike, Cond.instanceMethod yX1_strike, Cond.selects RX1 yX1_strike yX1_strike, Cond.code yX1_strike cX1_strike 3 (some .int), Cond.methodLink RX1 109 yX1_isPlace, Cond.instanceMethod yX1_isPlace, Cond.selects RX1 yX1_isPlace yX1_isPlace, Cond.code yX1_isPlace cX1_isPlace 2 (some .boolean), Cond.methodLink RL 114 yL_turnJoined, Cond.static yL_turnJoined]
def wsL_law0_r9 : List Cond := [Cond.codeWith yL_turnJoined cL_turnJoined 4 (some .int) [(0, 16, 19, 21), (0, 16, 22, 15)], Cond.methodLink RL 41 yX0_turnJoined, Cond.instanceMethod yX0_turnJoined, Cond.selects RX0 yX0_turnJoined yX0_turnJoined, Cond.code yX0_turnJoined cX0_turnJoined 2 (some .boolean), Cond.methodLink RX0 99 yX0_couldBeJoined, Cond.instanceMethod yX0_couldBeJoined, Cond.selects RX0 yX0_couldBeJoined yX0_couldBeJoined, Cond.code yX0_couldBeJoined cX0_couldBeJoined 3 (some .boolean), Cond.methodLink RL 116 yX1_turnJoined, Cond.instanceMethod yX1_turnJoined, Cond.selects RX1 yX1_turnJoined yX1_turnJoined, Cond.code yX1_turnJoined cX1_turnJoined 3 (some .boolean), Cond.methodLink RL 117 yX0_reword, Cond.instanceMethod yX0_reword, Cond.selects RX0 yX0_reword yX0_reword, Cond.code yX0_reword cX0_reword 3 (some .int), Cond.methodLink RX0 105 yX0_count, Cond.instanceMethod yX0_count, Cond.selects RX0 yX0_count yX0_count, Cond.code yX0_count cX0_count 3 (some .int), Cond.methodLink RX0 126 yX0_countOfPair, Cond.instanceMethod yX0_countOfPair, Cond.selects RX0 yX0_countOfPair yX0_countOfPair]
def wsL_law0_r10 : List Cond := [Cond.code yX0_countOfPair cX0_countOfPair 3 (some .int), Cond.methodLink RX0 118 yX0_countOfLetters, Cond.instanceMethod yX0_countOfLetters, Cond.selects RX0 yX0_countOfLetters yX0_countOfLetters, Cond.code yX0_countOfLetters cX0_countOfLetters 2 (some .int), Cond.methodLink RX0 130 yX0_atLeastTheLeastCount, Cond.instanceMethod yX0_atLeastTheLeastCount, Cond.selects RX0 yX0_atLeastTheLeastCount yX0_atLeastTheLeastCount, Cond.code yX0_atLeastTheLeastCount cX0_atLeastTheLeastCount 2 (some .int), Cond.methodLink RX0 175 Lib.Math.max.name, Cond.static Lib.Math.max.name, Cond.initialized "java/lang/Math", Cond.code Lib.Math.max.name Lib.Math.max.code 2 (some .int), Cond.methodLink RX0 109 yX0_noteCheapestWording, Cond.instanceMethod yX0_noteCheapestWording, Cond.selects RX0 yX0_noteCheapestWording yX0_noteCheapestWording, Cond.code yX0_noteCheapestWording cX0_noteCheapestWording 3 none, Cond.methodLink RX0 141 yX0_noteLeastCounts, Cond.instanceMethod yX0_noteLeastCounts, Cond.selects RX0 yX0_noteLeastCounts yX0_noteLeastCounts, Cond.code yX0_noteLeastCounts cX0_noteLeastCounts 3 none, Cond.constant RX0 151 (1000000), Cond.methodLink RX0 178 yX0_bestWordAt, Cond.instanceMethod yX0_bestWordAt]
def wsL_law0_r11 : List Cond := [Cond.selects RX0 yX0_bestWordAt yX0_bestWordAt, Cond.code yX0_bestWordAt cX0_bestWordAt 5 (some .int), Cond.methodLink RX0 184 yX0_mayHold, Cond.instanceMethod yX0_mayHold, Cond.selects RX0 yX0_mayHold yX0_mayHold, Cond.code yX0_mayHold cX0_mayHold 3 (some .boolean), Cond.methodLink RX0 181 yX0_bestPairAt, Cond.instanceMethod yX0_bestPairAt, Cond.selects RX0 yX0_bestPairAt yX0_bestPairAt, Cond.code yX0_bestPairAt cX0_bestPairAt 7 (some .int), Cond.methodLink RX0 144 yX0_leastInAll, Cond.instanceMethod yX0_leastInAll, Cond.selects RX0 yX0_leastInAll yX0_leastInAll, Cond.code yX0_leastInAll cX0_leastInAll 4 (some .int), Cond.methodLink RX0 152 Lib.Math.min.name, Cond.static Lib.Math.min.name, Cond.code Lib.Math.min.name Lib.Math.min.code 2 (some .int), Cond.methodLink RX0 187 yX0_noteCheapestAt, Cond.instanceMethod yX0_noteCheapestAt, Cond.selects RX0 yX0_noteCheapestAt yX0_noteCheapestAt, Cond.code yX0_noteCheapestAt cX0_noteCheapestAt 4 none, Cond.methodLink RL 120 yX1_reword, Cond.instanceMethod yX1_reword, Cond.selects RX1 yX1_reword yX1_reword]
def wsL_law0_r12 : List Cond := [Cond.code yX1_reword cX1_reword 2 (some .int), Cond.methodLink RX1 118 arraycopyName, Cond.native arraycopyName, Cond.static arraycopyName, Cond.initialized "java/lang/System", Cond.methodLink RX1 112 yX1_countNow, Cond.instanceMethod yX1_countNow, Cond.selects RX1 yX1_countNow yX1_countNow, Cond.code yX1_countNow cX1_countNow 4 (some .int), Cond.methodLink RX1 68 yX1_counts, Cond.instanceMethod yX1_counts, Cond.selects RX1 yX1_counts yX1_counts, Cond.code yX1_counts cX1_counts 2 (some .int), Cond.methodLink RX1 72 yX1_lifted, Cond.instanceMethod yX1_lifted, Cond.selects RX1 yX1_lifted yX1_lifted, Cond.code yX1_lifted cX1_lifted 2 (some .int), Cond.methodLink RX1 62 Lib.Math.max.name, Cond.methodLink RX1 115 yX1_choose, Cond.instanceMethod yX1_choose, Cond.selects RX1 yX1_choose yX1_choose, Cond.code yX1_choose cX1_choose 3 none, Cond.methodLink RX1 89 yX1_reckon, Cond.instanceMethod yX1_reckon]
def wsL_law0_r13 : List Cond := [Cond.selects RX1 yX1_reckon yX1_reckon, Cond.code yX1_reckon cX1_reckon 2 (some .int), Cond.methodLink RX1 80 Lib.Math.min.name, Cond.methodLink RX1 83 yX1_leastSingle, Cond.instanceMethod yX1_leastSingle, Cond.selects RX1 yX1_leastSingle yX1_leastSingle, Cond.code yX1_leastSingle cX1_leastSingle 4 (some .int), Cond.constant RX1 75 (1000000), Cond.methodLink RX1 86 yX1_leastPair, Cond.instanceMethod yX1_leastPair, Cond.selects RX1 yX1_leastPair yX1_leastPair, Cond.code yX1_leastPair cX1_leastPair 5 (some .int), Cond.methodLink RX1 93 yX1_single, Cond.instanceMethod yX1_single, Cond.selects RX1 yX1_single yX1_single, Cond.code yX1_single cX1_single 3 (some .int), Cond.methodLink RX1 96 yX1_pair, Cond.instanceMethod yX1_pair, Cond.selects RX1 yX1_pair yX1_pair, Cond.code yX1_pair cX1_pair 4 none, Cond.methodLink RL 121 yL_send, Cond.static yL_send, Cond.codeWith yL_send cL_send 4 (some .int) [(0, 9, 12, 21), (0, 9, 15, 15)], Cond.methodLink RL 45 yX0_send]
def wsL_law0_r14 : List Cond := [Cond.instanceMethod yX0_send, Cond.selects RX0 yX0_send yX0_send, Cond.code yX0_send cX0_send 3 (some .int), Cond.methodLink RX0 112 yX0_priceTo, Cond.instanceMethod yX0_priceTo, Cond.selects RX0 yX0_priceTo yX0_priceTo, Cond.code yX0_priceTo cX0_priceTo 2 (some .int), Cond.methodLink RX0 138 yX0_price, Cond.instanceMethod yX0_price, Cond.selects RX0 yX0_price yX0_price, Cond.code yX0_price cX0_price 1 (some .int), Cond.methodLink RL 123 yX1_send, Cond.instanceMethod yX1_send, Cond.selects RX1 yX1_send yX1_send, Cond.code yX1_send cX1_send 3 (some .int), Cond.fieldLink RX1 127 "TelegraphPricesModel" "sent" "I", Cond.fieldLink RX1 130 "TelegraphPricesModel" "earned" "I", Cond.methodLink RX1 124 yX1_costTo, Cond.instanceMethod yX1_costTo, Cond.selects RX1 yX1_costTo yX1_costTo, Cond.code yX1_costTo cX1_costTo 2 (some .int), Cond.methodLink RL 124 yX0_words, Cond.instanceMethod yX0_words, Cond.selects RX0 yX0_words yX0_words]
def wsL_law0_r15 : List Cond := [Cond.code yX0_words cX0_words 1 (some .int), Cond.methodLink RL 127 yX1_words, Cond.instanceMethod yX1_words, Cond.selects RX1 yX1_words yX1_words, Cond.code yX1_words cX1_words 1 (some .int), Cond.methodLink RX1 133 yX1_told, Cond.instanceMethod yX1_told, Cond.selects RX1 yX1_told yX1_told, Cond.code yX1_told cX1_told 2 (some .int), Cond.methodLink RL 128 yL_lettersOf, Cond.static yL_lettersOf, Cond.codeWith yL_lettersOf cL_lettersOf 4 (some .int) [(0, 9, 12, 21)], Cond.methodLink RL 48 yX0_lettersOf, Cond.instanceMethod yX0_lettersOf, Cond.selects RX0 yX0_lettersOf yX0_lettersOf, Cond.code yX0_lettersOf cX0_lettersOf 2 (some .int), Cond.methodLink RL 130 yX1_lettersOf, Cond.instanceMethod yX1_lettersOf, Cond.selects RX1 yX1_lettersOf yX1_lettersOf, Cond.code yX1_lettersOf cX1_lettersOf 2 (some .int), Cond.methodLink RL 131 yL_countOf, Cond.static yL_countOf, Cond.codeWith yL_countOf cL_countOf 4 (some .int) [(0, 9, 12, 21)], Cond.methodLink RL 51 yX0_countOf]
def wsL_law0_r16 : List Cond := [Cond.instanceMethod yX0_countOf, Cond.selects RX0 yX0_countOf yX0_countOf, Cond.code yX0_countOf cX0_countOf 2 (some .int), Cond.methodLink RL 133 yX1_countOf, Cond.instanceMethod yX1_countOf, Cond.selects RX1 yX1_countOf yX1_countOf, Cond.code yX1_countOf cX1_countOf 2 (some .int), Cond.methodLink RL 134 yL_mayStandFor, Cond.static yL_mayStandFor, Cond.codeWith yL_mayStandFor cL_mayStandFor 5 (some .int) [(0, 17, 20, 21)], Cond.methodLink RL 54 yX0_mayStandFor, Cond.instanceMethod yX0_mayStandFor, Cond.selects RX0 yX0_mayStandFor yX0_mayStandFor, Cond.code yX0_mayStandFor cX0_mayStandFor 3 (some .boolean), Cond.methodLink RL 136 yX1_mayStandFor, Cond.instanceMethod yX1_mayStandFor, Cond.selects RX1 yX1_mayStandFor yX1_mayStandFor, Cond.code yX1_mayStandFor cX1_mayStandFor 3 (some .boolean), Cond.methodLink RL 137 yL_mayJoin, Cond.static yL_mayJoin, Cond.codeWith yL_mayJoin cL_mayJoin 5 (some .int) [(0, 17, 20, 21)], Cond.methodLink RL 57 yX0_mayJoin, Cond.instanceMethod yX0_mayJoin, Cond.selects RX0 yX0_mayJoin yX0_mayJoin]
def wsL_law0_r17 : List Cond := [Cond.code yX0_mayJoin cX0_mayJoin 3 (some .boolean), Cond.methodLink RL 139 yX1_mayJoin, Cond.instanceMethod yX1_mayJoin, Cond.selects RX1 yX1_mayJoin yX1_mayJoin, Cond.code yX1_mayJoin cX1_mayJoin 3 (some .boolean), Cond.methodLink RL 140 yL_standInsOf, Cond.static yL_standInsOf, Cond.codeWith yL_standInsOf cL_standInsOf 4 (some .int) [(0, 9, 12, 21)], Cond.methodLink RL 60 yX0_standInsOf, Cond.instanceMethod yX0_standInsOf, Cond.selects RX0 yX0_standInsOf yX0_standInsOf, Cond.code yX0_standInsOf cX0_standInsOf 2 (some .int), Cond.methodLink RX0 121 yJ6_bitCount_0f7a4, Cond.static yJ6_bitCount_0f7a4, Cond.initialized RJ6, Cond.code yJ6_bitCount_0f7a4 cJ6_bitCount_0f7a4 1 (some .int), Cond.constant RJ6 265 (1431655765), Cond.constant RJ6 266 (858993459), Cond.constant RJ6 267 (252645135), Cond.methodLink RL 142 yX1_standInsOf, Cond.instanceMethod yX1_standInsOf, Cond.selects RX1 yX1_standInsOf yX1_standInsOf, Cond.code yX1_standInsOf cX1_standInsOf 2 (some .int), Cond.methodLink RX1 136 yX1_standIns]
def wsL_law0_r18 : List Cond := [Cond.instanceMethod yX1_standIns, Cond.selects RX1 yX1_standIns yX1_standIns, Cond.code yX1_standIns cX1_standIns 4 (some .int), Cond.methodLink RL 143 yX0_limit, Cond.instanceMethod yX0_limit, Cond.selects RX0 yX0_limit yX0_limit, Cond.code yX0_limit cX0_limit 1 (some .int), Cond.methodLink RL 146 yX1_limit, Cond.instanceMethod yX1_limit, Cond.selects RX1 yX1_limit yX1_limit, Cond.code yX1_limit cX1_limit 1 (some .int), Cond.methodLink RL 147 yX0_leastCount, Cond.instanceMethod yX0_leastCount, Cond.selects RX0 yX0_leastCount yX0_leastCount, Cond.code yX0_leastCount cX0_leastCount 1 (some .int), Cond.methodLink RL 150 yX1_leastCount, Cond.instanceMethod yX1_leastCount, Cond.selects RX1 yX1_leastCount yX1_leastCount, Cond.code yX1_leastCount cX1_leastCount 1 (some .int), Cond.methodLink RL 151 yX0_coins, Cond.instanceMethod yX0_coins, Cond.selects RX0 yX0_coins yX0_coins, Cond.code yX0_coins cX0_coins 1 (some .int), Cond.methodLink RL 154 yX1_coins]
def wsL_law0_r19 : List Cond := [Cond.instanceMethod yX1_coins, Cond.selects RX1 yX1_coins yX1_coins, Cond.code yX1_coins cX1_coins 1 (some .int), Cond.methodLink RL 155 yX0_length, Cond.instanceMethod yX0_length, Cond.selects RX0 yX0_length yX0_length, Cond.code yX0_length cX0_length 1 (some .int), Cond.methodLink RL 158 yX1_length, Cond.instanceMethod yX1_length, Cond.selects RX1 yX1_length yX1_length, Cond.code yX1_length cX1_length 1 (some .int), Cond.methodLink RL 159 yL_wordAt, Cond.static yL_wordAt, Cond.codeWith yL_wordAt cL_wordAt 4 (some .int) [(0, 9, 12, 21)], Cond.methodLink RL 63 yX0_wordAt, Cond.instanceMethod yX0_wordAt, Cond.selects RX0 yX0_wordAt yX0_wordAt, Cond.code yX0_wordAt cX0_wordAt 2 (some .int), Cond.methodLink RL 161 yX1_wordAt, Cond.instanceMethod yX1_wordAt, Cond.selects RX1 yX1_wordAt yX1_wordAt, Cond.code yX1_wordAt cX1_wordAt 2 (some .int), Cond.methodLink RL 162 yL_isJoined, Cond.static yL_isJoined]
def wsL_law0_r20 : List Cond := [Cond.codeWith yL_isJoined cL_isJoined 4 (some .int) [(0, 16, 19, 21)], Cond.methodLink RL 66 yX0_isJoined, Cond.instanceMethod yX0_isJoined, Cond.selects RX0 yX0_isJoined yX0_isJoined, Cond.code yX0_isJoined cX0_isJoined 2 (some .boolean), Cond.methodLink RL 164 yX1_isJoined, Cond.instanceMethod yX1_isJoined, Cond.selects RX1 yX1_isJoined yX1_isJoined, Cond.code yX1_isJoined cX1_isJoined 2 (some .boolean), Cond.methodLink RL 165 yX0_count, Cond.methodLink RL 168 yX1_count, Cond.instanceMethod yX1_count, Cond.selects RX1 yX1_count yX1_count, Cond.code yX1_count cX1_count 1 (some .int), Cond.methodLink RL 169 yX0_price, Cond.methodLink RL 172 yX1_price, Cond.instanceMethod yX1_price, Cond.selects RX1 yX1_price yX1_price, Cond.code yX1_price cX1_price 1 (some .int), Cond.methodLink RL 173 yL_priceTo, Cond.static yL_priceTo, Cond.codeWith yL_priceTo cL_priceTo 4 (some .int) [(0, 9, 12, 21)], Cond.methodLink RL 69 yX0_priceTo, Cond.methodLink RL 175 yX1_priceTo]
def wsL_law0_r21 : List Cond := [Cond.instanceMethod yX1_priceTo, Cond.selects RX1 yX1_priceTo yX1_priceTo, Cond.code yX1_priceTo cX1_priceTo 2 (some .int), Cond.methodLink RL 176 yX0_sent, Cond.instanceMethod yX0_sent, Cond.selects RX0 yX0_sent yX0_sent, Cond.code yX0_sent cX0_sent 1 (some .int), Cond.methodLink RL 179 yX1_sent, Cond.instanceMethod yX1_sent, Cond.selects RX1 yX1_sent yX1_sent, Cond.code yX1_sent cX1_sent 1 (some .int), Cond.methodLink RL 180 yX0_earned, Cond.instanceMethod yX0_earned, Cond.selects RX0 yX0_earned yX0_earned, Cond.code yX0_earned cX0_earned 1 (some .int), Cond.methodLink RL 183 yX1_earned, Cond.instanceMethod yX1_earned, Cond.selects RX1 yX1_earned yX1_earned, Cond.code yX1_earned cX1_earned 1 (some .int), Cond.methodLink RL 184 yX0_cheapestCount, Cond.instanceMethod yX0_cheapestCount, Cond.selects RX0 yX0_cheapestCount yX0_cheapestCount, Cond.code yX0_cheapestCount cX0_cheapestCount 1 (some .int), Cond.methodLink RL 187 yX1_cheapestCount]
def wsL_law0_r22 : List Cond := [Cond.instanceMethod yX1_cheapestCount, Cond.selects RX1 yX1_cheapestCount yX1_cheapestCount, Cond.code yX1_cheapestCount cX1_cheapestCount 1 (some .int), Cond.methodLink RL 188 yL_cheapestWordAt, Cond.static yL_cheapestWordAt, Cond.codeWith yL_cheapestWordAt cL_cheapestWordAt 4 (some .int) [(0, 9, 12, 21)], Cond.methodLink RL 72 yX0_cheapestWordAt, Cond.instanceMethod yX0_cheapestWordAt, Cond.selects RX0 yX0_cheapestWordAt yX0_cheapestWordAt, Cond.code yX0_cheapestWordAt cX0_cheapestWordAt 2 (some .int), Cond.methodLink RL 190 yX1_cheapestWordAt, Cond.instanceMethod yX1_cheapestWordAt, Cond.selects RX1 yX1_cheapestWordAt yX1_cheapestWordAt, Cond.code yX1_cheapestWordAt cX1_cheapestWordAt 2 (some .int), Cond.methodLink RL 191 yL_isJoinedInCheapest, Cond.static yL_isJoinedInCheapest, Cond.codeWith yL_isJoinedInCheapest cL_isJoinedInCheapest 4 (some .int) [(0, 16, 19, 21)], Cond.methodLink RL 75 yX0_isJoinedInCheapest, Cond.instanceMethod yX0_isJoinedInCheapest, Cond.selects RX0 yX0_isJoinedInCheapest yX0_isJoinedInCheapest, Cond.code yX0_isJoinedInCheapest cX0_isJoinedInCheapest 2 (some .boolean), Cond.methodLink RL 193 yX1_isJoinedInCheapest, Cond.instanceMethod yX1_isJoinedInCheapest, Cond.selects RX1 yX1_isJoinedInCheapest yX1_isJoinedInCheapest]
def wsL_law0_r23 : List Cond := [Cond.code yX1_isJoinedInCheapest cX1_isJoinedInCheapest 2 (some .boolean), Cond.methodLink RL 194 yX0_saves, Cond.instanceMethod yX0_saves, Cond.selects RX0 yX0_saves yX0_saves, Cond.code yX0_saves cX0_saves 1 (some .int), Cond.methodLink RX0 148 yX0_cheapestCount, Cond.methodLink RL 197 yX1_saves, Cond.instanceMethod yX1_saves, Cond.selects RX1 yX1_saves yX1_saves, Cond.code yX1_saves cX1_saves 1 (some .int), Cond.methodLink RL 198 yX0_wordings, Cond.instanceMethod yX0_wordings, Cond.selects RX0 yX0_wordings yX0_wordings, Cond.code yX0_wordings cX0_wordings 3 (some .int), Cond.methodLink RL 201 yX1_wordings, Cond.instanceMethod yX1_wordings, Cond.selects RX1 yX1_wordings yX1_wordings, Cond.code yX1_wordings cX1_wordings 3 (some .int), Cond.methodLink RL 202 yX0_bestJoin, Cond.instanceMethod yX0_bestJoin, Cond.selects RX0 yX0_bestJoin yX0_bestJoin, Cond.code yX0_bestJoin cX0_bestJoin 6 (some .int), Cond.methodLink RX0 157 yX0_cheapestCountWithJoin, Cond.instanceMethod yX0_cheapestCountWithJoin]
def wsL_law0_r24 : List Cond := [Cond.selects RX0 yX0_cheapestCountWithJoin yX0_cheapestCountWithJoin, Cond.code yX0_cheapestCountWithJoin cX0_cheapestCountWithJoin 6 (some .int), Cond.methodLink RL 205 yX1_bestJoin, Cond.instanceMethod yX1_bestJoin, Cond.selects RX1 yX1_bestJoin yX1_bestJoin, Cond.code yX1_bestJoin cX1_bestJoin 6 (some .int), Cond.methodLink RL 206 yX0_meanCost, Cond.instanceMethod yX0_meanCost, Cond.selects RX0 yX0_meanCost yX0_meanCost, Cond.code yX0_meanCost cX0_meanCost 1 (some .double), Cond.methodLink RL 210 yX1_meanCost, Cond.instanceMethod yX1_meanCost, Cond.selects RX1 yX1_meanCost yX1_meanCost, Cond.code yX1_meanCost cX1_meanCost 1 (some .double), Cond.methodLink RL 211 yX0_digest, Cond.instanceMethod yX0_digest, Cond.selects RX0 yX0_digest yX0_digest, Cond.code yX0_digest cX0_digest 3 (some .long), Cond.constantLong RX0 160 (1913), Cond.constantLong RX0 162 (31), Cond.methodLink RX0 164 yX0_digestOfWords, Cond.instanceMethod yX0_digestOfWords, Cond.selects RX0 yX0_digestOfWords yX0_digestOfWords, Cond.code yX0_digestOfWords cX0_digestOfWords 6 (some .long)]
def wsL_law0_r25 : List Cond := [Cond.methodLink RX0 191 yX0_countOf, Cond.methodLink RX0 194 yX0_standInsOf, Cond.methodLink RX0 168 yX0_digestOfPlaces, Cond.instanceMethod yX0_digestOfPlaces, Cond.selects RX0 yX0_digestOfPlaces yX0_digestOfPlaces, Cond.code yX0_digestOfPlaces cX0_digestOfPlaces 6 (some .long), Cond.methodLink RL 215 yX1_digest, Cond.instanceMethod yX1_digest, Cond.selects RX1 yX1_digest yX1_digest, Cond.code yX1_digest cX1_digest 8 (some .long), Cond.constantLong RX1 139 (1913), Cond.constantLong RX1 141 (31)]
def wsL_law0 : List Cond := (wsL_law0_r1 ++ (wsL_law0_r2 ++ (wsL_law0_r3 ++ (wsL_law0_r4 ++ (wsL_law0_r5 ++ (wsL_law0_r6 ++ (wsL_law0_r7 ++ (wsL_law0_r8 ++ (wsL_law0_r9 ++ (wsL_law0_r10 ++ (wsL_law0_r11 ++ (wsL_law0_r12 ++ (wsL_law0_r13 ++ (wsL_law0_r14 ++ (wsL_law0_r15 ++ (wsL_law0_r16 ++ (wsL_law0_r17 ++ (wsL_law0_r18 ++ (wsL_law0_r19 ++ (wsL_law0_r20 ++ (wsL_law0_r21 ++ (wsL_law0_r22 ++ (wsL_law0_r23 ++ (wsL_law0_r24 ++ wsL_law0_r25)))))))))))))))))))))))) ++ wsX00 ++ wsX10 ++ ([] : List Cond)
def wsL_law : List Cond := wsL_law0 ++ (vx_atS RX0 70 "java/lang/IllegalArgumentException" ["java/lang/RuntimeException", "java/lang/Exception"]).filter goodWord ++ (vx_atS RX0 77 "java/lang/IllegalStateException" ["java/lang/RuntimeException", "java/lang/Exception"]).filter goodWord ++ (vx_atS RX0 137 "java/lang/IndexOutOfBoundsException" ["java/lang/RuntimeException", "java/lang/Exception"]).filter goodWord
end
section
theorem dX0_init_0 : decode cX0_init 0 = .ok (.aload_n 0, 1) := by decide +kernel
theorem dX0_init_1 : decode cX0_init 1 = .ok (.invokespecial 1, 3) := by decide +kernel
theorem dX0_init_4 : decode cX0_init 4 = .ok (.aload_n 0, 1) := by decide +kernel
theorem dX0_init_5 : decode cX0_init 5 = .ok (.bipush 12, 2) := by decide +kernel
theorem dX0_init_7 : decode cX0_init 7 = .ok (.newarray .int, 2) := by decide +kernel
theorem dX0_init_9 : decode cX0_init 9 = .ok (.putfield 9, 3) := by decide +kernel
theorem dX0_init_12 : decode cX0_init 12 = .ok (.aload_n 0, 1) := by decide +kernel
theorem dX0_init_13 : decode cX0_init 13 = .ok (.bipush 12, 2) := by decide +kernel
theorem dX0_init_15 : decode cX0_init 15 = .ok (.newarray .int, 2) := by decide +kernel
theorem dX0_init_17 : decode cX0_init 17 = .ok (.putfield 13, 3) := by decide +kernel
theorem dX0_init_20 : decode cX0_init 20 = .ok (.aload_n 0, 1) := by decide +kernel
theorem dX0_init_21 : decode cX0_init 21 = .ok (.bipush 12, 2) := by decide +kernel
theorem dX0_init_23 : decode cX0_init 23 = .ok (.newarray .int, 2) := by decide +kernel
theorem dX0_init_25 : decode cX0_init 25 = .ok (.putfield 16, 3) := by decide +kernel
theorem dX0_init_28 : decode cX0_init 28 = .ok (.aload_n 0, 1) := by decide +kernel
theorem dX0_init_29 : decode cX0_init 29 = .ok (.iconst 0, 1) := by decide +kernel
theorem dX0_init_30 : decode cX0_init 30 = .ok (.putfield 19, 3) := by decide +kernel
theorem dX0_init_33 : decode cX0_init 33 = .ok (.aload_n 0, 1) := by decide +kernel
theorem dX0_init_34 : decode cX0_init 34 = .ok (.bipush 10, 2) := by decide +kernel
theorem dX0_init_36 : decode cX0_init 36 = .ok (.putfield 23, 3) := by decide +kernel
theorem dX0_init_39 : decode cX0_init 39 = .ok (.aload_n 0, 1) := by decide +kernel
theorem dX0_init_40 : decode cX0_init 40 = .ok (.iconst 5, 1) := by decide +kernel
theorem dX0_init_41 : decode cX0_init 41 = .ok (.putfield 26, 3) := by decide +kernel
theorem dX0_init_44 : decode cX0_init 44 = .ok (.aload_n 0, 1) := by decide +kernel
theorem dX0_init_45 : decode cX0_init 45 = .ok (.iconst 2, 1) := by decide +kernel
theorem dX0_init_46 : decode cX0_init 46 = .ok (.putfield 29, 3) := by decide +kernel
theorem dX0_init_49 : decode cX0_init 49 = .ok (.aload_n 0, 1) := by decide +kernel
theorem dX0_init_50 : decode cX0_init 50 = .ok (.bipush 16, 2) := by decide +kernel
theorem dX0_init_52 : decode cX0_init 52 = .ok (.newarray .int, 2) := by decide +kernel
theorem dX0_init_54 : decode cX0_init 54 = .ok (.putfield 32, 3) := by decide +kernel
theorem dX0_init_57 : decode cX0_init 57 = .ok (.aload_n 0, 1) := by decide +kernel
theorem dX0_init_58 : decode cX0_init 58 = .ok (.bipush 16, 2) := by decide +kernel
theorem dX0_init_60 : decode cX0_init 60 = .ok (.newarray .boolean, 2) := by decide +kernel
theorem dX0_init_62 : decode cX0_init 62 = .ok (.putfield 35, 3) := by decide +kernel
theorem dX0_init_65 : decode cX0_init 65 = .ok (.aload_n 0, 1) := by decide +kernel
theorem dX0_init_66 : decode cX0_init 66 = .ok (.iconst 0, 1) := by decide +kernel
theorem dX0_init_67 : decode cX0_init 67 = .ok (.putfield 39, 3) := by decide +kernel
theorem dX0_init_70 : decode cX0_init 70 = .ok (.aload_n 0, 1) := by decide +kernel
theorem dX0_init_71 : decode cX0_init 71 = .ok (.iconst 0, 1) := by decide +kernel
theorem dX0_init_72 : decode cX0_init 72 = .ok (.putfield 42, 3) := by decide +kernel
theorem dX0_init_75 : decode cX0_init 75 = .ok (.aload_n 0, 1) := by decide +kernel
theorem dX0_init_76 : decode cX0_init 76 = .ok (.iconst 0, 1) := by decide +kernel
theorem dX0_init_77 : decode cX0_init 77 = .ok (.putfield 45, 3) := by decide +kernel
theorem dX0_init_80 : decode cX0_init 80 = .ok (.aload_n 0, 1) := by decide +kernel
theorem dX0_init_81 : decode cX0_init 81 = .ok (.bipush 16, 2) := by decide +kernel
theorem dX0_init_83 : decode cX0_init 83 = .ok (.newarray .int, 2) := by decide +kernel
theorem dX0_init_85 : decode cX0_init 85 = .ok (.putfield 48, 3) := by decide +kernel
theorem dX0_init_88 : decode cX0_init 88 = .ok (.aload_n 0, 1) := by decide +kernel
theorem dX0_init_89 : decode cX0_init 89 = .ok (.bipush 16, 2) := by decide +kernel
theorem dX0_init_91 : decode cX0_init 91 = .ok (.newarray .int, 2) := by decide +kernel
theorem dX0_init_93 : decode cX0_init 93 = .ok (.putfield 51, 3) := by decide +kernel
theorem dX0_init_96 : decode cX0_init 96 = .ok (.aload_n 0, 1) := by decide +kernel
theorem dX0_init_97 : decode cX0_init 97 = .ok (.bipush 16, 2) := by decide +kernel
theorem dX0_init_99 : decode cX0_init 99 = .ok (.newarray .int, 2) := by decide +kernel
theorem dX0_init_101 : decode cX0_init 101 = .ok (.putfield 54, 3) := by decide +kernel
theorem dX0_init_104 : decode cX0_init 104 = .ok (.aload_n 0, 1) := by decide +kernel
theorem dX0_init_105 : decode cX0_init 105 = .ok (.bipush 18, 2) := by decide +kernel
theorem dX0_init_107 : decode cX0_init 107 = .ok (.newarray .int, 2) := by decide +kernel
theorem dX0_init_109 : decode cX0_init 109 = .ok (.putfield 57, 3) := by decide +kernel
theorem dX0_init_112 : decode cX0_init 112 = .ok (.aload_n 0, 1) := by decide +kernel
theorem dX0_init_113 : decode cX0_init 113 = .ok (.bipush 16, 2) := by decide +kernel
theorem dX0_init_115 : decode cX0_init 115 = .ok (.newarray .int, 2) := by decide +kernel
theorem dX0_init_117 : decode cX0_init 117 = .ok (.putfield 60, 3) := by decide +kernel
theorem dX0_init_120 : decode cX0_init 120 = .ok (.aload_n 0, 1) := by decide +kernel
theorem dX0_init_121 : decode cX0_init 121 = .ok (.bipush 16, 2) := by decide +kernel
theorem dX0_init_123 : decode cX0_init 123 = .ok (.newarray .boolean, 2) := by decide +kernel
theorem dX0_init_125 : decode cX0_init 125 = .ok (.putfield 63, 3) := by decide +kernel
theorem dX0_init_128 : decode cX0_init 128 = .ok (.return_, 1) := by decide +kernel
theorem dX0_addWord_0 : decode cX0_addWord 0 = .ok (.iload_n 1, 1) := by decide +kernel
theorem dX0_addWord_1 : decode cX0_addWord 1 = .ok (.iconst 1, 1) := by decide +kernel
theorem dX0_addWord_2 : decode cX0_addWord 2 = .ok (.if_icmp .lt 9, 3) := by decide +kernel
theorem dX0_addWord_5 : decode cX0_addWord 5 = .ok (.iload_n 1, 1) := by decide +kernel
theorem dX0_addWord_6 : decode cX0_addWord 6 = .ok (.bipush 30, 2) := by decide +kernel
theorem dX0_addWord_8 : decode cX0_addWord 8 = .ok (.if_icmp .le 13, 3) := by decide +kernel
theorem dX0_addWord_11 : decode cX0_addWord 11 = .ok (.new 66, 3) := by decide +kernel
theorem dX0_addWord_14 : decode cX0_addWord 14 = .ok (.dup, 1) := by decide +kernel
theorem dX0_addWord_15 : decode cX0_addWord 15 = .ok (.ldc 68, 2) := by decide +kernel
theorem dX0_addWord_17 : decode cX0_addWord 17 = .ok (.invokespecial 70, 3) := by decide +kernel
theorem dX0_addWord_20 : decode cX0_addWord 20 = .ok (.athrow, 1) := by decide +kernel
theorem dX0_addWord_21 : decode cX0_addWord 21 = .ok (.aload_n 0, 1) := by decide +kernel
theorem dX0_addWord_22 : decode cX0_addWord 22 = .ok (.getfield 19, 3) := by decide +kernel
theorem dX0_addWord_25 : decode cX0_addWord 25 = .ok (.bipush 12, 2) := by decide +kernel
theorem dX0_addWord_27 : decode cX0_addWord 27 = .ok (.if_icmp .lt 13, 3) := by decide +kernel
theorem dX0_addWord_30 : decode cX0_addWord 30 = .ok (.new 73, 3) := by decide +kernel
theorem dX0_addWord_33 : decode cX0_addWord 33 = .ok (.dup, 1) := by decide +kernel
theorem dX0_addWord_34 : decode cX0_addWord 34 = .ok (.ldc 75, 2) := by decide +kernel
theorem dX0_addWord_36 : decode cX0_addWord 36 = .ok (.invokespecial 77, 3) := by decide +kernel
theorem dX0_addWord_39 : decode cX0_addWord 39 = .ok (.athrow, 1) := by decide +kernel
theorem dX0_addWord_40 : decode cX0_addWord 40 = .ok (.aload_n 0, 1) := by decide +kernel
theorem dX0_addWord_41 : decode cX0_addWord 41 = .ok (.getfield 19, 3) := by decide +kernel
theorem dX0_addWord_44 : decode cX0_addWord 44 = .ok (.istore_n 2, 1) := by decide +kernel
theorem dX0_addWord_45 : decode cX0_addWord 45 = .ok (.aload_n 0, 1) := by decide +kernel
theorem dX0_addWord_46 : decode cX0_addWord 46 = .ok (.getfield 9, 3) := by decide +kernel
theorem dX0_addWord_49 : decode cX0_addWord 49 = .ok (.iload_n 2, 1) := by decide +kernel
theorem dX0_addWord_50 : decode cX0_addWord 50 = .ok (.iload_n 1, 1) := by decide +kernel
theorem dX0_addWord_51 : decode cX0_addWord 51 = .ok (.iastore, 1) := by decide +kernel
theorem dX0_addWord_52 : decode cX0_addWord 52 = .ok (.aload_n 0, 1) := by decide +kernel
theorem dX0_addWord_53 : decode cX0_addWord 53 = .ok (.getfield 13, 3) := by decide +kernel
theorem dX0_addWord_56 : decode cX0_addWord 56 = .ok (.iload_n 2, 1) := by decide +kernel
theorem dX0_addWord_57 : decode cX0_addWord 57 = .ok (.iconst 1, 1) := by decide +kernel
theorem dX0_addWord_58 : decode cX0_addWord 58 = .ok (.iload_n 2, 1) := by decide +kernel
theorem dX0_addWord_59 : decode cX0_addWord 59 = .ok (.ishl, 1) := by decide +kernel
theorem dX0_addWord_60 : decode cX0_addWord 60 = .ok (.iastore, 1) := by decide +kernel
theorem dX0_addWord_61 : decode cX0_addWord 61 = .ok (.aload_n 0, 1) := by decide +kernel
theorem dX0_addWord_62 : decode cX0_addWord 62 = .ok (.getfield 16, 3) := by decide +kernel
theorem dX0_addWord_65 : decode cX0_addWord 65 = .ok (.iload_n 2, 1) := by decide +kernel
theorem dX0_addWord_66 : decode cX0_addWord 66 = .ok (.iconst 0, 1) := by decide +kernel
theorem dX0_addWord_67 : decode cX0_addWord 67 = .ok (.iastore, 1) := by decide +kernel
theorem dX0_addWord_68 : decode cX0_addWord 68 = .ok (.aload_n 0, 1) := by decide +kernel
theorem dX0_addWord_69 : decode cX0_addWord 69 = .ok (.dup, 1) := by decide +kernel
theorem dX0_addWord_70 : decode cX0_addWord 70 = .ok (.getfield 19, 3) := by decide +kernel
theorem dX0_addWord_73 : decode cX0_addWord 73 = .ok (.iconst 1, 1) := by decide +kernel
theorem dX0_addWord_74 : decode cX0_addWord 74 = .ok (.iadd, 1) := by decide +kernel
theorem dX0_addWord_75 : decode cX0_addWord 75 = .ok (.putfield 19, 3) := by decide +kernel
theorem dX0_addWord_78 : decode cX0_addWord 78 = .ok (.iload_n 2, 1) := by decide +kernel
theorem dX0_addWord_79 : decode cX0_addWord 79 = .ok (.ireturn, 1) := by decide +kernel
set_option maxRecDepth 20000 in
theorem ggX0_turnStandIn_X0_needWord : GoodIn wsX0_turnStandIn wsX0_needWord := goodIn_ca (goodIn_r _ [8, 9, 10, 11, 15, 16, 17, 18, 19, 20, 21, 22, 23, 24, 25, 26, 27, 28, 29, 30, 31, 32] (by decide +kernel) (by decide +kernel)) (goodIn_sub (fun _ h => List.mem_cons_of_mem _ (List.mem_append_right _ h)) (by decide +kernel))
set_option maxRecDepth 20000 in
theorem gX0_turnStandIn_X0_needWord : GoodIn wsX0_turnStandIn (wsV RX0 78 RX0 yX0_needWord wsX0_needWord) := goodIn_app (goodIn_of _ (by decide +kernel)) ggX0_turnStandIn_X0_needWord
set_option maxRecDepth 20000 in
theorem ggX0_turnStandIn_X0_hasBit : GoodIn wsX0_turnStandIn wsX0_hasBit := goodIn_r _ [14] (by decide +kernel) (by decide +kernel)
set_option maxRecDepth 20000 in
theorem gX0_turnStandIn_X0_hasBit : GoodIn wsX0_turnStandIn (va_wsS RX0 84 yX0_hasBit wsX0_hasBit) := goodIn_app (goodIn_of _ (by decide +kernel)) ggX0_turnStandIn_X0_hasBit
theorem dX0_turnStandIn_0 : decode cX0_turnStandIn 0 = .ok (.aload_n 0, 1) := by decide +kernel
theorem dX0_turnStandIn_1 : decode cX0_turnStandIn 1 = .ok (.iload_n 1, 1) := by decide +kernel
theorem dX0_turnStandIn_2 : decode cX0_turnStandIn 2 = .ok (.invokevirtual 78, 3) := by decide +kernel
theorem dX0_turnStandIn_5 : decode cX0_turnStandIn 5 = .ok (.aload_n 0, 1) := by decide +kernel
theorem dX0_turnStandIn_6 : decode cX0_turnStandIn 6 = .ok (.iload_n 2, 1) := by decide +kernel
theorem dX0_turnStandIn_7 : decode cX0_turnStandIn 7 = .ok (.invokevirtual 78, 3) := by decide +kernel
theorem dX0_turnStandIn_10 : decode cX0_turnStandIn 10 = .ok (.iload_n 1, 1) := by decide +kernel
theorem dX0_turnStandIn_11 : decode cX0_turnStandIn 11 = .ok (.iload_n 2, 1) := by decide +kernel
theorem dX0_turnStandIn_12 : decode cX0_turnStandIn 12 = .ok (.if_icmp .ne 13, 3) := by decide +kernel
theorem dX0_turnStandIn_15 : decode cX0_turnStandIn 15 = .ok (.new 66, 3) := by decide +kernel
theorem dX0_turnStandIn_18 : decode cX0_turnStandIn 18 = .ok (.dup, 1) := by decide +kernel
theorem dX0_turnStandIn_19 : decode cX0_turnStandIn 19 = .ok (.ldc 82, 2) := by decide +kernel
theorem dX0_turnStandIn_21 : decode cX0_turnStandIn 21 = .ok (.invokespecial 70, 3) := by decide +kernel
theorem dX0_turnStandIn_24 : decode cX0_turnStandIn 24 = .ok (.athrow, 1) := by decide +kernel
theorem dX0_turnStandIn_25 : decode cX0_turnStandIn 25 = .ok (.aload_n 0, 1) := by decide +kernel
theorem dX0_turnStandIn_26 : decode cX0_turnStandIn 26 = .ok (.getfield 13, 3) := by decide +kernel
theorem dX0_turnStandIn_29 : decode cX0_turnStandIn 29 = .ok (.iload_n 1, 1) := by decide +kernel
theorem dX0_turnStandIn_30 : decode cX0_turnStandIn 30 = .ok (.dup2, 1) := by decide +kernel
theorem dX0_turnStandIn_31 : decode cX0_turnStandIn 31 = .ok (.iaload, 1) := by decide +kernel
theorem dX0_turnStandIn_32 : decode cX0_turnStandIn 32 = .ok (.iconst 1, 1) := by decide +kernel
theorem dX0_turnStandIn_33 : decode cX0_turnStandIn 33 = .ok (.iload_n 2, 1) := by decide +kernel
theorem dX0_turnStandIn_34 : decode cX0_turnStandIn 34 = .ok (.ishl, 1) := by decide +kernel
theorem dX0_turnStandIn_35 : decode cX0_turnStandIn 35 = .ok (.ixor, 1) := by decide +kernel
theorem dX0_turnStandIn_36 : decode cX0_turnStandIn 36 = .ok (.iastore, 1) := by decide +kernel
theorem dX0_turnStandIn_37 : decode cX0_turnStandIn 37 = .ok (.aload_n 0, 1) := by decide +kernel
theorem dX0_turnStandIn_38 : decode cX0_turnStandIn 38 = .ok (.getfield 13, 3) := by decide +kernel
theorem dX0_turnStandIn_41 : decode cX0_turnStandIn 41 = .ok (.iload_n 1, 1) := by decide +kernel
theorem dX0_turnStandIn_42 : decode cX0_turnStandIn 42 = .ok (.iaload, 1) := by decide +kernel
theorem dX0_turnStandIn_43 : decode cX0_turnStandIn 43 = .ok (.iload_n 2, 1) := by decide +kernel
theorem dX0_turnStandIn_44 : decode cX0_turnStandIn 44 = .ok (.invokestatic 84, 3) := by decide +kernel
theorem dX0_turnStandIn_47 : decode cX0_turnStandIn 47 = .ok (.ireturn, 1) := by decide +kernel
set_option maxRecDepth 20000 in
theorem ggX0_turnJoin_X0_needWord : GoodIn wsX0_turnJoin wsX0_needWord := goodIn_ca (goodIn_r _ [6, 7, 8, 9, 13, 14, 15, 16, 17, 18, 19, 20, 21, 22, 23, 24, 25, 26, 27, 28, 29, 30] (by decide +kernel) (by decide +kernel)) (goodIn_sub (fun _ h => List.mem_cons_of_mem _ (List.mem_append_right _ h)) (by decide +kernel))
set_option maxRecDepth 20000 in
theorem gX0_turnJoin_X0_needWord : GoodIn wsX0_turnJoin (wsV RX0 78 RX0 yX0_needWord wsX0_needWord) := goodIn_app (goodIn_of _ (by decide +kernel)) ggX0_turnJoin_X0_needWord
set_option maxRecDepth 20000 in
theorem ggX0_turnJoin_X0_hasBit : GoodIn wsX0_turnJoin wsX0_hasBit := goodIn_r _ [12] (by decide +kernel) (by decide +kernel)
set_option maxRecDepth 20000 in
theorem gX0_turnJoin_X0_hasBit : GoodIn wsX0_turnJoin (va_wsS RX0 84 yX0_hasBit wsX0_hasBit) := goodIn_app (goodIn_of _ (by decide +kernel)) ggX0_turnJoin_X0_hasBit
theorem dX0_turnJoin_0 : decode cX0_turnJoin 0 = .ok (.aload_n 0, 1) := by decide +kernel
theorem dX0_turnJoin_1 : decode cX0_turnJoin 1 = .ok (.iload_n 1, 1) := by decide +kernel
theorem dX0_turnJoin_2 : decode cX0_turnJoin 2 = .ok (.invokevirtual 78, 3) := by decide +kernel
theorem dX0_turnJoin_5 : decode cX0_turnJoin 5 = .ok (.aload_n 0, 1) := by decide +kernel
theorem dX0_turnJoin_6 : decode cX0_turnJoin 6 = .ok (.iload_n 2, 1) := by decide +kernel
theorem dX0_turnJoin_7 : decode cX0_turnJoin 7 = .ok (.invokevirtual 78, 3) := by decide +kernel
theorem dX0_turnJoin_10 : decode cX0_turnJoin 10 = .ok (.aload_n 0, 1) := by decide +kernel
theorem dX0_turnJoin_11 : decode cX0_turnJoin 11 = .ok (.getfield 16, 3) := by decide +kernel
theorem dX0_turnJoin_14 : decode cX0_turnJoin 14 = .ok (.iload_n 1, 1) := by decide +kernel
theorem dX0_turnJoin_15 : decode cX0_turnJoin 15 = .ok (.dup2, 1) := by decide +kernel
theorem dX0_turnJoin_16 : decode cX0_turnJoin 16 = .ok (.iaload, 1) := by decide +kernel
theorem dX0_turnJoin_17 : decode cX0_turnJoin 17 = .ok (.iconst 1, 1) := by decide +kernel
theorem dX0_turnJoin_18 : decode cX0_turnJoin 18 = .ok (.iload_n 2, 1) := by decide +kernel
theorem dX0_turnJoin_19 : decode cX0_turnJoin 19 = .ok (.ishl, 1) := by decide +kernel
theorem dX0_turnJoin_20 : decode cX0_turnJoin 20 = .ok (.ixor, 1) := by decide +kernel
theorem dX0_turnJoin_21 : decode cX0_turnJoin 21 = .ok (.iastore, 1) := by decide +kernel
theorem dX0_turnJoin_22 : decode cX0_turnJoin 22 = .ok (.aload_n 0, 1) := by decide +kernel
theorem dX0_turnJoin_23 : decode cX0_turnJoin 23 = .ok (.getfield 16, 3) := by decide +kernel
theorem dX0_turnJoin_26 : decode cX0_turnJoin 26 = .ok (.iload_n 1, 1) := by decide +kernel
theorem dX0_turnJoin_27 : decode cX0_turnJoin 27 = .ok (.iaload, 1) := by decide +kernel
theorem dX0_turnJoin_28 : decode cX0_turnJoin 28 = .ok (.iload_n 2, 1) := by decide +kernel
theorem dX0_turnJoin_29 : decode cX0_turnJoin 29 = .ok (.invokestatic 84, 3) := by decide +kernel
theorem dX0_turnJoin_32 : decode cX0_turnJoin 32 = .ok (.ireturn, 1) := by decide +kernel
theorem dX0_setLimit_0 : decode cX0_setLimit 0 = .ok (.iload_n 1, 1) := by decide +kernel
theorem dX0_setLimit_1 : decode cX0_setLimit 1 = .ok (.iconst 3, 1) := by decide +kernel
theorem dX0_setLimit_2 : decode cX0_setLimit 2 = .ok (.if_icmp .lt 9, 3) := by decide +kernel
theorem dX0_setLimit_5 : decode cX0_setLimit 5 = .ok (.iload_n 1, 1) := by decide +kernel
theorem dX0_setLimit_6 : decode cX0_setLimit 6 = .ok (.bipush 15, 2) := by decide +kernel
theorem dX0_setLimit_8 : decode cX0_setLimit 8 = .ok (.if_icmp .le 13, 3) := by decide +kernel
theorem dX0_setLimit_11 : decode cX0_setLimit 11 = .ok (.new 66, 3) := by decide +kernel
theorem dX0_setLimit_14 : decode cX0_setLimit 14 = .ok (.dup, 1) := by decide +kernel
theorem dX0_setLimit_15 : decode cX0_setLimit 15 = .ok (.ldc 88, 2) := by decide +kernel
theorem dX0_setLimit_17 : decode cX0_setLimit 17 = .ok (.invokespecial 70, 3) := by decide +kernel
theorem dX0_setLimit_20 : decode cX0_setLimit 20 = .ok (.athrow, 1) := by decide +kernel
theorem dX0_setLimit_21 : decode cX0_setLimit 21 = .ok (.aload_n 0, 1) := by decide +kernel
theorem dX0_setLimit_22 : decode cX0_setLimit 22 = .ok (.getfield 23, 3) := by decide +kernel
theorem dX0_setLimit_25 : decode cX0_setLimit 25 = .ok (.istore_n 2, 1) := by decide +kernel
theorem dX0_setLimit_26 : decode cX0_setLimit 26 = .ok (.aload_n 0, 1) := by decide +kernel
theorem dX0_setLimit_27 : decode cX0_setLimit 27 = .ok (.iload_n 1, 1) := by decide +kernel
theorem dX0_setLimit_28 : decode cX0_setLimit 28 = .ok (.putfield 23, 3) := by decide +kernel
theorem dX0_setLimit_31 : decode cX0_setLimit 31 = .ok (.iload_n 2, 1) := by decide +kernel
theorem dX0_setLimit_32 : decode cX0_setLimit 32 = .ok (.ireturn, 1) := by decide +kernel
theorem dX0_setLeastCount_0 : decode cX0_setLeastCount 0 = .ok (.iload_n 1, 1) := by decide +kernel
theorem dX0_setLeastCount_1 : decode cX0_setLeastCount 1 = .ok (.ifCond .lt 9, 3) := by decide +kernel
theorem dX0_setLeastCount_4 : decode cX0_setLeastCount 4 = .ok (.iload_n 1, 1) := by decide +kernel
theorem dX0_setLeastCount_5 : decode cX0_setLeastCount 5 = .ok (.bipush 20, 2) := by decide +kernel
theorem dX0_setLeastCount_7 : decode cX0_setLeastCount 7 = .ok (.if_icmp .le 13, 3) := by decide +kernel
theorem dX0_setLeastCount_10 : decode cX0_setLeastCount 10 = .ok (.new 66, 3) := by decide +kernel
theorem dX0_setLeastCount_13 : decode cX0_setLeastCount 13 = .ok (.dup, 1) := by decide +kernel
theorem dX0_setLeastCount_14 : decode cX0_setLeastCount 14 = .ok (.ldc 90, 2) := by decide +kernel
theorem dX0_setLeastCount_16 : decode cX0_setLeastCount 16 = .ok (.invokespecial 70, 3) := by decide +kernel
theorem dX0_setLeastCount_19 : decode cX0_setLeastCount 19 = .ok (.athrow, 1) := by decide +kernel
theorem dX0_setLeastCount_20 : decode cX0_setLeastCount 20 = .ok (.aload_n 0, 1) := by decide +kernel
theorem dX0_setLeastCount_21 : decode cX0_setLeastCount 21 = .ok (.getfield 26, 3) := by decide +kernel
theorem dX0_setLeastCount_24 : decode cX0_setLeastCount 24 = .ok (.istore_n 2, 1) := by decide +kernel
theorem dX0_setLeastCount_25 : decode cX0_setLeastCount 25 = .ok (.aload_n 0, 1) := by decide +kernel
theorem dX0_setLeastCount_26 : decode cX0_setLeastCount 26 = .ok (.iload_n 1, 1) := by decide +kernel
theorem dX0_setLeastCount_27 : decode cX0_setLeastCount 27 = .ok (.putfield 26, 3) := by decide +kernel
theorem dX0_setLeastCount_30 : decode cX0_setLeastCount 30 = .ok (.iload_n 2, 1) := by decide +kernel
theorem dX0_setLeastCount_31 : decode cX0_setLeastCount 31 = .ok (.ireturn, 1) := by decide +kernel
theorem dX0_setCoins_0 : decode cX0_setCoins 0 = .ok (.iload_n 1, 1) := by decide +kernel
theorem dX0_setCoins_1 : decode cX0_setCoins 1 = .ok (.iconst 1, 1) := by decide +kernel
theorem dX0_setCoins_2 : decode cX0_setCoins 2 = .ok (.if_icmp .lt 9, 3) := by decide +kernel
theorem dX0_setCoins_5 : decode cX0_setCoins 5 = .ok (.iload_n 1, 1) := by decide +kernel
theorem dX0_setCoins_6 : decode cX0_setCoins 6 = .ok (.bipush 50, 2) := by decide +kernel
theorem dX0_setCoins_8 : decode cX0_setCoins 8 = .ok (.if_icmp .le 13, 3) := by decide +kernel
theorem dX0_setCoins_11 : decode cX0_setCoins 11 = .ok (.new 66, 3) := by decide +kernel
theorem dX0_setCoins_14 : decode cX0_setCoins 14 = .ok (.dup, 1) := by decide +kernel
theorem dX0_setCoins_15 : decode cX0_setCoins 15 = .ok (.ldc 92, 2) := by decide +kernel
theorem dX0_setCoins_17 : decode cX0_setCoins 17 = .ok (.invokespecial 70, 3) := by decide +kernel
theorem dX0_setCoins_20 : decode cX0_setCoins 20 = .ok (.athrow, 1) := by decide +kernel
theorem dX0_setCoins_21 : decode cX0_setCoins 21 = .ok (.aload_n 0, 1) := by decide +kernel
theorem dX0_setCoins_22 : decode cX0_setCoins 22 = .ok (.getfield 29, 3) := by decide +kernel
theorem dX0_setCoins_25 : decode cX0_setCoins 25 = .ok (.istore_n 2, 1) := by decide +kernel
theorem dX0_setCoins_26 : decode cX0_setCoins 26 = .ok (.aload_n 0, 1) := by decide +kernel
theorem dX0_setCoins_27 : decode cX0_setCoins 27 = .ok (.iload_n 1, 1) := by decide +kernel
theorem dX0_setCoins_28 : decode cX0_setCoins 28 = .ok (.putfield 29, 3) := by decide +kernel
theorem dX0_setCoins_31 : decode cX0_setCoins 31 = .ok (.iload_n 2, 1) := by decide +kernel
theorem dX0_setCoins_32 : decode cX0_setCoins 32 = .ok (.ireturn, 1) := by decide +kernel
set_option maxRecDepth 20000 in
theorem ggX0_write_X0_needWord : GoodIn wsX0_write wsX0_needWord := goodIn_ca (goodIn_r _ [10, 11, 12, 13, 14, 15, 16, 17, 18, 19, 20, 21, 22, 23, 24, 25, 26, 27, 28, 29, 30, 31] (by decide +kernel) (by decide +kernel)) (goodIn_sub (fun _ h => List.mem_cons_of_mem _ (List.mem_append_right _ h)) (by decide +kernel))
set_option maxRecDepth 20000 in
theorem gX0_write_X0_needWord : GoodIn wsX0_write (wsV RX0 78 RX0 yX0_needWord wsX0_needWord) := goodIn_app (goodIn_of _ (by decide +kernel)) ggX0_write_X0_needWord
theorem dX0_write_0 : decode cX0_write 0 = .ok (.aload_n 0, 1) := by decide +kernel
theorem dX0_write_1 : decode cX0_write 1 = .ok (.iload_n 1, 1) := by decide +kernel
theorem dX0_write_2 : decode cX0_write 2 = .ok (.invokevirtual 78, 3) := by decide +kernel
theorem dX0_write_5 : decode cX0_write 5 = .ok (.aload_n 0, 1) := by decide +kernel
theorem dX0_write_6 : decode cX0_write 6 = .ok (.getfield 39, 3) := by decide +kernel
theorem dX0_write_9 : decode cX0_write 9 = .ok (.bipush 16, 2) := by decide +kernel
theorem dX0_write_11 : decode cX0_write 11 = .ok (.if_icmp .lt 13, 3) := by decide +kernel
theorem dX0_write_14 : decode cX0_write 14 = .ok (.new 73, 3) := by decide +kernel
theorem dX0_write_17 : decode cX0_write 17 = .ok (.dup, 1) := by decide +kernel
theorem dX0_write_18 : decode cX0_write 18 = .ok (.ldc 94, 2) := by decide +kernel
theorem dX0_write_20 : decode cX0_write 20 = .ok (.invokespecial 77, 3) := by decide +kernel
theorem dX0_write_23 : decode cX0_write 23 = .ok (.athrow, 1) := by decide +kernel
theorem dX0_write_24 : decode cX0_write 24 = .ok (.aload_n 0, 1) := by decide +kernel
theorem dX0_write_25 : decode cX0_write 25 = .ok (.getfield 32, 3) := by decide +kernel
theorem dX0_write_28 : decode cX0_write 28 = .ok (.aload_n 0, 1) := by decide +kernel
theorem dX0_write_29 : decode cX0_write 29 = .ok (.getfield 39, 3) := by decide +kernel
theorem dX0_write_32 : decode cX0_write 32 = .ok (.iload_n 1, 1) := by decide +kernel
theorem dX0_write_33 : decode cX0_write 33 = .ok (.iastore, 1) := by decide +kernel
theorem dX0_write_34 : decode cX0_write 34 = .ok (.aload_n 0, 1) := by decide +kernel
theorem dX0_write_35 : decode cX0_write 35 = .ok (.getfield 35, 3) := by decide +kernel
theorem dX0_write_38 : decode cX0_write 38 = .ok (.aload_n 0, 1) := by decide +kernel
theorem dX0_write_39 : decode cX0_write 39 = .ok (.getfield 39, 3) := by decide +kernel
theorem dX0_write_42 : decode cX0_write 42 = .ok (.iconst 0, 1) := by decide +kernel
theorem dX0_write_43 : decode cX0_write 43 = .ok (.bastore, 1) := by decide +kernel
theorem dX0_write_44 : decode cX0_write 44 = .ok (.aload_n 0, 1) := by decide +kernel
theorem dX0_write_45 : decode cX0_write 45 = .ok (.dup, 1) := by decide +kernel
theorem dX0_write_46 : decode cX0_write 46 = .ok (.getfield 39, 3) := by decide +kernel
theorem dX0_write_49 : decode cX0_write 49 = .ok (.iconst 1, 1) := by decide +kernel
theorem dX0_write_50 : decode cX0_write 50 = .ok (.iadd, 1) := by decide +kernel
theorem dX0_write_51 : decode cX0_write 51 = .ok (.putfield 39, 3) := by decide +kernel
theorem dX0_write_54 : decode cX0_write 54 = .ok (.aload_n 0, 1) := by decide +kernel
theorem dX0_write_55 : decode cX0_write 55 = .ok (.getfield 39, 3) := by decide +kernel
theorem dX0_write_58 : decode cX0_write 58 = .ok (.ireturn, 1) := by decide +kernel
set_option maxRecDepth 20000 in
theorem ggX0_strike_X0_needPlace : GoodIn wsX0_strike wsX0_needPlace := goodIn_ca (goodIn_r _ [8, 9, 10, 2, 11, 12, 13, 14, 15, 16, 17, 18, 19, 20, 21, 22, 23, 24, 25, 26, 27, 28] (by decide +kernel) (by decide +kernel)) (goodIn_sub (fun _ h => List.mem_cons_of_mem _ (List.mem_append_right _ h)) (by decide +kernel))
set_option maxRecDepth 20000 in
theorem gX0_strike_X0_needPlace : GoodIn wsX0_strike (wsV RX0 96 RX0 yX0_needPlace wsX0_needPlace) := goodIn_app (goodIn_of _ (by decide +kernel)) ggX0_strike_X0_needPlace
theorem dX0_strike_0 : decode cX0_strike 0 = .ok (.aload_n 0, 1) := by decide +kernel
theorem dX0_strike_1 : decode cX0_strike 1 = .ok (.iload_n 1, 1) := by decide +kernel
theorem dX0_strike_2 : decode cX0_strike 2 = .ok (.invokevirtual 96, 3) := by decide +kernel
theorem dX0_strike_5 : decode cX0_strike 5 = .ok (.iload_n 1, 1) := by decide +kernel
theorem dX0_strike_6 : decode cX0_strike 6 = .ok (.ifCond .le 12, 3) := by decide +kernel
theorem dX0_strike_9 : decode cX0_strike 9 = .ok (.aload_n 0, 1) := by decide +kernel
theorem dX0_strike_10 : decode cX0_strike 10 = .ok (.getfield 35, 3) := by decide +kernel
theorem dX0_strike_13 : decode cX0_strike 13 = .ok (.iload_n 1, 1) := by decide +kernel
theorem dX0_strike_14 : decode cX0_strike 14 = .ok (.iconst 1, 1) := by decide +kernel
theorem dX0_strike_15 : decode cX0_strike 15 = .ok (.isub, 1) := by decide +kernel
theorem dX0_strike_16 : decode cX0_strike 16 = .ok (.iconst 0, 1) := by decide +kernel
theorem dX0_strike_17 : decode cX0_strike 17 = .ok (.bastore, 1) := by decide +kernel
theorem dX0_strike_18 : decode cX0_strike 18 = .ok (.iload_n 1, 1) := by decide +kernel
theorem dX0_strike_19 : decode cX0_strike 19 = .ok (.istore_n 2, 1) := by decide +kernel
theorem dX0_strike_20 : decode cX0_strike 20 = .ok (.iload_n 2, 1) := by decide +kernel
theorem dX0_strike_21 : decode cX0_strike 21 = .ok (.iconst 1, 1) := by decide +kernel
theorem dX0_strike_22 : decode cX0_strike 22 = .ok (.iadd, 1) := by decide +kernel
theorem dX0_strike_23 : decode cX0_strike 23 = .ok (.aload_n 0, 1) := by decide +kernel
theorem dX0_strike_24 : decode cX0_strike 24 = .ok (.getfield 39, 3) := by decide +kernel
theorem dX0_strike_27 : decode cX0_strike 27 = .ok (.if_icmp .ge 37, 3) := by decide +kernel
theorem dX0_strike_30 : decode cX0_strike 30 = .ok (.aload_n 0, 1) := by decide +kernel
theorem dX0_strike_31 : decode cX0_strike 31 = .ok (.getfield 32, 3) := by decide +kernel
theorem dX0_strike_34 : decode cX0_strike 34 = .ok (.iload_n 2, 1) := by decide +kernel
theorem dX0_strike_35 : decode cX0_strike 35 = .ok (.aload_n 0, 1) := by decide +kernel
theorem dX0_strike_36 : decode cX0_strike 36 = .ok (.getfield 32, 3) := by decide +kernel
theorem dX0_strike_39 : decode cX0_strike 39 = .ok (.iload_n 2, 1) := by decide +kernel
theorem dX0_strike_40 : decode cX0_strike 40 = .ok (.iconst 1, 1) := by decide +kernel
theorem dX0_strike_41 : decode cX0_strike 41 = .ok (.iadd, 1) := by decide +kernel
theorem dX0_strike_42 : decode cX0_strike 42 = .ok (.iaload, 1) := by decide +kernel
theorem dX0_strike_43 : decode cX0_strike 43 = .ok (.iastore, 1) := by decide +kernel
theorem dX0_strike_44 : decode cX0_strike 44 = .ok (.aload_n 0, 1) := by decide +kernel
theorem dX0_strike_45 : decode cX0_strike 45 = .ok (.getfield 35, 3) := by decide +kernel
theorem dX0_strike_48 : decode cX0_strike 48 = .ok (.iload_n 2, 1) := by decide +kernel
theorem dX0_strike_49 : decode cX0_strike 49 = .ok (.aload_n 0, 1) := by decide +kernel
theorem dX0_strike_50 : decode cX0_strike 50 = .ok (.getfield 35, 3) := by decide +kernel
theorem dX0_strike_53 : decode cX0_strike 53 = .ok (.iload_n 2, 1) := by decide +kernel
theorem dX0_strike_54 : decode cX0_strike 54 = .ok (.iconst 1, 1) := by decide +kernel
theorem dX0_strike_55 : decode cX0_strike 55 = .ok (.iadd, 1) := by decide +kernel
theorem dX0_strike_56 : decode cX0_strike 56 = .ok (.baload, 1) := by decide +kernel
theorem dX0_strike_57 : decode cX0_strike 57 = .ok (.bastore, 1) := by decide +kernel
theorem dX0_strike_58 : decode cX0_strike 58 = .ok (.iinc 2 1, 3) := by decide +kernel
theorem dX0_strike_61 : decode cX0_strike 61 = .ok (.goto (-41), 3) := by decide +kernel
theorem dX0_strike_64 : decode cX0_strike 64 = .ok (.aload_n 0, 1) := by decide +kernel
theorem dX0_strike_65 : decode cX0_strike 65 = .ok (.dup, 1) := by decide +kernel
theorem dX0_strike_66 : decode cX0_strike 66 = .ok (.getfield 39, 3) := by decide +kernel
theorem dX0_strike_69 : decode cX0_strike 69 = .ok (.iconst 1, 1) := by decide +kernel
theorem dX0_strike_70 : decode cX0_strike 70 = .ok (.isub, 1) := by decide +kernel
theorem dX0_strike_71 : decode cX0_strike 71 = .ok (.putfield 39, 3) := by decide +kernel
theorem dX0_strike_74 : decode cX0_strike 74 = .ok (.aload_n 0, 1) := by decide +kernel
theorem dX0_strike_75 : decode cX0_strike 75 = .ok (.getfield 39, 3) := by decide +kernel
theorem dX0_strike_78 : decode cX0_strike 78 = .ok (.ireturn, 1) := by decide +kernel
set_option maxRecDepth 20000 in
theorem ggX0_turnJoined_X0_needPlace : GoodIn wsX0_turnJoined wsX0_needPlace := goodIn_ca (goodIn_r _ [8, 9, 10, 11, 21, 22, 23, 24, 25, 26, 27, 28, 29, 30, 31, 32, 33, 34, 35, 36, 37, 38] (by decide +kernel) (by decide +kernel)) (goodIn_sub (fun _ h => List.mem_cons_of_mem _ (List.mem_append_right _ h)) (by decide +kernel))
set_option maxRecDepth 20000 in
theorem gX0_turnJoined_X0_needPlace : GoodIn wsX0_turnJoined (wsV RX0 96 RX0 yX0_needPlace wsX0_needPlace) := goodIn_app (goodIn_of _ (by decide +kernel)) ggX0_turnJoined_X0_needPlace
set_option maxRecDepth 20000 in
theorem ggX0_turnJoined_X0_couldBeJoined : GoodIn wsX0_turnJoined wsX0_couldBeJoined := goodIn_r _ [15, 3, 16, 17, 18, 19, 7, 20, 21, 22, 23, 24, 25, 26, 27, 28, 29, 30, 31, 32, 33, 34, 35, 36, 37, 38] (by decide +kernel) (by decide +kernel)
set_option maxRecDepth 20000 in
theorem gX0_turnJoined_X0_couldBeJoined : GoodIn wsX0_turnJoined (wsV RX0 99 RX0 yX0_couldBeJoined wsX0_couldBeJoined) := goodIn_app (goodIn_of _ (by decide +kernel)) ggX0_turnJoined_X0_couldBeJoined
theorem dX0_turnJoined_0 : decode cX0_turnJoined 0 = .ok (.aload_n 0, 1) := by decide +kernel
theorem dX0_turnJoined_1 : decode cX0_turnJoined 1 = .ok (.iload_n 1, 1) := by decide +kernel
theorem dX0_turnJoined_2 : decode cX0_turnJoined 2 = .ok (.invokevirtual 96, 3) := by decide +kernel
theorem dX0_turnJoined_5 : decode cX0_turnJoined 5 = .ok (.aload_n 0, 1) := by decide +kernel
theorem dX0_turnJoined_6 : decode cX0_turnJoined 6 = .ok (.iload_n 1, 1) := by decide +kernel
theorem dX0_turnJoined_7 : decode cX0_turnJoined 7 = .ok (.iconst 1, 1) := by decide +kernel
theorem dX0_turnJoined_8 : decode cX0_turnJoined 8 = .ok (.iadd, 1) := by decide +kernel
theorem dX0_turnJoined_9 : decode cX0_turnJoined 9 = .ok (.invokevirtual 96, 3) := by decide +kernel
theorem dX0_turnJoined_12 : decode cX0_turnJoined 12 = .ok (.aload_n 0, 1) := by decide +kernel
theorem dX0_turnJoined_13 : decode cX0_turnJoined 13 = .ok (.getfield 35, 3) := by decide +kernel
theorem dX0_turnJoined_16 : decode cX0_turnJoined 16 = .ok (.iload_n 1, 1) := by decide +kernel
theorem dX0_turnJoined_17 : decode cX0_turnJoined 17 = .ok (.baload, 1) := by decide +kernel
theorem dX0_turnJoined_18 : decode cX0_turnJoined 18 = .ok (.ifCond .ne 21, 3) := by decide +kernel
theorem dX0_turnJoined_21 : decode cX0_turnJoined 21 = .ok (.aload_n 0, 1) := by decide +kernel
theorem dX0_turnJoined_22 : decode cX0_turnJoined 22 = .ok (.iload_n 1, 1) := by decide +kernel
theorem dX0_turnJoined_23 : decode cX0_turnJoined 23 = .ok (.invokevirtual 99, 3) := by decide +kernel
theorem dX0_turnJoined_26 : decode cX0_turnJoined 26 = .ok (.ifCond .ne 13, 3) := by decide +kernel
theorem dX0_turnJoined_29 : decode cX0_turnJoined 29 = .ok (.new 73, 3) := by decide +kernel
theorem dX0_turnJoined_32 : decode cX0_turnJoined 32 = .ok (.dup, 1) := by decide +kernel
theorem dX0_turnJoined_33 : decode cX0_turnJoined 33 = .ok (.ldc 103, 2) := by decide +kernel
theorem dX0_turnJoined_35 : decode cX0_turnJoined 35 = .ok (.invokespecial 77, 3) := by decide +kernel
theorem dX0_turnJoined_38 : decode cX0_turnJoined 38 = .ok (.athrow, 1) := by decide +kernel
theorem dX0_turnJoined_39 : decode cX0_turnJoined 39 = .ok (.aload_n 0, 1) := by decide +kernel
theorem dX0_turnJoined_40 : decode cX0_turnJoined 40 = .ok (.getfield 35, 3) := by decide +kernel
theorem dX0_turnJoined_43 : decode cX0_turnJoined 43 = .ok (.iload_n 1, 1) := by decide +kernel
theorem dX0_turnJoined_44 : decode cX0_turnJoined 44 = .ok (.aload_n 0, 1) := by decide +kernel
theorem dX0_turnJoined_45 : decode cX0_turnJoined 45 = .ok (.getfield 35, 3) := by decide +kernel
theorem dX0_turnJoined_48 : decode cX0_turnJoined 48 = .ok (.iload_n 1, 1) := by decide +kernel
theorem dX0_turnJoined_49 : decode cX0_turnJoined 49 = .ok (.baload, 1) := by decide +kernel
theorem dX0_turnJoined_50 : decode cX0_turnJoined 50 = .ok (.ifCond .ne 7, 3) := by decide +kernel
theorem dX0_turnJoined_53 : decode cX0_turnJoined 53 = .ok (.iconst 1, 1) := by decide +kernel
theorem dX0_turnJoined_54 : decode cX0_turnJoined 54 = .ok (.goto 4, 3) := by decide +kernel
theorem dX0_turnJoined_57 : decode cX0_turnJoined 57 = .ok (.iconst 0, 1) := by decide +kernel
theorem dX0_turnJoined_58 : decode cX0_turnJoined 58 = .ok (.bastore, 1) := by decide +kernel
theorem dX0_turnJoined_59 : decode cX0_turnJoined 59 = .ok (.aload_n 0, 1) := by decide +kernel
theorem dX0_turnJoined_60 : decode cX0_turnJoined 60 = .ok (.getfield 35, 3) := by decide +kernel
theorem dX0_turnJoined_63 : decode cX0_turnJoined 63 = .ok (.iload_n 1, 1) := by decide +kernel
theorem dX0_turnJoined_64 : decode cX0_turnJoined 64 = .ok (.baload, 1) := by decide +kernel
theorem dX0_turnJoined_65 : decode cX0_turnJoined 65 = .ok (.ireturn, 1) := by decide +kernel
set_option maxRecDepth 20000 in
theorem ggX0_reword_X0_count : GoodIn wsX0_reword wsX0_count := goodIn_r _ [10, 1, 4, 2, 11, 12, 13, 14, 9, 15, 16, 17, 18, 19, 20, 21, 22, 23, 24, 25, 26, 27, 28, 29, 71, 72, 73, 74, 75, 76, 77, 78, 79, 80, 81, 82, 83, 84, 85, 86, 87, 88] (by decide +kernel) (by decide +kernel)
set_option maxRecDepth 20000 in
theorem gX0_reword_X0_count : GoodIn wsX0_reword (wsV RX0 105 RX0 yX0_count wsX0_count) := goodIn_app (goodIn_of _ (by decide +kernel)) ggX0_reword_X0_count
set_option maxRecDepth 20000 in
theorem ggX0_reword_X0_noteCheapestWording : GoodIn wsX0_reword wsX0_noteCheapestWording := goodIn_r _ [33, 34, 1, 35, 36, 37, 38, 39, 9, 40, 11, 41, 42, 43, 44, 45, 2, 46, 47, 48, 49, 50, 51, 52, 53, 54, 16, 17, 18, 19, 20, 55, 56, 57, 58, 59, 12, 13, 14, 15, 60, 61, 62, 63, 64, 65, 28, 66, 67, 68, 69, 70, 3, 5, 71, 72, 73, 74, 75, 76, 77, 78, 79, 80, 81, 82, 83, 84, 85, 86, 87, 88] (by decide +kernel) (by decide +kernel)
set_option maxRecDepth 20000 in
theorem gX0_reword_X0_noteCheapestWording : GoodIn wsX0_reword (wsV RX0 109 RX0 yX0_noteCheapestWording wsX0_noteCheapestWording) := goodIn_app (goodIn_of _ (by decide +kernel)) ggX0_reword_X0_noteCheapestWording
theorem dX0_reword_0 : decode cX0_reword 0 = .ok (.aload_n 0, 1) := by decide +kernel
theorem dX0_reword_1 : decode cX0_reword 1 = .ok (.invokevirtual 105, 3) := by decide +kernel
theorem dX0_reword_4 : decode cX0_reword 4 = .ok (.istore_n 1, 1) := by decide +kernel
theorem dX0_reword_5 : decode cX0_reword 5 = .ok (.aload_n 0, 1) := by decide +kernel
theorem dX0_reword_6 : decode cX0_reword 6 = .ok (.invokevirtual 109, 3) := by decide +kernel
theorem dX0_reword_9 : decode cX0_reword 9 = .ok (.iconst 0, 1) := by decide +kernel
theorem dX0_reword_10 : decode cX0_reword 10 = .ok (.istore_n 2, 1) := by decide +kernel
theorem dX0_reword_11 : decode cX0_reword 11 = .ok (.iload_n 2, 1) := by decide +kernel
theorem dX0_reword_12 : decode cX0_reword 12 = .ok (.aload_n 0, 1) := by decide +kernel
theorem dX0_reword_13 : decode cX0_reword 13 = .ok (.getfield 39, 3) := by decide +kernel
theorem dX0_reword_16 : decode cX0_reword 16 = .ok (.if_icmp .ge 33, 3) := by decide +kernel
theorem dX0_reword_19 : decode cX0_reword 19 = .ok (.aload_n 0, 1) := by decide +kernel
theorem dX0_reword_20 : decode cX0_reword 20 = .ok (.getfield 32, 3) := by decide +kernel
theorem dX0_reword_23 : decode cX0_reword 23 = .ok (.iload_n 2, 1) := by decide +kernel
theorem dX0_reword_24 : decode cX0_reword 24 = .ok (.aload_n 0, 1) := by decide +kernel
theorem dX0_reword_25 : decode cX0_reword 25 = .ok (.getfield 60, 3) := by decide +kernel
theorem dX0_reword_28 : decode cX0_reword 28 = .ok (.iload_n 2, 1) := by decide +kernel
theorem dX0_reword_29 : decode cX0_reword 29 = .ok (.iaload, 1) := by decide +kernel
theorem dX0_reword_30 : decode cX0_reword 30 = .ok (.iastore, 1) := by decide +kernel
theorem dX0_reword_31 : decode cX0_reword 31 = .ok (.aload_n 0, 1) := by decide +kernel
theorem dX0_reword_32 : decode cX0_reword 32 = .ok (.getfield 35, 3) := by decide +kernel
theorem dX0_reword_35 : decode cX0_reword 35 = .ok (.iload_n 2, 1) := by decide +kernel
theorem dX0_reword_36 : decode cX0_reword 36 = .ok (.aload_n 0, 1) := by decide +kernel
theorem dX0_reword_37 : decode cX0_reword 37 = .ok (.getfield 63, 3) := by decide +kernel
theorem dX0_reword_40 : decode cX0_reword 40 = .ok (.iload_n 2, 1) := by decide +kernel
theorem dX0_reword_41 : decode cX0_reword 41 = .ok (.baload, 1) := by decide +kernel
theorem dX0_reword_42 : decode cX0_reword 42 = .ok (.bastore, 1) := by decide +kernel
theorem dX0_reword_43 : decode cX0_reword 43 = .ok (.iinc 2 1, 3) := by decide +kernel
theorem dX0_reword_46 : decode cX0_reword 46 = .ok (.goto (-35), 3) := by decide +kernel
theorem dX0_reword_49 : decode cX0_reword 49 = .ok (.iload_n 1, 1) := by decide +kernel
theorem dX0_reword_50 : decode cX0_reword 50 = .ok (.aload_n 0, 1) := by decide +kernel
theorem dX0_reword_51 : decode cX0_reword 51 = .ok (.invokevirtual 105, 3) := by decide +kernel
theorem dX0_reword_54 : decode cX0_reword 54 = .ok (.isub, 1) := by decide +kernel
theorem dX0_reword_55 : decode cX0_reword 55 = .ok (.ireturn, 1) := by decide +kernel
set_option maxRecDepth 20000 in
theorem ggX0_send_X0_priceTo : GoodIn wsX0_send wsX0_priceTo := goodIn_ca (goodIn_r _ [10, 11, 12, 13, 14, 15, 9, 16, 17, 18, 19, 20, 21, 3, 22, 23, 24, 25, 26, 27, 28, 29, 30, 31, 32, 33, 34, 35, 36, 37, 38, 39, 40, 41, 42, 43, 44, 45, 46, 47, 48, 49, 50, 51, 52, 53, 54, 55, 56, 57, 58, 59, 60] (by decide +kernel) (by decide +kernel)) (goodIn_sub (fun _ h => List.mem_cons_of_mem _ (List.mem_append_right _ h)) (by decide +kernel))
set_option maxRecDepth 20000 in
theorem gX0_send_X0_priceTo : GoodIn wsX0_send (wsV RX0 112 RX0 yX0_priceTo wsX0_priceTo) := goodIn_app (goodIn_of _ (by decide +kernel)) ggX0_send_X0_priceTo
theorem dX0_send_0 : decode cX0_send 0 = .ok (.aload_n 0, 1) := by decide +kernel
theorem dX0_send_1 : decode cX0_send 1 = .ok (.iload_n 1, 1) := by decide +kernel
theorem dX0_send_2 : decode cX0_send 2 = .ok (.invokevirtual 112, 3) := by decide +kernel
theorem dX0_send_5 : decode cX0_send 5 = .ok (.istore_n 2, 1) := by decide +kernel
theorem dX0_send_6 : decode cX0_send 6 = .ok (.aload_n 0, 1) := by decide +kernel
theorem dX0_send_7 : decode cX0_send 7 = .ok (.getfield 39, 3) := by decide +kernel
theorem dX0_send_10 : decode cX0_send 10 = .ok (.ifCond .ne 13, 3) := by decide +kernel
theorem dX0_send_13 : decode cX0_send 13 = .ok (.new 73, 3) := by decide +kernel
theorem dX0_send_16 : decode cX0_send 16 = .ok (.dup, 1) := by decide +kernel
theorem dX0_send_17 : decode cX0_send 17 = .ok (.ldc 116, 2) := by decide +kernel
theorem dX0_send_19 : decode cX0_send 19 = .ok (.invokespecial 77, 3) := by decide +kernel
theorem dX0_send_22 : decode cX0_send 22 = .ok (.athrow, 1) := by decide +kernel
theorem dX0_send_23 : decode cX0_send 23 = .ok (.aload_n 0, 1) := by decide +kernel
theorem dX0_send_24 : decode cX0_send 24 = .ok (.dup, 1) := by decide +kernel
theorem dX0_send_25 : decode cX0_send 25 = .ok (.getfield 42, 3) := by decide +kernel
theorem dX0_send_28 : decode cX0_send 28 = .ok (.iconst 1, 1) := by decide +kernel
theorem dX0_send_29 : decode cX0_send 29 = .ok (.iadd, 1) := by decide +kernel
theorem dX0_send_30 : decode cX0_send 30 = .ok (.putfield 42, 3) := by decide +kernel
theorem dX0_send_33 : decode cX0_send 33 = .ok (.aload_n 0, 1) := by decide +kernel
theorem dX0_send_34 : decode cX0_send 34 = .ok (.dup, 1) := by decide +kernel
theorem dX0_send_35 : decode cX0_send 35 = .ok (.getfield 45, 3) := by decide +kernel
theorem dX0_send_38 : decode cX0_send 38 = .ok (.iload_n 2, 1) := by decide +kernel
theorem dX0_send_39 : decode cX0_send 39 = .ok (.iadd, 1) := by decide +kernel
theorem dX0_send_40 : decode cX0_send 40 = .ok (.putfield 45, 3) := by decide +kernel
theorem dX0_send_43 : decode cX0_send 43 = .ok (.aload_n 0, 1) := by decide +kernel
theorem dX0_send_44 : decode cX0_send 44 = .ok (.iconst 0, 1) := by decide +kernel
theorem dX0_send_45 : decode cX0_send 45 = .ok (.putfield 39, 3) := by decide +kernel
theorem dX0_send_48 : decode cX0_send 48 = .ok (.iload_n 2, 1) := by decide +kernel
theorem dX0_send_49 : decode cX0_send 49 = .ok (.ireturn, 1) := by decide +kernel
theorem dX0_words_0 : decode cX0_words 0 = .ok (.aload_n 0, 1) := by decide +kernel
theorem dX0_words_1 : decode cX0_words 1 = .ok (.getfield 19, 3) := by decide +kernel
theorem dX0_words_4 : decode cX0_words 4 = .ok (.ireturn, 1) := by decide +kernel
set_option maxRecDepth 20000 in
theorem ggX0_lettersOf_X0_needWord : GoodIn wsX0_lettersOf wsX0_needWord := goodIn_ca (goodIn_r _ [6, 7, 8, 9, 10, 11, 12, 13, 14, 15, 16, 17, 18, 19, 20, 21, 22, 23, 24, 25, 26, 27] (by decide +kernel) (by decide +kernel)) (goodIn_sub (fun _ h => List.mem_cons_of_mem _ (List.mem_append_right _ h)) (by decide +kernel))
set_option maxRecDepth 20000 in
theorem gX0_lettersOf_X0_needWord : GoodIn wsX0_lettersOf (wsV RX0 78 RX0 yX0_needWord wsX0_needWord) := goodIn_app (goodIn_of _ (by decide +kernel)) ggX0_lettersOf_X0_needWord
theorem dX0_lettersOf_0 : decode cX0_lettersOf 0 = .ok (.aload_n 0, 1) := by decide +kernel
theorem dX0_lettersOf_1 : decode cX0_lettersOf 1 = .ok (.iload_n 1, 1) := by decide +kernel
theorem dX0_lettersOf_2 : decode cX0_lettersOf 2 = .ok (.invokevirtual 78, 3) := by decide +kernel
theorem dX0_lettersOf_5 : decode cX0_lettersOf 5 = .ok (.aload_n 0, 1) := by decide +kernel
theorem dX0_lettersOf_6 : decode cX0_lettersOf 6 = .ok (.getfield 9, 3) := by decide +kernel
theorem dX0_lettersOf_9 : decode cX0_lettersOf 9 = .ok (.iload_n 1, 1) := by decide +kernel
theorem dX0_lettersOf_10 : decode cX0_lettersOf 10 = .ok (.iaload, 1) := by decide +kernel
theorem dX0_lettersOf_11 : decode cX0_lettersOf 11 = .ok (.ireturn, 1) := by decide +kernel
set_option maxRecDepth 20000 in
theorem ggX0_countOf_X0_needWord : GoodIn wsX0_countOf wsX0_needWord := goodIn_ca (goodIn_r _ [6, 7, 8, 9, 15, 16, 17, 18, 19, 20, 21, 22, 23, 24, 25, 26, 27, 28, 29, 30, 31, 32] (by decide +kernel) (by decide +kernel)) (goodIn_sub (fun _ h => List.mem_cons_of_mem _ (List.mem_append_right _ h)) (by decide +kernel))
set_option maxRecDepth 20000 in
theorem gX0_countOf_X0_needWord : GoodIn wsX0_countOf (wsV RX0 78 RX0 yX0_needWord wsX0_needWord) := goodIn_app (goodIn_of _ (by decide +kernel)) ggX0_countOf_X0_needWord
set_option maxRecDepth 20000 in
theorem ggX0_countOf_X0_countOfLetters : GoodIn wsX0_countOf wsX0_countOfLetters := goodIn_r _ [13, 14, 15, 16, 17, 18, 19, 20, 21, 22, 23, 24, 25, 26, 27, 28, 29, 30, 31, 32] (by decide +kernel) (by decide +kernel)
set_option maxRecDepth 20000 in
theorem gX0_countOf_X0_countOfLetters : GoodIn wsX0_countOf (wsV RX0 118 RX0 yX0_countOfLetters wsX0_countOfLetters) := goodIn_app (goodIn_of _ (by decide +kernel)) ggX0_countOf_X0_countOfLetters
theorem dX0_countOf_0 : decode cX0_countOf 0 = .ok (.aload_n 0, 1) := by decide +kernel
theorem dX0_countOf_1 : decode cX0_countOf 1 = .ok (.iload_n 1, 1) := by decide +kernel
theorem dX0_countOf_2 : decode cX0_countOf 2 = .ok (.invokevirtual 78, 3) := by decide +kernel
theorem dX0_countOf_5 : decode cX0_countOf 5 = .ok (.aload_n 0, 1) := by decide +kernel
theorem dX0_countOf_6 : decode cX0_countOf 6 = .ok (.aload_n 0, 1) := by decide +kernel
theorem dX0_countOf_7 : decode cX0_countOf 7 = .ok (.getfield 9, 3) := by decide +kernel
theorem dX0_countOf_10 : decode cX0_countOf 10 = .ok (.iload_n 1, 1) := by decide +kernel
theorem dX0_countOf_11 : decode cX0_countOf 11 = .ok (.iaload, 1) := by decide +kernel
theorem dX0_countOf_12 : decode cX0_countOf 12 = .ok (.invokevirtual 118, 3) := by decide +kernel
theorem dX0_countOf_15 : decode cX0_countOf 15 = .ok (.ireturn, 1) := by decide +kernel
set_option maxRecDepth 20000 in
theorem ggX0_mayStandFor_X0_needWord : GoodIn wsX0_mayStandFor wsX0_needWord := goodIn_ca (goodIn_r _ [6, 7, 8, 9, 13, 14, 15, 16, 17, 18, 19, 20, 21, 22, 23, 24, 25, 26, 27, 28, 29, 30] (by decide +kernel) (by decide +kernel)) (goodIn_sub (fun _ h => List.mem_cons_of_mem _ (List.mem_append_right _ h)) (by decide +kernel))
set_option maxRecDepth 20000 in
theorem gX0_mayStandFor_X0_needWord : GoodIn wsX0_mayStandFor (wsV RX0 78 RX0 yX0_needWord wsX0_needWord) := goodIn_app (goodIn_of _ (by decide +kernel)) ggX0_mayStandFor_X0_needWord
set_option maxRecDepth 20000 in
theorem ggX0_mayStandFor_X0_hasBit : GoodIn wsX0_mayStandFor wsX0_hasBit := goodIn_r _ [12] (by decide +kernel) (by decide +kernel)
set_option maxRecDepth 20000 in
theorem gX0_mayStandFor_X0_hasBit : GoodIn wsX0_mayStandFor (va_wsS RX0 84 yX0_hasBit wsX0_hasBit) := goodIn_app (goodIn_of _ (by decide +kernel)) ggX0_mayStandFor_X0_hasBit
theorem dX0_mayStandFor_0 : decode cX0_mayStandFor 0 = .ok (.aload_n 0, 1) := by decide +kernel
theorem dX0_mayStandFor_1 : decode cX0_mayStandFor 1 = .ok (.iload_n 1, 1) := by decide +kernel
theorem dX0_mayStandFor_2 : decode cX0_mayStandFor 2 = .ok (.invokevirtual 78, 3) := by decide +kernel
theorem dX0_mayStandFor_5 : decode cX0_mayStandFor 5 = .ok (.aload_n 0, 1) := by decide +kernel
theorem dX0_mayStandFor_6 : decode cX0_mayStandFor 6 = .ok (.iload_n 2, 1) := by decide +kernel
theorem dX0_mayStandFor_7 : decode cX0_mayStandFor 7 = .ok (.invokevirtual 78, 3) := by decide +kernel
theorem dX0_mayStandFor_10 : decode cX0_mayStandFor 10 = .ok (.aload_n 0, 1) := by decide +kernel
theorem dX0_mayStandFor_11 : decode cX0_mayStandFor 11 = .ok (.getfield 13, 3) := by decide +kernel
theorem dX0_mayStandFor_14 : decode cX0_mayStandFor 14 = .ok (.iload_n 1, 1) := by decide +kernel
theorem dX0_mayStandFor_15 : decode cX0_mayStandFor 15 = .ok (.iaload, 1) := by decide +kernel
theorem dX0_mayStandFor_16 : decode cX0_mayStandFor 16 = .ok (.iload_n 2, 1) := by decide +kernel
theorem dX0_mayStandFor_17 : decode cX0_mayStandFor 17 = .ok (.invokestatic 84, 3) := by decide +kernel
theorem dX0_mayStandFor_20 : decode cX0_mayStandFor 20 = .ok (.ireturn, 1) := by decide +kernel
set_option maxRecDepth 20000 in
theorem ggX0_mayJoin_X0_needWord : GoodIn wsX0_mayJoin wsX0_needWord := goodIn_ca (goodIn_r _ [6, 7, 8, 9, 13, 14, 15, 16, 17, 18, 19, 20, 21, 22, 23, 24, 25, 26, 27, 28, 29, 30] (by decide +kernel) (by decide +kernel)) (goodIn_sub (fun _ h => List.mem_cons_of_mem _ (List.mem_append_right _ h)) (by decide +kernel))
set_option maxRecDepth 20000 in
theorem gX0_mayJoin_X0_needWord : GoodIn wsX0_mayJoin (wsV RX0 78 RX0 yX0_needWord wsX0_needWord) := goodIn_app (goodIn_of _ (by decide +kernel)) ggX0_mayJoin_X0_needWord
set_option maxRecDepth 20000 in
theorem ggX0_mayJoin_X0_hasBit : GoodIn wsX0_mayJoin wsX0_hasBit := goodIn_r _ [12] (by decide +kernel) (by decide +kernel)
set_option maxRecDepth 20000 in
theorem gX0_mayJoin_X0_hasBit : GoodIn wsX0_mayJoin (va_wsS RX0 84 yX0_hasBit wsX0_hasBit) := goodIn_app (goodIn_of _ (by decide +kernel)) ggX0_mayJoin_X0_hasBit
theorem dX0_mayJoin_0 : decode cX0_mayJoin 0 = .ok (.aload_n 0, 1) := by decide +kernel
theorem dX0_mayJoin_1 : decode cX0_mayJoin 1 = .ok (.iload_n 1, 1) := by decide +kernel
theorem dX0_mayJoin_2 : decode cX0_mayJoin 2 = .ok (.invokevirtual 78, 3) := by decide +kernel
theorem dX0_mayJoin_5 : decode cX0_mayJoin 5 = .ok (.aload_n 0, 1) := by decide +kernel
theorem dX0_mayJoin_6 : decode cX0_mayJoin 6 = .ok (.iload_n 2, 1) := by decide +kernel
theorem dX0_mayJoin_7 : decode cX0_mayJoin 7 = .ok (.invokevirtual 78, 3) := by decide +kernel
theorem dX0_mayJoin_10 : decode cX0_mayJoin 10 = .ok (.aload_n 0, 1) := by decide +kernel
theorem dX0_mayJoin_11 : decode cX0_mayJoin 11 = .ok (.getfield 16, 3) := by decide +kernel
theorem dX0_mayJoin_14 : decode cX0_mayJoin 14 = .ok (.iload_n 1, 1) := by decide +kernel
theorem dX0_mayJoin_15 : decode cX0_mayJoin 15 = .ok (.iaload, 1) := by decide +kernel
theorem dX0_mayJoin_16 : decode cX0_mayJoin 16 = .ok (.iload_n 2, 1) := by decide +kernel
theorem dX0_mayJoin_17 : decode cX0_mayJoin 17 = .ok (.invokestatic 84, 3) := by decide +kernel
theorem dX0_mayJoin_20 : decode cX0_mayJoin 20 = .ok (.ireturn, 1) := by decide +kernel
set_option maxRecDepth 20000 in
theorem ggX0_standInsOf_X0_needWord : GoodIn wsX0_standInsOf wsX0_needWord := goodIn_ca (goodIn_r _ [6, 7, 8, 9, 17, 18, 19, 20, 21, 22, 23, 24, 25, 26, 27, 28, 29, 30, 31, 32, 33, 34] (by decide +kernel) (by decide +kernel)) (goodIn_sub (fun _ h => List.mem_cons_of_mem _ (List.mem_append_right _ h)) (by decide +kernel))
set_option maxRecDepth 20000 in
theorem gX0_standInsOf_X0_needWord : GoodIn wsX0_standInsOf (wsV RX0 78 RX0 yX0_needWord wsX0_needWord) := goodIn_app (goodIn_of _ (by decide +kernel)) ggX0_standInsOf_X0_needWord
set_option maxRecDepth 20000 in
theorem ggX0_standInsOf_J6_bitCount_0f7a4 : GoodIn wsX0_standInsOf wsJ6_bitCount_0f7a4 := goodIn_r _ [13, 14, 15, 16] (by decide +kernel) (by decide +kernel)
set_option maxRecDepth 20000 in
theorem gX0_standInsOf_J6_bitCount_0f7a4 : GoodIn wsX0_standInsOf (va_wsS RX0 121 yJ6_bitCount_0f7a4 wsJ6_bitCount_0f7a4) := goodIn_app (goodIn_of _ (by decide +kernel)) ggX0_standInsOf_J6_bitCount_0f7a4
theorem dX0_standInsOf_0 : decode cX0_standInsOf 0 = .ok (.aload_n 0, 1) := by decide +kernel
theorem dX0_standInsOf_1 : decode cX0_standInsOf 1 = .ok (.iload_n 1, 1) := by decide +kernel
theorem dX0_standInsOf_2 : decode cX0_standInsOf 2 = .ok (.invokevirtual 78, 3) := by decide +kernel
theorem dX0_standInsOf_5 : decode cX0_standInsOf 5 = .ok (.aload_n 0, 1) := by decide +kernel
theorem dX0_standInsOf_6 : decode cX0_standInsOf 6 = .ok (.getfield 13, 3) := by decide +kernel
theorem dX0_standInsOf_9 : decode cX0_standInsOf 9 = .ok (.iload_n 1, 1) := by decide +kernel
theorem dX0_standInsOf_10 : decode cX0_standInsOf 10 = .ok (.iaload, 1) := by decide +kernel
theorem dX0_standInsOf_11 : decode cX0_standInsOf 11 = .ok (.invokestatic 121, 3) := by decide +kernel
theorem dX0_standInsOf_14 : decode cX0_standInsOf 14 = .ok (.ireturn, 1) := by decide +kernel
theorem dX0_limit_0 : decode cX0_limit 0 = .ok (.aload_n 0, 1) := by decide +kernel
theorem dX0_limit_1 : decode cX0_limit 1 = .ok (.getfield 23, 3) := by decide +kernel
theorem dX0_limit_4 : decode cX0_limit 4 = .ok (.ireturn, 1) := by decide +kernel
theorem dX0_leastCount_0 : decode cX0_leastCount 0 = .ok (.aload_n 0, 1) := by decide +kernel
theorem dX0_leastCount_1 : decode cX0_leastCount 1 = .ok (.getfield 26, 3) := by decide +kernel
theorem dX0_leastCount_4 : decode cX0_leastCount 4 = .ok (.ireturn, 1) := by decide +kernel
theorem dX0_coins_0 : decode cX0_coins 0 = .ok (.aload_n 0, 1) := by decide +kernel
theorem dX0_coins_1 : decode cX0_coins 1 = .ok (.getfield 29, 3) := by decide +kernel
theorem dX0_coins_4 : decode cX0_coins 4 = .ok (.ireturn, 1) := by decide +kernel
theorem dX0_length_0 : decode cX0_length 0 = .ok (.aload_n 0, 1) := by decide +kernel
theorem dX0_length_1 : decode cX0_length 1 = .ok (.getfield 39, 3) := by decide +kernel
theorem dX0_length_4 : decode cX0_length 4 = .ok (.ireturn, 1) := by decide +kernel
set_option maxRecDepth 20000 in
theorem ggX0_wordAt_X0_needPlace : GoodIn wsX0_wordAt wsX0_needPlace := goodIn_ca (goodIn_r _ [6, 7, 8, 9, 10, 11, 12, 13, 14, 15, 16, 17, 18, 19, 20, 21, 22, 23, 24, 25, 26, 27] (by decide +kernel) (by decide +kernel)) (goodIn_sub (fun _ h => List.mem_cons_of_mem _ (List.mem_append_right _ h)) (by decide +kernel))
set_option maxRecDepth 20000 in
theorem gX0_wordAt_X0_needPlace : GoodIn wsX0_wordAt (wsV RX0 96 RX0 yX0_needPlace wsX0_needPlace) := goodIn_app (goodIn_of _ (by decide +kernel)) ggX0_wordAt_X0_needPlace
theorem dX0_wordAt_0 : decode cX0_wordAt 0 = .ok (.aload_n 0, 1) := by decide +kernel
theorem dX0_wordAt_1 : decode cX0_wordAt 1 = .ok (.iload_n 1, 1) := by decide +kernel
theorem dX0_wordAt_2 : decode cX0_wordAt 2 = .ok (.invokevirtual 96, 3) := by decide +kernel
theorem dX0_wordAt_5 : decode cX0_wordAt 5 = .ok (.aload_n 0, 1) := by decide +kernel
theorem dX0_wordAt_6 : decode cX0_wordAt 6 = .ok (.getfield 32, 3) := by decide +kernel
theorem dX0_wordAt_9 : decode cX0_wordAt 9 = .ok (.iload_n 1, 1) := by decide +kernel
theorem dX0_wordAt_10 : decode cX0_wordAt 10 = .ok (.iaload, 1) := by decide +kernel
theorem dX0_wordAt_11 : decode cX0_wordAt 11 = .ok (.ireturn, 1) := by decide +kernel
set_option maxRecDepth 20000 in
theorem ggX0_isJoined_X0_needPlace : GoodIn wsX0_isJoined wsX0_needPlace := goodIn_ca (goodIn_r _ [6, 7, 8, 9, 10, 11, 12, 13, 14, 15, 16, 17, 18, 19, 20, 21, 22, 23, 24, 25, 26, 27] (by decide +kernel) (by decide +kernel)) (goodIn_sub (fun _ h => List.mem_cons_of_mem _ (List.mem_append_right _ h)) (by decide +kernel))
set_option maxRecDepth 20000 in
theorem gX0_isJoined_X0_needPlace : GoodIn wsX0_isJoined (wsV RX0 96 RX0 yX0_needPlace wsX0_needPlace) := goodIn_app (goodIn_of _ (by decide +kernel)) ggX0_isJoined_X0_needPlace
theorem dX0_isJoined_0 : decode cX0_isJoined 0 = .ok (.aload_n 0, 1) := by decide +kernel
theorem dX0_isJoined_1 : decode cX0_isJoined 1 = .ok (.iload_n 1, 1) := by decide +kernel
theorem dX0_isJoined_2 : decode cX0_isJoined 2 = .ok (.invokevirtual 96, 3) := by decide +kernel
theorem dX0_isJoined_5 : decode cX0_isJoined 5 = .ok (.aload_n 0, 1) := by decide +kernel
theorem dX0_isJoined_6 : decode cX0_isJoined 6 = .ok (.getfield 35, 3) := by decide +kernel
theorem dX0_isJoined_9 : decode cX0_isJoined 9 = .ok (.iload_n 1, 1) := by decide +kernel
theorem dX0_isJoined_10 : decode cX0_isJoined 10 = .ok (.baload, 1) := by decide +kernel
theorem dX0_isJoined_11 : decode cX0_isJoined 11 = .ok (.ireturn, 1) := by decide +kernel
set_option maxRecDepth 20000 in
theorem ggX0_count_X0_countOfPair : GoodIn wsX0_count wsX0_countOfPair := goodIn_r _ [9, 4, 10, 11, 12, 8, 13, 14, 24, 25, 26, 27, 28, 29, 30, 31, 32, 33, 34, 35, 36, 37, 38, 39, 40, 41] (by decide +kernel) (by decide +kernel)
set_option maxRecDepth 20000 in
theorem gX0_count_X0_countOfPair : GoodIn wsX0_count (wsV RX0 126 RX0 yX0_countOfPair wsX0_countOfPair) := goodIn_app (goodIn_of _ (by decide +kernel)) ggX0_count_X0_countOfPair
set_option maxRecDepth 20000 in
theorem ggX0_count_X0_countOfLetters : GoodIn wsX0_count wsX0_countOfLetters := goodIn_r _ [13, 14, 24, 25, 26, 27, 28, 29, 30, 31, 32, 33, 34, 35, 36, 37, 38, 39, 40, 41] (by decide +kernel) (by decide +kernel)
set_option maxRecDepth 20000 in
theorem gX0_count_X0_countOfLetters : GoodIn wsX0_count (wsV RX0 118 RX0 yX0_countOfLetters wsX0_countOfLetters) := goodIn_app (goodIn_of _ (by decide +kernel)) ggX0_count_X0_countOfLetters
set_option maxRecDepth 20000 in
theorem ggX0_count_X0_atLeastTheLeastCount : GoodIn wsX0_count wsX0_atLeastTheLeastCount := goodIn_r _ [18, 1, 19, 20, 21, 22, 23, 24, 25, 26, 27, 28, 29, 30, 31, 32, 33, 34, 35, 36, 37, 38, 39, 40, 41] (by decide +kernel) (by decide +kernel)
set_option maxRecDepth 20000 in
theorem gX0_count_X0_atLeastTheLeastCount : GoodIn wsX0_count (wsV RX0 130 RX0 yX0_atLeastTheLeastCount wsX0_atLeastTheLeastCount) := goodIn_app (goodIn_of _ (by decide +kernel)) ggX0_count_X0_atLeastTheLeastCount
theorem dX0_count_0 : decode cX0_count 0 = .ok (.iconst 0, 1) := by decide +kernel
theorem dX0_count_1 : decode cX0_count 1 = .ok (.istore_n 1, 1) := by decide +kernel
theorem dX0_count_2 : decode cX0_count 2 = .ok (.iconst 0, 1) := by decide +kernel
theorem dX0_count_3 : decode cX0_count 3 = .ok (.istore_n 2, 1) := by decide +kernel
theorem dX0_count_4 : decode cX0_count 4 = .ok (.iload_n 2, 1) := by decide +kernel
theorem dX0_count_5 : decode cX0_count 5 = .ok (.aload_n 0, 1) := by decide +kernel
theorem dX0_count_6 : decode cX0_count 6 = .ok (.getfield 39, 3) := by decide +kernel
theorem dX0_count_9 : decode cX0_count 9 = .ok (.if_icmp .ge 73, 3) := by decide +kernel
theorem dX0_count_12 : decode cX0_count 12 = .ok (.aload_n 0, 1) := by decide +kernel
theorem dX0_count_13 : decode cX0_count 13 = .ok (.getfield 35, 3) := by decide +kernel
theorem dX0_count_16 : decode cX0_count 16 = .ok (.iload_n 2, 1) := by decide +kernel
theorem dX0_count_17 : decode cX0_count 17 = .ok (.baload, 1) := by decide +kernel
theorem dX0_count_18 : decode cX0_count 18 = .ok (.ifCond .eq 40, 3) := by decide +kernel
theorem dX0_count_21 : decode cX0_count 21 = .ok (.iload_n 2, 1) := by decide +kernel
theorem dX0_count_22 : decode cX0_count 22 = .ok (.iconst 1, 1) := by decide +kernel
theorem dX0_count_23 : decode cX0_count 23 = .ok (.iadd, 1) := by decide +kernel
theorem dX0_count_24 : decode cX0_count 24 = .ok (.aload_n 0, 1) := by decide +kernel
theorem dX0_count_25 : decode cX0_count 25 = .ok (.getfield 39, 3) := by decide +kernel
theorem dX0_count_28 : decode cX0_count 28 = .ok (.if_icmp .ge 30, 3) := by decide +kernel
theorem dX0_count_31 : decode cX0_count 31 = .ok (.iload_n 1, 1) := by decide +kernel
theorem dX0_count_32 : decode cX0_count 32 = .ok (.aload_n 0, 1) := by decide +kernel
theorem dX0_count_33 : decode cX0_count 33 = .ok (.aload_n 0, 1) := by decide +kernel
theorem dX0_count_34 : decode cX0_count 34 = .ok (.getfield 32, 3) := by decide +kernel
theorem dX0_count_37 : decode cX0_count 37 = .ok (.iload_n 2, 1) := by decide +kernel
theorem dX0_count_38 : decode cX0_count 38 = .ok (.iaload, 1) := by decide +kernel
theorem dX0_count_39 : decode cX0_count 39 = .ok (.aload_n 0, 1) := by decide +kernel
theorem dX0_count_40 : decode cX0_count 40 = .ok (.getfield 32, 3) := by decide +kernel
theorem dX0_count_43 : decode cX0_count 43 = .ok (.iload_n 2, 1) := by decide +kernel
theorem dX0_count_44 : decode cX0_count 44 = .ok (.iconst 1, 1) := by decide +kernel
theorem dX0_count_45 : decode cX0_count 45 = .ok (.iadd, 1) := by decide +kernel
theorem dX0_count_46 : decode cX0_count 46 = .ok (.iaload, 1) := by decide +kernel
theorem dX0_count_47 : decode cX0_count 47 = .ok (.invokevirtual 126, 3) := by decide +kernel
theorem dX0_count_50 : decode cX0_count 50 = .ok (.iadd, 1) := by decide +kernel
theorem dX0_count_51 : decode cX0_count 51 = .ok (.istore_n 1, 1) := by decide +kernel
theorem dX0_count_52 : decode cX0_count 52 = .ok (.iinc 2 2, 3) := by decide +kernel
theorem dX0_count_55 : decode cX0_count 55 = .ok (.goto (-51), 3) := by decide +kernel
theorem dX0_count_58 : decode cX0_count 58 = .ok (.iload_n 1, 1) := by decide +kernel
theorem dX0_count_59 : decode cX0_count 59 = .ok (.aload_n 0, 1) := by decide +kernel
theorem dX0_count_60 : decode cX0_count 60 = .ok (.aload_n 0, 1) := by decide +kernel
theorem dX0_count_61 : decode cX0_count 61 = .ok (.getfield 9, 3) := by decide +kernel
theorem dX0_count_64 : decode cX0_count 64 = .ok (.aload_n 0, 1) := by decide +kernel
theorem dX0_count_65 : decode cX0_count 65 = .ok (.getfield 32, 3) := by decide +kernel
theorem dX0_count_68 : decode cX0_count 68 = .ok (.iload_n 2, 1) := by decide +kernel
theorem dX0_count_69 : decode cX0_count 69 = .ok (.iaload, 1) := by decide +kernel
theorem dX0_count_70 : decode cX0_count 70 = .ok (.iaload, 1) := by decide +kernel
theorem dX0_count_71 : decode cX0_count 71 = .ok (.invokevirtual 118, 3) := by decide +kernel
theorem dX0_count_74 : decode cX0_count 74 = .ok (.iadd, 1) := by decide +kernel
theorem dX0_count_75 : decode cX0_count 75 = .ok (.istore_n 1, 1) := by decide +kernel
theorem dX0_count_76 : decode cX0_count 76 = .ok (.iinc 2 1, 3) := by decide +kernel
theorem dX0_count_79 : decode cX0_count 79 = .ok (.goto (-75), 3) := by decide +kernel
theorem dX0_count_82 : decode cX0_count 82 = .ok (.aload_n 0, 1) := by decide +kernel
theorem dX0_count_83 : decode cX0_count 83 = .ok (.iload_n 1, 1) := by decide +kernel
theorem dX0_count_84 : decode cX0_count 84 = .ok (.invokevirtual 130, 3) := by decide +kernel
theorem dX0_count_87 : decode cX0_count 87 = .ok (.ireturn, 1) := by decide +kernel
set_option maxRecDepth 20000 in
theorem ggX0_price_X0_count : GoodIn wsX0_price wsX0_count := goodIn_r _ [6, 7, 8, 9, 10, 11, 12, 13, 5, 14, 15, 16, 17, 18, 19, 20, 21, 22, 23, 24, 25, 26, 27, 28, 29, 30, 31, 32, 33, 34, 35, 36, 37, 38, 39, 40, 41, 42, 43, 44, 45, 46] (by decide +kernel) (by decide +kernel)
set_option maxRecDepth 20000 in
theorem gX0_price_X0_count : GoodIn wsX0_price (wsV RX0 105 RX0 yX0_count wsX0_count) := goodIn_app (goodIn_of _ (by decide +kernel)) ggX0_price_X0_count
theorem dX0_price_0 : decode cX0_price 0 = .ok (.aload_n 0, 1) := by decide +kernel
theorem dX0_price_1 : decode cX0_price 1 = .ok (.invokevirtual 105, 3) := by decide +kernel
theorem dX0_price_4 : decode cX0_price 4 = .ok (.aload_n 0, 1) := by decide +kernel
theorem dX0_price_5 : decode cX0_price 5 = .ok (.getfield 29, 3) := by decide +kernel
theorem dX0_price_8 : decode cX0_price 8 = .ok (.imul, 1) := by decide +kernel
theorem dX0_price_9 : decode cX0_price 9 = .ok (.ireturn, 1) := by decide +kernel
set_option maxRecDepth 20000 in
theorem ggX0_priceTo_X0_price : GoodIn wsX0_priceTo wsX0_price := goodIn_r _ [7, 8, 9, 10, 11, 6, 12, 13, 14, 15, 16, 17, 18, 19, 20, 21, 22, 23, 24, 25, 26, 27, 28, 29, 30, 31, 32, 33, 34, 35, 36, 37, 38, 39, 40, 41, 42, 43, 44, 45, 46, 47, 48, 49, 50, 51, 52] (by decide +kernel) (by decide +kernel)
set_option maxRecDepth 20000 in
theorem gX0_priceTo_X0_price : GoodIn wsX0_priceTo (wsV RX0 138 RX0 yX0_price wsX0_price) := goodIn_app (goodIn_of _ (by decide +kernel)) ggX0_priceTo_X0_price
theorem dX0_priceTo_0 : decode cX0_priceTo 0 = .ok (.iload_n 1, 1) := by decide +kernel
theorem dX0_priceTo_1 : decode cX0_priceTo 1 = .ok (.ifCond .lt 8, 3) := by decide +kernel
theorem dX0_priceTo_4 : decode cX0_priceTo 4 = .ok (.iload_n 1, 1) := by decide +kernel
theorem dX0_priceTo_5 : decode cX0_priceTo 5 = .ok (.iconst 4, 1) := by decide +kernel
theorem dX0_priceTo_6 : decode cX0_priceTo 6 = .ok (.if_icmp .lt 13, 3) := by decide +kernel
theorem dX0_priceTo_9 : decode cX0_priceTo 9 = .ok (.new 133, 3) := by decide +kernel
theorem dX0_priceTo_12 : decode cX0_priceTo 12 = .ok (.dup, 1) := by decide +kernel
theorem dX0_priceTo_13 : decode cX0_priceTo 13 = .ok (.ldc 135, 2) := by decide +kernel
theorem dX0_priceTo_15 : decode cX0_priceTo 15 = .ok (.invokespecial 137, 3) := by decide +kernel
theorem dX0_priceTo_18 : decode cX0_priceTo 18 = .ok (.athrow, 1) := by decide +kernel
theorem dX0_priceTo_19 : decode cX0_priceTo 19 = .ok (.aload_n 0, 1) := by decide +kernel
theorem dX0_priceTo_20 : decode cX0_priceTo 20 = .ok (.invokevirtual 138, 3) := by decide +kernel
theorem dX0_priceTo_23 : decode cX0_priceTo 23 = .ok (.iload_n 1, 1) := by decide +kernel
theorem dX0_priceTo_24 : decode cX0_priceTo 24 = .ok (.iconst 2, 1) := by decide +kernel
theorem dX0_priceTo_25 : decode cX0_priceTo 25 = .ok (.iadd, 1) := by decide +kernel
theorem dX0_priceTo_26 : decode cX0_priceTo 26 = .ok (.imul, 1) := by decide +kernel
theorem dX0_priceTo_27 : decode cX0_priceTo 27 = .ok (.iconst 2, 1) := by decide +kernel
theorem dX0_priceTo_28 : decode cX0_priceTo 28 = .ok (.idiv, 1) := by decide +kernel
theorem dX0_priceTo_29 : decode cX0_priceTo 29 = .ok (.ireturn, 1) := by decide +kernel
theorem dX0_sent_0 : decode cX0_sent 0 = .ok (.aload_n 0, 1) := by decide +kernel
theorem dX0_sent_1 : decode cX0_sent 1 = .ok (.getfield 42, 3) := by decide +kernel
theorem dX0_sent_4 : decode cX0_sent 4 = .ok (.ireturn, 1) := by decide +kernel
theorem dX0_earned_0 : decode cX0_earned 0 = .ok (.aload_n 0, 1) := by decide +kernel
theorem dX0_earned_1 : decode cX0_earned 1 = .ok (.getfield 45, 3) := by decide +kernel
theorem dX0_earned_4 : decode cX0_earned 4 = .ok (.ireturn, 1) := by decide +kernel
set_option maxRecDepth 20000 in
theorem ggX0_cheapestCount_X0_noteLeastCounts : GoodIn wsX0_cheapestCount wsX0_noteLeastCounts := goodIn_r _ [6, 7, 8, 9, 1, 10, 11, 12, 13, 5, 14, 15, 16, 17, 18, 19, 20, 21, 22, 23, 24, 25, 26, 27, 28, 29, 30, 31, 32, 33, 34, 35, 36, 37, 38, 56, 57, 58, 59, 60, 61, 62, 63, 64, 65, 66, 67, 68, 69, 70, 71, 72, 73] (by decide +kernel) (by decide +kernel)
set_option maxRecDepth 20000 in
theorem gX0_cheapestCount_X0_noteLeastCounts : GoodIn wsX0_cheapestCount (wsV RX0 141 RX0 yX0_noteLeastCounts wsX0_noteLeastCounts) := goodIn_app (goodIn_of _ (by decide +kernel)) ggX0_cheapestCount_X0_noteLeastCounts
set_option maxRecDepth 20000 in
theorem ggX0_cheapestCount_X0_leastInAll : GoodIn wsX0_cheapestCount wsX0_leastInAll := goodIn_r _ [42, 43, 7, 8, 44, 45, 46, 47, 56, 57, 58, 59, 60, 61, 62, 63, 64, 65, 66, 67, 68, 69, 70, 71, 72, 73] (by decide +kernel) (by decide +kernel)
set_option maxRecDepth 20000 in
theorem gX0_cheapestCount_X0_leastInAll : GoodIn wsX0_cheapestCount (wsV RX0 144 RX0 yX0_leastInAll wsX0_leastInAll) := goodIn_app (goodIn_of _ (by decide +kernel)) ggX0_cheapestCount_X0_leastInAll
set_option maxRecDepth 20000 in
theorem ggX0_cheapestCount_X0_atLeastTheLeastCount : GoodIn wsX0_cheapestCount wsX0_atLeastTheLeastCount := goodIn_r _ [51, 7, 52, 53, 54, 46, 55, 56, 57, 58, 59, 60, 61, 62, 63, 64, 65, 66, 67, 68, 69, 70, 71, 72, 73] (by decide +kernel) (by decide +kernel)
set_option maxRecDepth 20000 in
theorem gX0_cheapestCount_X0_atLeastTheLeastCount : GoodIn wsX0_cheapestCount (wsV RX0 130 RX0 yX0_atLeastTheLeastCount wsX0_atLeastTheLeastCount) := goodIn_app (goodIn_of _ (by decide +kernel)) ggX0_cheapestCount_X0_atLeastTheLeastCount
theorem dX0_cheapestCount_0 : decode cX0_cheapestCount 0 = .ok (.aload_n 0, 1) := by decide +kernel
theorem dX0_cheapestCount_1 : decode cX0_cheapestCount 1 = .ok (.invokevirtual 141, 3) := by decide +kernel
theorem dX0_cheapestCount_4 : decode cX0_cheapestCount 4 = .ok (.aload_n 0, 1) := by decide +kernel
theorem dX0_cheapestCount_5 : decode cX0_cheapestCount 5 = .ok (.aload_n 0, 1) := by decide +kernel
theorem dX0_cheapestCount_6 : decode cX0_cheapestCount 6 = .ok (.aload_n 0, 1) := by decide +kernel
theorem dX0_cheapestCount_7 : decode cX0_cheapestCount 7 = .ok (.getfield 51, 3) := by decide +kernel
theorem dX0_cheapestCount_10 : decode cX0_cheapestCount 10 = .ok (.invokevirtual 144, 3) := by decide +kernel
theorem dX0_cheapestCount_13 : decode cX0_cheapestCount 13 = .ok (.invokevirtual 130, 3) := by decide +kernel
theorem dX0_cheapestCount_16 : decode cX0_cheapestCount 16 = .ok (.ireturn, 1) := by decide +kernel
set_option maxRecDepth 20000 in
theorem ggX0_cheapestWordAt_X0_needPlace : GoodIn wsX0_cheapestWordAt wsX0_needPlace := goodIn_ca (goodIn_r _ [6, 7, 8, 9, 64, 65, 66, 67, 68, 69, 70, 71, 72, 73, 74, 75, 76, 77, 78, 79, 80, 81] (by decide +kernel) (by decide +kernel)) (goodIn_sub (fun _ h => List.mem_cons_of_mem _ (List.mem_append_right _ h)) (by decide +kernel))
set_option maxRecDepth 20000 in
theorem gX0_cheapestWordAt_X0_needPlace : GoodIn wsX0_cheapestWordAt (wsV RX0 96 RX0 yX0_needPlace wsX0_needPlace) := goodIn_app (goodIn_of _ (by decide +kernel)) ggX0_cheapestWordAt_X0_needPlace
set_option maxRecDepth 20000 in
theorem ggX0_cheapestWordAt_X0_noteCheapestWording : GoodIn wsX0_cheapestWordAt wsX0_noteCheapestWording := goodIn_r _ [13, 14, 9, 15, 16, 17, 18, 19, 5, 20, 21, 22, 23, 24, 25, 26, 27, 28, 29, 30, 31, 32, 33, 34, 35, 36, 37, 38, 39, 40, 41, 42, 43, 44, 45, 46, 47, 48, 49, 50, 51, 52, 53, 54, 55, 56, 57, 58, 59, 60, 61, 62, 1, 63, 64, 65, 66, 67, 68, 69, 70, 71, 72, 73, 74, 75, 76, 77, 78, 79, 80, 81] (by decide +kernel) (by decide +kernel)
set_option maxRecDepth 20000 in
theorem gX0_cheapestWordAt_X0_noteCheapestWording : GoodIn wsX0_cheapestWordAt (wsV RX0 109 RX0 yX0_noteCheapestWording wsX0_noteCheapestWording) := goodIn_app (goodIn_of _ (by decide +kernel)) ggX0_cheapestWordAt_X0_noteCheapestWording
theorem dX0_cheapestWordAt_0 : decode cX0_cheapestWordAt 0 = .ok (.aload_n 0, 1) := by decide +kernel
theorem dX0_cheapestWordAt_1 : decode cX0_cheapestWordAt 1 = .ok (.iload_n 1, 1) := by decide +kernel
theorem dX0_cheapestWordAt_2 : decode cX0_cheapestWordAt 2 = .ok (.invokevirtual 96, 3) := by decide +kernel
theorem dX0_cheapestWordAt_5 : decode cX0_cheapestWordAt 5 = .ok (.aload_n 0, 1) := by decide +kernel
theorem dX0_cheapestWordAt_6 : decode cX0_cheapestWordAt 6 = .ok (.invokevirtual 109, 3) := by decide +kernel
theorem dX0_cheapestWordAt_9 : decode cX0_cheapestWordAt 9 = .ok (.aload_n 0, 1) := by decide +kernel
theorem dX0_cheapestWordAt_10 : decode cX0_cheapestWordAt 10 = .ok (.getfield 60, 3) := by decide +kernel
theorem dX0_cheapestWordAt_13 : decode cX0_cheapestWordAt 13 = .ok (.iload_n 1, 1) := by decide +kernel
theorem dX0_cheapestWordAt_14 : decode cX0_cheapestWordAt 14 = .ok (.iaload, 1) := by decide +kernel
theorem dX0_cheapestWordAt_15 : decode cX0_cheapestWordAt 15 = .ok (.ireturn, 1) := by decide +kernel
set_option maxRecDepth 20000 in
theorem ggX0_isJoinedInCheapest_X0_needPlace : GoodIn wsX0_isJoinedInCheapest wsX0_needPlace := goodIn_ca (goodIn_r _ [6, 7, 8, 9, 64, 65, 66, 67, 68, 69, 70, 71, 72, 73, 74, 75, 76, 77, 78, 79, 80, 81] (by decide +kernel) (by decide +kernel)) (goodIn_sub (fun _ h => List.mem_cons_of_mem _ (List.mem_append_right _ h)) (by decide +kernel))
set_option maxRecDepth 20000 in
theorem gX0_isJoinedInCheapest_X0_needPlace : GoodIn wsX0_isJoinedInCheapest (wsV RX0 96 RX0 yX0_needPlace wsX0_needPlace) := goodIn_app (goodIn_of _ (by decide +kernel)) ggX0_isJoinedInCheapest_X0_needPlace
set_option maxRecDepth 20000 in
theorem ggX0_isJoinedInCheapest_X0_noteCheapestWording : GoodIn wsX0_isJoinedInCheapest wsX0_noteCheapestWording := goodIn_r _ [13, 14, 9, 15, 16, 17, 18, 19, 5, 20, 21, 22, 23, 24, 25, 26, 27, 28, 29, 30, 31, 32, 33, 34, 35, 36, 37, 38, 39, 40, 41, 42, 43, 44, 45, 46, 47, 48, 49, 50, 51, 52, 53, 54, 55, 56, 57, 58, 59, 60, 61, 62, 63, 1, 64, 65, 66, 67, 68, 69, 70, 71, 72, 73, 74, 75, 76, 77, 78, 79, 80, 81] (by decide +kernel) (by decide +kernel)
set_option maxRecDepth 20000 in
theorem gX0_isJoinedInCheapest_X0_noteCheapestWording : GoodIn wsX0_isJoinedInCheapest (wsV RX0 109 RX0 yX0_noteCheapestWording wsX0_noteCheapestWording) := goodIn_app (goodIn_of _ (by decide +kernel)) ggX0_isJoinedInCheapest_X0_noteCheapestWording
theorem dX0_isJoinedInCheapest_0 : decode cX0_isJoinedInCheapest 0 = .ok (.aload_n 0, 1) := by decide +kernel
theorem dX0_isJoinedInCheapest_1 : decode cX0_isJoinedInCheapest 1 = .ok (.iload_n 1, 1) := by decide +kernel
theorem dX0_isJoinedInCheapest_2 : decode cX0_isJoinedInCheapest 2 = .ok (.invokevirtual 96, 3) := by decide +kernel
theorem dX0_isJoinedInCheapest_5 : decode cX0_isJoinedInCheapest 5 = .ok (.aload_n 0, 1) := by decide +kernel
theorem dX0_isJoinedInCheapest_6 : decode cX0_isJoinedInCheapest 6 = .ok (.invokevirtual 109, 3) := by decide +kernel
theorem dX0_isJoinedInCheapest_9 : decode cX0_isJoinedInCheapest 9 = .ok (.aload_n 0, 1) := by decide +kernel
theorem dX0_isJoinedInCheapest_10 : decode cX0_isJoinedInCheapest 10 = .ok (.getfield 63, 3) := by decide +kernel
theorem dX0_isJoinedInCheapest_13 : decode cX0_isJoinedInCheapest 13 = .ok (.iload_n 1, 1) := by decide +kernel
theorem dX0_isJoinedInCheapest_14 : decode cX0_isJoinedInCheapest 14 = .ok (.baload, 1) := by decide +kernel
theorem dX0_isJoinedInCheapest_15 : decode cX0_isJoinedInCheapest 15 = .ok (.ireturn, 1) := by decide +kernel
set_option maxRecDepth 20000 in
theorem ggX0_saves_X0_price : GoodIn wsX0_saves wsX0_price := goodIn_r _ [6, 1, 7, 8, 9, 5, 10, 11, 12, 13, 14, 15, 16, 17, 18, 19, 20, 21, 22, 23, 24, 25, 26, 27, 28, 29, 30, 31, 32, 70, 71, 72, 73, 74, 75, 76, 77, 78, 79, 80, 81, 82, 83, 84, 85, 86, 87] (by decide +kernel) (by decide +kernel)
set_option maxRecDepth 20000 in
theorem gX0_saves_X0_price : GoodIn wsX0_saves (wsV RX0 138 RX0 yX0_price wsX0_price) := goodIn_app (goodIn_of _ (by decide +kernel)) ggX0_saves_X0_price
set_option maxRecDepth 20000 in
theorem ggX0_saves_X0_cheapestCount : GoodIn wsX0_saves wsX0_cheapestCount := goodIn_r _ [36, 37, 38, 39, 40, 5, 41, 11, 42, 14, 43, 44, 45, 46, 47, 13, 48, 49, 50, 51, 52, 53, 54, 55, 56, 19, 20, 21, 22, 23, 57, 58, 59, 60, 61, 15, 16, 17, 18, 62, 63, 64, 65, 66, 67, 68, 31, 69, 24, 25, 26, 27, 28, 29, 30, 32, 70, 71, 72, 73, 74, 75, 76, 77, 78, 79, 80, 81, 82, 83, 84, 85, 86, 87] (by decide +kernel) (by decide +kernel)
set_option maxRecDepth 20000 in
theorem gX0_saves_X0_cheapestCount : GoodIn wsX0_saves (wsV RX0 148 RX0 yX0_cheapestCount wsX0_cheapestCount) := goodIn_app (goodIn_of _ (by decide +kernel)) ggX0_saves_X0_cheapestCount
theorem dX0_saves_0 : decode cX0_saves 0 = .ok (.aload_n 0, 1) := by decide +kernel
theorem dX0_saves_1 : decode cX0_saves 1 = .ok (.invokevirtual 138, 3) := by decide +kernel
theorem dX0_saves_4 : decode cX0_saves 4 = .ok (.aload_n 0, 1) := by decide +kernel
theorem dX0_saves_5 : decode cX0_saves 5 = .ok (.invokevirtual 148, 3) := by decide +kernel
theorem dX0_saves_8 : decode cX0_saves 8 = .ok (.aload_n 0, 1) := by decide +kernel
theorem dX0_saves_9 : decode cX0_saves 9 = .ok (.getfield 29, 3) := by decide +kernel
theorem dX0_saves_12 : decode cX0_saves 12 = .ok (.imul, 1) := by decide +kernel
theorem dX0_saves_13 : decode cX0_saves 13 = .ok (.isub, 1) := by decide +kernel
theorem dX0_saves_14 : decode cX0_saves 14 = .ok (.ireturn, 1) := by decide +kernel
set_option maxRecDepth 20000 in
theorem ggX0_wordings_J6_bitCount_0f7a4 : GoodIn wsX0_wordings wsJ6_bitCount_0f7a4 := goodIn_r _ [12, 13, 14, 15] (by decide +kernel) (by decide +kernel)
set_option maxRecDepth 20000 in
theorem gX0_wordings_J6_bitCount_0f7a4 : GoodIn wsX0_wordings (va_wsS RX0 121 yJ6_bitCount_0f7a4 wsJ6_bitCount_0f7a4) := goodIn_app (goodIn_of _ (by decide +kernel)) ggX0_wordings_J6_bitCount_0f7a4
theorem dX0_wordings_0 : decode cX0_wordings 0 = .ok (.iconst 1, 1) := by decide +kernel
theorem dX0_wordings_1 : decode cX0_wordings 1 = .ok (.istore_n 1, 1) := by decide +kernel
theorem dX0_wordings_2 : decode cX0_wordings 2 = .ok (.iconst 0, 1) := by decide +kernel
theorem dX0_wordings_3 : decode cX0_wordings 3 = .ok (.istore_n 2, 1) := by decide +kernel
theorem dX0_wordings_4 : decode cX0_wordings 4 = .ok (.iload_n 2, 1) := by decide +kernel
theorem dX0_wordings_5 : decode cX0_wordings 5 = .ok (.aload_n 0, 1) := by decide +kernel
theorem dX0_wordings_6 : decode cX0_wordings 6 = .ok (.getfield 39, 3) := by decide +kernel
theorem dX0_wordings_9 : decode cX0_wordings 9 = .ok (.if_icmp .ge 31, 3) := by decide +kernel
theorem dX0_wordings_12 : decode cX0_wordings 12 = .ok (.iload_n 1, 1) := by decide +kernel
theorem dX0_wordings_13 : decode cX0_wordings 13 = .ok (.aload_n 0, 1) := by decide +kernel
theorem dX0_wordings_14 : decode cX0_wordings 14 = .ok (.getfield 13, 3) := by decide +kernel
theorem dX0_wordings_17 : decode cX0_wordings 17 = .ok (.aload_n 0, 1) := by decide +kernel
theorem dX0_wordings_18 : decode cX0_wordings 18 = .ok (.getfield 32, 3) := by decide +kernel
theorem dX0_wordings_21 : decode cX0_wordings 21 = .ok (.iload_n 2, 1) := by decide +kernel
theorem dX0_wordings_22 : decode cX0_wordings 22 = .ok (.iaload, 1) := by decide +kernel
theorem dX0_wordings_23 : decode cX0_wordings 23 = .ok (.iaload, 1) := by decide +kernel
theorem dX0_wordings_24 : decode cX0_wordings 24 = .ok (.invokestatic 121, 3) := by decide +kernel
theorem dX0_wordings_27 : decode cX0_wordings 27 = .ok (.imul, 1) := by decide +kernel
theorem dX0_wordings_28 : decode cX0_wordings 28 = .ok (.ldc 151, 2) := by decide +kernel
theorem dX0_wordings_30 : decode cX0_wordings 30 = .ok (.invokestatic 152, 3) := by decide +kernel
theorem dX0_wordings_33 : decode cX0_wordings 33 = .ok (.istore_n 1, 1) := by decide +kernel
theorem dX0_wordings_34 : decode cX0_wordings 34 = .ok (.iinc 2 1, 3) := by decide +kernel
theorem dX0_wordings_37 : decode cX0_wordings 37 = .ok (.goto (-33), 3) := by decide +kernel
theorem dX0_wordings_40 : decode cX0_wordings 40 = .ok (.iload_n 1, 1) := by decide +kernel
theorem dX0_wordings_41 : decode cX0_wordings 41 = .ok (.ireturn, 1) := by decide +kernel
set_option maxRecDepth 20000 in
theorem ggX0_bestJoin_X0_cheapestCount : GoodIn wsX0_bestJoin wsX0_cheapestCount := goodIn_r _ [7, 8, 9, 10, 11, 6, 12, 13, 14, 15, 16, 17, 18, 19, 20, 21, 1, 22, 23, 24, 25, 26, 27, 28, 29, 30, 31, 32, 33, 34, 35, 36, 37, 38, 2, 39, 40, 41, 42, 43, 44, 45, 46, 47, 48, 49, 50, 51, 52, 53, 54, 55, 56, 57, 58, 59, 65, 66, 67, 68, 69, 70, 71, 72, 73, 74, 75, 76, 77, 78, 79, 80, 81, 82] (by decide +kernel) (by decide +kernel)
set_option maxRecDepth 20000 in
theorem gX0_bestJoin_X0_cheapestCount : GoodIn wsX0_bestJoin (wsV RX0 148 RX0 yX0_cheapestCount wsX0_cheapestCount) := goodIn_app (goodIn_of _ (by decide +kernel)) ggX0_bestJoin_X0_cheapestCount
set_option maxRecDepth 20000 in
theorem ggX0_bestJoin_X0_hasBit : GoodIn wsX0_bestJoin wsX0_hasBit := goodIn_r _ [29] (by decide +kernel) (by decide +kernel)
set_option maxRecDepth 20000 in
theorem gX0_bestJoin_X0_hasBit : GoodIn wsX0_bestJoin (va_wsS RX0 84 yX0_hasBit wsX0_hasBit) := goodIn_app (goodIn_of _ (by decide +kernel)) ggX0_bestJoin_X0_hasBit
set_option maxRecDepth 20000 in
theorem ggX0_bestJoin_X0_cheapestCountWithJoin : GoodIn wsX0_bestJoin wsX0_cheapestCountWithJoin := goodIn_r _ [63, 13, 64, 8, 48, 49, 50, 51, 39, 40, 41, 6, 42, 15, 30, 31, 32, 33, 34, 22, 23, 24, 25, 26, 21, 27, 28, 29, 43, 44, 45, 46, 47, 14, 52, 53, 54, 55, 56, 57, 58, 59, 65, 66, 67, 68, 69, 70, 71, 72, 73, 74, 75, 76, 77, 78, 79, 80, 81, 82] (by decide +kernel) (by decide +kernel)
set_option maxRecDepth 20000 in
theorem gX0_bestJoin_X0_cheapestCountWithJoin : GoodIn wsX0_bestJoin (wsV RX0 157 RX0 yX0_cheapestCountWithJoin wsX0_cheapestCountWithJoin) := goodIn_app (goodIn_of _ (by decide +kernel)) ggX0_bestJoin_X0_cheapestCountWithJoin
theorem dX0_bestJoin_0 : decode cX0_bestJoin 0 = .ok (.aload_n 0, 1) := by decide +kernel
theorem dX0_bestJoin_1 : decode cX0_bestJoin 1 = .ok (.invokevirtual 148, 3) := by decide +kernel
theorem dX0_bestJoin_4 : decode cX0_bestJoin 4 = .ok (.istore_n 1, 1) := by decide +kernel
theorem dX0_bestJoin_5 : decode cX0_bestJoin 5 = .ok (.iconst (-1), 1) := by decide +kernel
theorem dX0_bestJoin_6 : decode cX0_bestJoin 6 = .ok (.istore_n 2, 1) := by decide +kernel
theorem dX0_bestJoin_7 : decode cX0_bestJoin 7 = .ok (.iconst 0, 1) := by decide +kernel
theorem dX0_bestJoin_8 : decode cX0_bestJoin 8 = .ok (.istore_n 3, 1) := by decide +kernel
theorem dX0_bestJoin_9 : decode cX0_bestJoin 9 = .ok (.iload_n 3, 1) := by decide +kernel
theorem dX0_bestJoin_10 : decode cX0_bestJoin 10 = .ok (.aload_n 0, 1) := by decide +kernel
theorem dX0_bestJoin_11 : decode cX0_bestJoin 11 = .ok (.getfield 19, 3) := by decide +kernel
theorem dX0_bestJoin_14 : decode cX0_bestJoin 14 = .ok (.if_icmp .ge 67, 3) := by decide +kernel
theorem dX0_bestJoin_17 : decode cX0_bestJoin 17 = .ok (.iconst 0, 1) := by decide +kernel
theorem dX0_bestJoin_18 : decode cX0_bestJoin 18 = .ok (.istore 4, 2) := by decide +kernel
theorem dX0_bestJoin_20 : decode cX0_bestJoin 20 = .ok (.iload 4, 2) := by decide +kernel
theorem dX0_bestJoin_22 : decode cX0_bestJoin 22 = .ok (.aload_n 0, 1) := by decide +kernel
theorem dX0_bestJoin_23 : decode cX0_bestJoin 23 = .ok (.getfield 19, 3) := by decide +kernel
theorem dX0_bestJoin_26 : decode cX0_bestJoin 26 = .ok (.if_icmp .ge 49, 3) := by decide +kernel
theorem dX0_bestJoin_29 : decode cX0_bestJoin 29 = .ok (.aload_n 0, 1) := by decide +kernel
theorem dX0_bestJoin_30 : decode cX0_bestJoin 30 = .ok (.getfield 16, 3) := by decide +kernel
theorem dX0_bestJoin_33 : decode cX0_bestJoin 33 = .ok (.iload_n 3, 1) := by decide +kernel
theorem dX0_bestJoin_34 : decode cX0_bestJoin 34 = .ok (.iaload, 1) := by decide +kernel
theorem dX0_bestJoin_35 : decode cX0_bestJoin 35 = .ok (.iload 4, 2) := by decide +kernel
theorem dX0_bestJoin_37 : decode cX0_bestJoin 37 = .ok (.invokestatic 84, 3) := by decide +kernel
theorem dX0_bestJoin_40 : decode cX0_bestJoin 40 = .ok (.ifCond .ne 29, 3) := by decide +kernel
theorem dX0_bestJoin_43 : decode cX0_bestJoin 43 = .ok (.aload_n 0, 1) := by decide +kernel
theorem dX0_bestJoin_44 : decode cX0_bestJoin 44 = .ok (.iload_n 3, 1) := by decide +kernel
theorem dX0_bestJoin_45 : decode cX0_bestJoin 45 = .ok (.iload 4, 2) := by decide +kernel
theorem dX0_bestJoin_47 : decode cX0_bestJoin 47 = .ok (.invokevirtual 157, 3) := by decide +kernel
theorem dX0_bestJoin_50 : decode cX0_bestJoin 50 = .ok (.istore 5, 2) := by decide +kernel
theorem dX0_bestJoin_52 : decode cX0_bestJoin 52 = .ok (.iload 5, 2) := by decide +kernel
theorem dX0_bestJoin_54 : decode cX0_bestJoin 54 = .ok (.iload_n 1, 1) := by decide +kernel
theorem dX0_bestJoin_55 : decode cX0_bestJoin 55 = .ok (.if_icmp .ge 14, 3) := by decide +kernel
theorem dX0_bestJoin_58 : decode cX0_bestJoin 58 = .ok (.iload 5, 2) := by decide +kernel
theorem dX0_bestJoin_60 : decode cX0_bestJoin 60 = .ok (.istore_n 1, 1) := by decide +kernel
theorem dX0_bestJoin_61 : decode cX0_bestJoin 61 = .ok (.iload_n 3, 1) := by decide +kernel
theorem dX0_bestJoin_62 : decode cX0_bestJoin 62 = .ok (.bipush 100, 2) := by decide +kernel
theorem dX0_bestJoin_64 : decode cX0_bestJoin 64 = .ok (.imul, 1) := by decide +kernel
theorem dX0_bestJoin_65 : decode cX0_bestJoin 65 = .ok (.iload 4, 2) := by decide +kernel
theorem dX0_bestJoin_67 : decode cX0_bestJoin 67 = .ok (.iadd, 1) := by decide +kernel
theorem dX0_bestJoin_68 : decode cX0_bestJoin 68 = .ok (.istore_n 2, 1) := by decide +kernel
theorem dX0_bestJoin_69 : decode cX0_bestJoin 69 = .ok (.iinc 4 1, 3) := by decide +kernel
theorem dX0_bestJoin_72 : decode cX0_bestJoin 72 = .ok (.goto (-52), 3) := by decide +kernel
theorem dX0_bestJoin_75 : decode cX0_bestJoin 75 = .ok (.iinc 3 1, 3) := by decide +kernel
theorem dX0_bestJoin_78 : decode cX0_bestJoin 78 = .ok (.goto (-69), 3) := by decide +kernel
theorem dX0_bestJoin_81 : decode cX0_bestJoin 81 = .ok (.iload_n 2, 1) := by decide +kernel
theorem dX0_bestJoin_82 : decode cX0_bestJoin 82 = .ok (.ireturn, 1) := by decide +kernel
theorem dX0_meanCost_0 : decode cX0_meanCost 0 = .ok (.aload_n 0, 1) := by decide +kernel
theorem dX0_meanCost_1 : decode cX0_meanCost 1 = .ok (.getfield 42, 3) := by decide +kernel
theorem dX0_meanCost_4 : decode cX0_meanCost 4 = .ok (.ifCond .ne 5, 3) := by decide +kernel
theorem dX0_meanCost_7 : decode cX0_meanCost 7 = .ok (.dconst 0, 1) := by decide +kernel
theorem dX0_meanCost_8 : decode cX0_meanCost 8 = .ok (.dreturn, 1) := by decide +kernel
theorem dX0_meanCost_9 : decode cX0_meanCost 9 = .ok (.aload_n 0, 1) := by decide +kernel
theorem dX0_meanCost_10 : decode cX0_meanCost 10 = .ok (.getfield 45, 3) := by decide +kernel
theorem dX0_meanCost_13 : decode cX0_meanCost 13 = .ok (.i2d, 1) := by decide +kernel
theorem dX0_meanCost_14 : decode cX0_meanCost 14 = .ok (.aload_n 0, 1) := by decide +kernel
theorem dX0_meanCost_15 : decode cX0_meanCost 15 = .ok (.getfield 42, 3) := by decide +kernel
theorem dX0_meanCost_18 : decode cX0_meanCost 18 = .ok (.i2d, 1) := by decide +kernel
theorem dX0_meanCost_19 : decode cX0_meanCost 19 = .ok (.ddiv, 1) := by decide +kernel
theorem dX0_meanCost_20 : decode cX0_meanCost 20 = .ok (.dreturn, 1) := by decide +kernel
set_option maxRecDepth 20000 in
theorem ggX0_digest_X0_count : GoodIn wsX0_digest wsX0_count := goodIn_r _ [14, 7, 15, 16, 17, 18, 19, 20, 13, 21, 22, 23, 24, 25, 4, 26, 27, 28, 29, 5, 30, 31, 32, 33, 113, 114, 115, 116, 117, 118, 119, 120, 121, 122, 123, 124, 125, 126, 127, 128, 129, 130] (by decide +kernel) (by decide +kernel)
set_option maxRecDepth 20000 in
theorem gX0_digest_X0_count : GoodIn wsX0_digest (wsV RX0 105 RX0 yX0_count wsX0_count) := goodIn_app (goodIn_of _ (by decide +kernel)) ggX0_digest_X0_count
set_option maxRecDepth 20000 in
theorem ggX0_digest_X0_price : GoodIn wsX0_digest wsX0_price := goodIn_r _ [37, 6, 10, 11, 12, 13, 14, 7, 15, 16, 17, 18, 19, 20, 21, 22, 23, 24, 25, 4, 26, 27, 28, 29, 5, 30, 31, 32, 33, 113, 114, 115, 116, 117, 118, 119, 120, 121, 122, 123, 124, 125, 126, 127, 128, 129, 130] (by decide +kernel) (by decide +kernel)
set_option maxRecDepth 20000 in
theorem gX0_digest_X0_price : GoodIn wsX0_digest (wsV RX0 138 RX0 yX0_price wsX0_price) := goodIn_app (goodIn_of _ (by decide +kernel)) ggX0_digest_X0_price
set_option maxRecDepth 20000 in
theorem ggX0_digest_X0_cheapestCount : GoodIn wsX0_digest wsX0_cheapestCount := goodIn_r _ [41, 42, 43, 44, 45, 13, 46, 7, 47, 17, 48, 49, 50, 51, 52, 16, 3, 53, 54, 55, 56, 57, 58, 59, 60, 22, 23, 24, 25, 4, 61, 62, 63, 64, 65, 18, 19, 20, 21, 66, 67, 68, 69, 70, 71, 72, 32, 73, 26, 27, 28, 29, 5, 30, 31, 33, 113, 114, 115, 116, 117, 118, 119, 120, 121, 122, 123, 124, 125, 126, 127, 128, 129, 130] (by decide +kernel) (by decide +kernel)
set_option maxRecDepth 20000 in
theorem gX0_digest_X0_cheapestCount : GoodIn wsX0_digest (wsV RX0 148 RX0 yX0_cheapestCount wsX0_cheapestCount) := goodIn_app (goodIn_of _ (by decide +kernel)) ggX0_digest_X0_cheapestCount
set_option maxRecDepth 20000 in
theorem ggX0_digest_X0_digestOfWords : GoodIn wsX0_digest wsX0_digestOfWords := goodIn_ca (goodIn_r _ [77, 3, 2, 17, 78, 79, 80, 13, 81, 82, 83, 84, 85, 86, 87, 22, 23, 24, 25, 4, 88, 89, 90, 91, 57, 92, 93, 94, 95, 96, 97, 98, 113, 114, 115, 116, 117, 118, 119, 120, 121, 122, 123, 124, 125, 126, 127, 128, 129, 130] (by decide +kernel) (by decide +kernel)) (goodIn_sub (fun _ h => List.mem_cons_of_mem _ (List.mem_append_right _ h)) (by decide +kernel))
set_option maxRecDepth 20000 in
theorem gX0_digest_X0_digestOfWords : GoodIn wsX0_digest (wsV RX0 164 RX0 yX0_digestOfWords wsX0_digestOfWords) := goodIn_app (goodIn_of _ (by decide +kernel)) ggX0_digest_X0_digestOfWords
set_option maxRecDepth 20000 in
theorem ggX0_digest_X0_digestOfPlaces : GoodIn wsX0_digest wsX0_digestOfPlaces := goodIn_r _ [102, 7, 2, 16, 15, 103, 104, 105, 106, 107, 13, 108, 42, 47, 70, 43, 44, 45, 46, 17, 48, 49, 50, 51, 52, 3, 53, 54, 55, 56, 57, 58, 59, 60, 22, 23, 24, 25, 4, 61, 62, 63, 64, 65, 18, 19, 20, 21, 66, 67, 68, 69, 71, 72, 32, 73, 109, 110, 111, 112, 113, 114, 115, 116, 117, 118, 119, 120, 121, 122, 123, 124, 125, 126, 127, 128, 129, 130] (by decide +kernel) (by decide +kernel)
set_option maxRecDepth 20000 in
theorem gX0_digest_X0_digestOfPlaces : GoodIn wsX0_digest (wsV RX0 168 RX0 yX0_digestOfPlaces wsX0_digestOfPlaces) := goodIn_app (goodIn_of _ (by decide +kernel)) ggX0_digest_X0_digestOfPlaces
theorem dX0_digest_0 : decode cX0_digest 0 = .ok (.ldc2_w 160, 3) := by decide +kernel
theorem dX0_digest_3 : decode cX0_digest 3 = .ok (.lstore_n 1, 1) := by decide +kernel
theorem dX0_digest_4 : decode cX0_digest 4 = .ok (.lload_n 1, 1) := by decide +kernel
theorem dX0_digest_5 : decode cX0_digest 5 = .ok (.ldc2_w 162, 3) := by decide +kernel
theorem dX0_digest_8 : decode cX0_digest 8 = .ok (.lmul, 1) := by decide +kernel
theorem dX0_digest_9 : decode cX0_digest 9 = .ok (.aload_n 0, 1) := by decide +kernel
theorem dX0_digest_10 : decode cX0_digest 10 = .ok (.getfield 19, 3) := by decide +kernel
theorem dX0_digest_13 : decode cX0_digest 13 = .ok (.i2l, 1) := by decide +kernel
theorem dX0_digest_14 : decode cX0_digest 14 = .ok (.ladd, 1) := by decide +kernel
theorem dX0_digest_15 : decode cX0_digest 15 = .ok (.lstore_n 1, 1) := by decide +kernel
theorem dX0_digest_16 : decode cX0_digest 16 = .ok (.lload_n 1, 1) := by decide +kernel
theorem dX0_digest_17 : decode cX0_digest 17 = .ok (.ldc2_w 162, 3) := by decide +kernel
theorem dX0_digest_20 : decode cX0_digest 20 = .ok (.lmul, 1) := by decide +kernel
theorem dX0_digest_21 : decode cX0_digest 21 = .ok (.aload_n 0, 1) := by decide +kernel
theorem dX0_digest_22 : decode cX0_digest 22 = .ok (.getfield 23, 3) := by decide +kernel
theorem dX0_digest_25 : decode cX0_digest 25 = .ok (.i2l, 1) := by decide +kernel
theorem dX0_digest_26 : decode cX0_digest 26 = .ok (.ladd, 1) := by decide +kernel
theorem dX0_digest_27 : decode cX0_digest 27 = .ok (.lstore_n 1, 1) := by decide +kernel
theorem dX0_digest_28 : decode cX0_digest 28 = .ok (.lload_n 1, 1) := by decide +kernel
theorem dX0_digest_29 : decode cX0_digest 29 = .ok (.ldc2_w 162, 3) := by decide +kernel
theorem dX0_digest_32 : decode cX0_digest 32 = .ok (.lmul, 1) := by decide +kernel
theorem dX0_digest_33 : decode cX0_digest 33 = .ok (.aload_n 0, 1) := by decide +kernel
theorem dX0_digest_34 : decode cX0_digest 34 = .ok (.getfield 26, 3) := by decide +kernel
theorem dX0_digest_37 : decode cX0_digest 37 = .ok (.i2l, 1) := by decide +kernel
theorem dX0_digest_38 : decode cX0_digest 38 = .ok (.ladd, 1) := by decide +kernel
theorem dX0_digest_39 : decode cX0_digest 39 = .ok (.lstore_n 1, 1) := by decide +kernel
theorem dX0_digest_40 : decode cX0_digest 40 = .ok (.lload_n 1, 1) := by decide +kernel
theorem dX0_digest_41 : decode cX0_digest 41 = .ok (.ldc2_w 162, 3) := by decide +kernel
theorem dX0_digest_44 : decode cX0_digest 44 = .ok (.lmul, 1) := by decide +kernel
theorem dX0_digest_45 : decode cX0_digest 45 = .ok (.aload_n 0, 1) := by decide +kernel
theorem dX0_digest_46 : decode cX0_digest 46 = .ok (.getfield 29, 3) := by decide +kernel
theorem dX0_digest_49 : decode cX0_digest 49 = .ok (.i2l, 1) := by decide +kernel
theorem dX0_digest_50 : decode cX0_digest 50 = .ok (.ladd, 1) := by decide +kernel
theorem dX0_digest_51 : decode cX0_digest 51 = .ok (.lstore_n 1, 1) := by decide +kernel
theorem dX0_digest_52 : decode cX0_digest 52 = .ok (.lload_n 1, 1) := by decide +kernel
theorem dX0_digest_53 : decode cX0_digest 53 = .ok (.ldc2_w 162, 3) := by decide +kernel
theorem dX0_digest_56 : decode cX0_digest 56 = .ok (.lmul, 1) := by decide +kernel
theorem dX0_digest_57 : decode cX0_digest 57 = .ok (.aload_n 0, 1) := by decide +kernel
theorem dX0_digest_58 : decode cX0_digest 58 = .ok (.getfield 39, 3) := by decide +kernel
theorem dX0_digest_61 : decode cX0_digest 61 = .ok (.i2l, 1) := by decide +kernel
theorem dX0_digest_62 : decode cX0_digest 62 = .ok (.ladd, 1) := by decide +kernel
theorem dX0_digest_63 : decode cX0_digest 63 = .ok (.lstore_n 1, 1) := by decide +kernel
theorem dX0_digest_64 : decode cX0_digest 64 = .ok (.lload_n 1, 1) := by decide +kernel
theorem dX0_digest_65 : decode cX0_digest 65 = .ok (.ldc2_w 162, 3) := by decide +kernel
theorem dX0_digest_68 : decode cX0_digest 68 = .ok (.lmul, 1) := by decide +kernel
theorem dX0_digest_69 : decode cX0_digest 69 = .ok (.aload_n 0, 1) := by decide +kernel
theorem dX0_digest_70 : decode cX0_digest 70 = .ok (.invokevirtual 105, 3) := by decide +kernel
theorem dX0_digest_73 : decode cX0_digest 73 = .ok (.i2l, 1) := by decide +kernel
theorem dX0_digest_74 : decode cX0_digest 74 = .ok (.ladd, 1) := by decide +kernel
theorem dX0_digest_75 : decode cX0_digest 75 = .ok (.lstore_n 1, 1) := by decide +kernel
theorem dX0_digest_76 : decode cX0_digest 76 = .ok (.lload_n 1, 1) := by decide +kernel
theorem dX0_digest_77 : decode cX0_digest 77 = .ok (.ldc2_w 162, 3) := by decide +kernel
theorem dX0_digest_80 : decode cX0_digest 80 = .ok (.lmul, 1) := by decide +kernel
theorem dX0_digest_81 : decode cX0_digest 81 = .ok (.aload_n 0, 1) := by decide +kernel
theorem dX0_digest_82 : decode cX0_digest 82 = .ok (.invokevirtual 138, 3) := by decide +kernel
theorem dX0_digest_85 : decode cX0_digest 85 = .ok (.i2l, 1) := by decide +kernel
theorem dX0_digest_86 : decode cX0_digest 86 = .ok (.ladd, 1) := by decide +kernel
theorem dX0_digest_87 : decode cX0_digest 87 = .ok (.lstore_n 1, 1) := by decide +kernel
theorem dX0_digest_88 : decode cX0_digest 88 = .ok (.lload_n 1, 1) := by decide +kernel
theorem dX0_digest_89 : decode cX0_digest 89 = .ok (.ldc2_w 162, 3) := by decide +kernel
theorem dX0_digest_92 : decode cX0_digest 92 = .ok (.lmul, 1) := by decide +kernel
theorem dX0_digest_93 : decode cX0_digest 93 = .ok (.aload_n 0, 1) := by decide +kernel
theorem dX0_digest_94 : decode cX0_digest 94 = .ok (.invokevirtual 148, 3) := by decide +kernel
theorem dX0_digest_97 : decode cX0_digest 97 = .ok (.i2l, 1) := by decide +kernel
theorem dX0_digest_98 : decode cX0_digest 98 = .ok (.ladd, 1) := by decide +kernel
theorem dX0_digest_99 : decode cX0_digest 99 = .ok (.lstore_n 1, 1) := by decide +kernel
theorem dX0_digest_100 : decode cX0_digest 100 = .ok (.lload_n 1, 1) := by decide +kernel
theorem dX0_digest_101 : decode cX0_digest 101 = .ok (.ldc2_w 162, 3) := by decide +kernel
theorem dX0_digest_104 : decode cX0_digest 104 = .ok (.lmul, 1) := by decide +kernel
theorem dX0_digest_105 : decode cX0_digest 105 = .ok (.aload_n 0, 1) := by decide +kernel
theorem dX0_digest_106 : decode cX0_digest 106 = .ok (.getfield 42, 3) := by decide +kernel
theorem dX0_digest_109 : decode cX0_digest 109 = .ok (.i2l, 1) := by decide +kernel
theorem dX0_digest_110 : decode cX0_digest 110 = .ok (.ladd, 1) := by decide +kernel
theorem dX0_digest_111 : decode cX0_digest 111 = .ok (.lstore_n 1, 1) := by decide +kernel
theorem dX0_digest_112 : decode cX0_digest 112 = .ok (.lload_n 1, 1) := by decide +kernel
theorem dX0_digest_113 : decode cX0_digest 113 = .ok (.ldc2_w 162, 3) := by decide +kernel
theorem dX0_digest_116 : decode cX0_digest 116 = .ok (.lmul, 1) := by decide +kernel
theorem dX0_digest_117 : decode cX0_digest 117 = .ok (.aload_n 0, 1) := by decide +kernel
theorem dX0_digest_118 : decode cX0_digest 118 = .ok (.getfield 45, 3) := by decide +kernel
theorem dX0_digest_121 : decode cX0_digest 121 = .ok (.i2l, 1) := by decide +kernel
theorem dX0_digest_122 : decode cX0_digest 122 = .ok (.ladd, 1) := by decide +kernel
theorem dX0_digest_123 : decode cX0_digest 123 = .ok (.lstore_n 1, 1) := by decide +kernel
theorem dX0_digest_124 : decode cX0_digest 124 = .ok (.aload_n 0, 1) := by decide +kernel
theorem dX0_digest_125 : decode cX0_digest 125 = .ok (.aload_n 0, 1) := by decide +kernel
theorem dX0_digest_126 : decode cX0_digest 126 = .ok (.lload_n 1, 1) := by decide +kernel
theorem dX0_digest_127 : decode cX0_digest 127 = .ok (.invokevirtual 164, 3) := by decide +kernel
theorem dX0_digest_130 : decode cX0_digest 130 = .ok (.invokevirtual 168, 3) := by decide +kernel
theorem dX0_digest_133 : decode cX0_digest 133 = .ok (.lreturn, 1) := by decide +kernel
theorem dX0_needWord_0 : decode cX0_needWord 0 = .ok (.iload_n 1, 1) := by decide +kernel
theorem dX0_needWord_1 : decode cX0_needWord 1 = .ok (.ifCond .lt 11, 3) := by decide +kernel
theorem dX0_needWord_4 : decode cX0_needWord 4 = .ok (.iload_n 1, 1) := by decide +kernel
theorem dX0_needWord_5 : decode cX0_needWord 5 = .ok (.aload_n 0, 1) := by decide +kernel
theorem dX0_needWord_6 : decode cX0_needWord 6 = .ok (.getfield 19, 3) := by decide +kernel
theorem dX0_needWord_9 : decode cX0_needWord 9 = .ok (.if_icmp .lt 13, 3) := by decide +kernel
theorem dX0_needWord_12 : decode cX0_needWord 12 = .ok (.new 133, 3) := by decide +kernel
theorem dX0_needWord_15 : decode cX0_needWord 15 = .ok (.dup, 1) := by decide +kernel
theorem dX0_needWord_16 : decode cX0_needWord 16 = .ok (.ldc 171, 2) := by decide +kernel
theorem dX0_needWord_18 : decode cX0_needWord 18 = .ok (.invokespecial 137, 3) := by decide +kernel
theorem dX0_needWord_21 : decode cX0_needWord 21 = .ok (.athrow, 1) := by decide +kernel
theorem dX0_needWord_22 : decode cX0_needWord 22 = .ok (.return_, 1) := by decide +kernel
theorem dX0_needPlace_0 : decode cX0_needPlace 0 = .ok (.iload_n 1, 1) := by decide +kernel
theorem dX0_needPlace_1 : decode cX0_needPlace 1 = .ok (.ifCond .lt 11, 3) := by decide +kernel
theorem dX0_needPlace_4 : decode cX0_needPlace 4 = .ok (.iload_n 1, 1) := by decide +kernel
theorem dX0_needPlace_5 : decode cX0_needPlace 5 = .ok (.aload_n 0, 1) := by decide +kernel
theorem dX0_needPlace_6 : decode cX0_needPlace 6 = .ok (.getfield 39, 3) := by decide +kernel
theorem dX0_needPlace_9 : decode cX0_needPlace 9 = .ok (.if_icmp .lt 13, 3) := by decide +kernel
theorem dX0_needPlace_12 : decode cX0_needPlace 12 = .ok (.new 133, 3) := by decide +kernel
theorem dX0_needPlace_15 : decode cX0_needPlace 15 = .ok (.dup, 1) := by decide +kernel
theorem dX0_needPlace_16 : decode cX0_needPlace 16 = .ok (.ldc 173, 2) := by decide +kernel
theorem dX0_needPlace_18 : decode cX0_needPlace 18 = .ok (.invokespecial 137, 3) := by decide +kernel
theorem dX0_needPlace_21 : decode cX0_needPlace 21 = .ok (.athrow, 1) := by decide +kernel
theorem dX0_needPlace_22 : decode cX0_needPlace 22 = .ok (.return_, 1) := by decide +kernel
theorem dX0_hasBit_0 : decode cX0_hasBit 0 = .ok (.iload_n 0, 1) := by decide +kernel
theorem dX0_hasBit_1 : decode cX0_hasBit 1 = .ok (.iload_n 1, 1) := by decide +kernel
theorem dX0_hasBit_2 : decode cX0_hasBit 2 = .ok (.ishr, 1) := by decide +kernel
theorem dX0_hasBit_3 : decode cX0_hasBit 3 = .ok (.iconst 1, 1) := by decide +kernel
theorem dX0_hasBit_4 : decode cX0_hasBit 4 = .ok (.iand, 1) := by decide +kernel
theorem dX0_hasBit_5 : decode cX0_hasBit 5 = .ok (.iconst 1, 1) := by decide +kernel
theorem dX0_hasBit_6 : decode cX0_hasBit 6 = .ok (.if_icmp .ne 7, 3) := by decide +kernel
theorem dX0_hasBit_9 : decode cX0_hasBit 9 = .ok (.iconst 1, 1) := by decide +kernel
theorem dX0_hasBit_10 : decode cX0_hasBit 10 = .ok (.goto 4, 3) := by decide +kernel
theorem dX0_hasBit_13 : decode cX0_hasBit 13 = .ok (.iconst 0, 1) := by decide +kernel
theorem dX0_hasBit_14 : decode cX0_hasBit 14 = .ok (.ireturn, 1) := by decide +kernel
theorem dX0_countOfLetters_0 : decode cX0_countOfLetters 0 = .ok (.iload_n 1, 1) := by decide +kernel
theorem dX0_countOfLetters_1 : decode cX0_countOfLetters 1 = .ok (.aload_n 0, 1) := by decide +kernel
theorem dX0_countOfLetters_2 : decode cX0_countOfLetters 2 = .ok (.getfield 23, 3) := by decide +kernel
theorem dX0_countOfLetters_5 : decode cX0_countOfLetters 5 = .ok (.iadd, 1) := by decide +kernel
theorem dX0_countOfLetters_6 : decode cX0_countOfLetters 6 = .ok (.iconst 1, 1) := by decide +kernel
theorem dX0_countOfLetters_7 : decode cX0_countOfLetters 7 = .ok (.isub, 1) := by decide +kernel
theorem dX0_countOfLetters_8 : decode cX0_countOfLetters 8 = .ok (.aload_n 0, 1) := by decide +kernel
theorem dX0_countOfLetters_9 : decode cX0_countOfLetters 9 = .ok (.getfield 23, 3) := by decide +kernel
theorem dX0_countOfLetters_12 : decode cX0_countOfLetters 12 = .ok (.idiv, 1) := by decide +kernel
theorem dX0_countOfLetters_13 : decode cX0_countOfLetters 13 = .ok (.ireturn, 1) := by decide +kernel
set_option maxRecDepth 20000 in
theorem ggX0_countOfPair_X0_countOfLetters : GoodIn wsX0_countOfPair wsX0_countOfLetters := goodIn_r _ [6, 7, 8, 9, 10, 11, 12, 13, 14, 15, 16, 17, 18, 19, 20, 21, 22, 23, 24, 25] (by decide +kernel) (by decide +kernel)
set_option maxRecDepth 20000 in
theorem gX0_countOfPair_X0_countOfLetters : GoodIn wsX0_countOfPair (wsV RX0 118 RX0 yX0_countOfLetters wsX0_countOfLetters) := goodIn_app (goodIn_of _ (by decide +kernel)) ggX0_countOfPair_X0_countOfLetters
theorem dX0_countOfPair_0 : decode cX0_countOfPair 0 = .ok (.aload_n 0, 1) := by decide +kernel
theorem dX0_countOfPair_1 : decode cX0_countOfPair 1 = .ok (.aload_n 0, 1) := by decide +kernel
theorem dX0_countOfPair_2 : decode cX0_countOfPair 2 = .ok (.getfield 9, 3) := by decide +kernel
theorem dX0_countOfPair_5 : decode cX0_countOfPair 5 = .ok (.iload_n 1, 1) := by decide +kernel
theorem dX0_countOfPair_6 : decode cX0_countOfPair 6 = .ok (.iaload, 1) := by decide +kernel
theorem dX0_countOfPair_7 : decode cX0_countOfPair 7 = .ok (.aload_n 0, 1) := by decide +kernel
theorem dX0_countOfPair_8 : decode cX0_countOfPair 8 = .ok (.getfield 9, 3) := by decide +kernel
theorem dX0_countOfPair_11 : decode cX0_countOfPair 11 = .ok (.iload_n 2, 1) := by decide +kernel
theorem dX0_countOfPair_12 : decode cX0_countOfPair 12 = .ok (.iaload, 1) := by decide +kernel
theorem dX0_countOfPair_13 : decode cX0_countOfPair 13 = .ok (.iadd, 1) := by decide +kernel
theorem dX0_countOfPair_14 : decode cX0_countOfPair 14 = .ok (.invokevirtual 118, 3) := by decide +kernel
theorem dX0_countOfPair_17 : decode cX0_countOfPair 17 = .ok (.ireturn, 1) := by decide +kernel
theorem dX0_atLeastTheLeastCount_0 : decode cX0_atLeastTheLeastCount 0 = .ok (.aload_n 0, 1) := by decide +kernel
theorem dX0_atLeastTheLeastCount_1 : decode cX0_atLeastTheLeastCount 1 = .ok (.getfield 39, 3) := by decide +kernel
theorem dX0_atLeastTheLeastCount_4 : decode cX0_atLeastTheLeastCount 4 = .ok (.ifCond .ne 7, 3) := by decide +kernel
theorem dX0_atLeastTheLeastCount_7 : decode cX0_atLeastTheLeastCount 7 = .ok (.iconst 0, 1) := by decide +kernel
theorem dX0_atLeastTheLeastCount_8 : decode cX0_atLeastTheLeastCount 8 = .ok (.goto 11, 3) := by decide +kernel
theorem dX0_atLeastTheLeastCount_11 : decode cX0_atLeastTheLeastCount 11 = .ok (.iload_n 1, 1) := by decide +kernel
theorem dX0_atLeastTheLeastCount_12 : decode cX0_atLeastTheLeastCount 12 = .ok (.aload_n 0, 1) := by decide +kernel
theorem dX0_atLeastTheLeastCount_13 : decode cX0_atLeastTheLeastCount 13 = .ok (.getfield 26, 3) := by decide +kernel
theorem dX0_atLeastTheLeastCount_16 : decode cX0_atLeastTheLeastCount 16 = .ok (.invokestatic 175, 3) := by decide +kernel
theorem dX0_atLeastTheLeastCount_19 : decode cX0_atLeastTheLeastCount 19 = .ok (.ireturn, 1) := by decide +kernel
set_option maxRecDepth 20000 in
theorem ggX0_couldBeJoined_X0_hasBit : GoodIn wsX0_couldBeJoined wsX0_hasBit := goodIn_r _ [7] (by decide +kernel) (by decide +kernel)
set_option maxRecDepth 20000 in
theorem gX0_couldBeJoined_X0_hasBit : GoodIn wsX0_couldBeJoined (va_wsS RX0 84 yX0_hasBit wsX0_hasBit) := goodIn_app (goodIn_of _ (by decide +kernel)) ggX0_couldBeJoined_X0_hasBit
theorem dX0_couldBeJoined_0 : decode cX0_couldBeJoined 0 = .ok (.iload_n 1, 1) := by decide +kernel
theorem dX0_couldBeJoined_1 : decode cX0_couldBeJoined 1 = .ok (.ifCond .le 14, 3) := by decide +kernel
theorem dX0_couldBeJoined_4 : decode cX0_couldBeJoined 4 = .ok (.aload_n 0, 1) := by decide +kernel
theorem dX0_couldBeJoined_5 : decode cX0_couldBeJoined 5 = .ok (.getfield 35, 3) := by decide +kernel
theorem dX0_couldBeJoined_8 : decode cX0_couldBeJoined 8 = .ok (.iload_n 1, 1) := by decide +kernel
theorem dX0_couldBeJoined_9 : decode cX0_couldBeJoined 9 = .ok (.iconst 1, 1) := by decide +kernel
theorem dX0_couldBeJoined_10 : decode cX0_couldBeJoined 10 = .ok (.isub, 1) := by decide +kernel
theorem dX0_couldBeJoined_11 : decode cX0_couldBeJoined 11 = .ok (.baload, 1) := by decide +kernel
theorem dX0_couldBeJoined_12 : decode cX0_couldBeJoined 12 = .ok (.ifCond .ne 14, 3) := by decide +kernel
theorem dX0_couldBeJoined_15 : decode cX0_couldBeJoined 15 = .ok (.aload_n 0, 1) := by decide +kernel
theorem dX0_couldBeJoined_16 : decode cX0_couldBeJoined 16 = .ok (.getfield 35, 3) := by decide +kernel
theorem dX0_couldBeJoined_19 : decode cX0_couldBeJoined 19 = .ok (.iload_n 1, 1) := by decide +kernel
theorem dX0_couldBeJoined_20 : decode cX0_couldBeJoined 20 = .ok (.iconst 1, 1) := by decide +kernel
theorem dX0_couldBeJoined_21 : decode cX0_couldBeJoined 21 = .ok (.iadd, 1) := by decide +kernel
theorem dX0_couldBeJoined_22 : decode cX0_couldBeJoined 22 = .ok (.baload, 1) := by decide +kernel
theorem dX0_couldBeJoined_23 : decode cX0_couldBeJoined 23 = .ok (.ifCond .eq 7, 3) := by decide +kernel
theorem dX0_couldBeJoined_26 : decode cX0_couldBeJoined 26 = .ok (.iconst 1, 1) := by decide +kernel
theorem dX0_couldBeJoined_27 : decode cX0_couldBeJoined 27 = .ok (.goto 4, 3) := by decide +kernel
theorem dX0_couldBeJoined_30 : decode cX0_couldBeJoined 30 = .ok (.iconst 0, 1) := by decide +kernel
theorem dX0_couldBeJoined_31 : decode cX0_couldBeJoined 31 = .ok (.istore_n 2, 1) := by decide +kernel
theorem dX0_couldBeJoined_32 : decode cX0_couldBeJoined 32 = .ok (.iload_n 2, 1) := by decide +kernel
theorem dX0_couldBeJoined_33 : decode cX0_couldBeJoined 33 = .ok (.ifCond .ne 32, 3) := by decide +kernel
theorem dX0_couldBeJoined_36 : decode cX0_couldBeJoined 36 = .ok (.aload_n 0, 1) := by decide +kernel
theorem dX0_couldBeJoined_37 : decode cX0_couldBeJoined 37 = .ok (.getfield 16, 3) := by decide +kernel
theorem dX0_couldBeJoined_40 : decode cX0_couldBeJoined 40 = .ok (.aload_n 0, 1) := by decide +kernel
theorem dX0_couldBeJoined_41 : decode cX0_couldBeJoined 41 = .ok (.getfield 32, 3) := by decide +kernel
theorem dX0_couldBeJoined_44 : decode cX0_couldBeJoined 44 = .ok (.iload_n 1, 1) := by decide +kernel
theorem dX0_couldBeJoined_45 : decode cX0_couldBeJoined 45 = .ok (.iaload, 1) := by decide +kernel
theorem dX0_couldBeJoined_46 : decode cX0_couldBeJoined 46 = .ok (.iaload, 1) := by decide +kernel
theorem dX0_couldBeJoined_47 : decode cX0_couldBeJoined 47 = .ok (.aload_n 0, 1) := by decide +kernel
theorem dX0_couldBeJoined_48 : decode cX0_couldBeJoined 48 = .ok (.getfield 32, 3) := by decide +kernel
theorem dX0_couldBeJoined_51 : decode cX0_couldBeJoined 51 = .ok (.iload_n 1, 1) := by decide +kernel
theorem dX0_couldBeJoined_52 : decode cX0_couldBeJoined 52 = .ok (.iconst 1, 1) := by decide +kernel
theorem dX0_couldBeJoined_53 : decode cX0_couldBeJoined 53 = .ok (.iadd, 1) := by decide +kernel
theorem dX0_couldBeJoined_54 : decode cX0_couldBeJoined 54 = .ok (.iaload, 1) := by decide +kernel
theorem dX0_couldBeJoined_55 : decode cX0_couldBeJoined 55 = .ok (.invokestatic 84, 3) := by decide +kernel
theorem dX0_couldBeJoined_58 : decode cX0_couldBeJoined 58 = .ok (.ifCond .eq 7, 3) := by decide +kernel
theorem dX0_couldBeJoined_61 : decode cX0_couldBeJoined 61 = .ok (.iconst 1, 1) := by decide +kernel
theorem dX0_couldBeJoined_62 : decode cX0_couldBeJoined 62 = .ok (.goto 4, 3) := by decide +kernel
theorem dX0_couldBeJoined_65 : decode cX0_couldBeJoined 65 = .ok (.iconst 0, 1) := by decide +kernel
theorem dX0_couldBeJoined_66 : decode cX0_couldBeJoined 66 = .ok (.ireturn, 1) := by decide +kernel
set_option maxRecDepth 20000 in
theorem ggX0_mayHold_X0_hasBit : GoodIn wsX0_mayHold wsX0_hasBit := goodIn_r _ [7] (by decide +kernel) (by decide +kernel)
set_option maxRecDepth 20000 in
theorem gX0_mayHold_X0_hasBit : GoodIn wsX0_mayHold (va_wsS RX0 84 yX0_hasBit wsX0_hasBit) := goodIn_app (goodIn_of _ (by decide +kernel)) ggX0_mayHold_X0_hasBit
theorem dX0_mayHold_0 : decode cX0_mayHold 0 = .ok (.iload_n 1, 1) := by decide +kernel
theorem dX0_mayHold_1 : decode cX0_mayHold 1 = .ok (.aload_n 0, 1) := by decide +kernel
theorem dX0_mayHold_2 : decode cX0_mayHold 2 = .ok (.getfield 39, 3) := by decide +kernel
theorem dX0_mayHold_5 : decode cX0_mayHold 5 = .ok (.if_icmp .ge 25, 3) := by decide +kernel
theorem dX0_mayHold_8 : decode cX0_mayHold 8 = .ok (.aload_n 0, 1) := by decide +kernel
theorem dX0_mayHold_9 : decode cX0_mayHold 9 = .ok (.getfield 13, 3) := by decide +kernel
theorem dX0_mayHold_12 : decode cX0_mayHold 12 = .ok (.aload_n 0, 1) := by decide +kernel
theorem dX0_mayHold_13 : decode cX0_mayHold 13 = .ok (.getfield 32, 3) := by decide +kernel
theorem dX0_mayHold_16 : decode cX0_mayHold 16 = .ok (.iload_n 1, 1) := by decide +kernel
theorem dX0_mayHold_17 : decode cX0_mayHold 17 = .ok (.iaload, 1) := by decide +kernel
theorem dX0_mayHold_18 : decode cX0_mayHold 18 = .ok (.iaload, 1) := by decide +kernel
theorem dX0_mayHold_19 : decode cX0_mayHold 19 = .ok (.iload_n 2, 1) := by decide +kernel
theorem dX0_mayHold_20 : decode cX0_mayHold 20 = .ok (.invokestatic 84, 3) := by decide +kernel
theorem dX0_mayHold_23 : decode cX0_mayHold 23 = .ok (.ifCond .eq 7, 3) := by decide +kernel
theorem dX0_mayHold_26 : decode cX0_mayHold 26 = .ok (.iconst 1, 1) := by decide +kernel
theorem dX0_mayHold_27 : decode cX0_mayHold 27 = .ok (.goto 4, 3) := by decide +kernel
theorem dX0_mayHold_30 : decode cX0_mayHold 30 = .ok (.iconst 0, 1) := by decide +kernel
theorem dX0_mayHold_31 : decode cX0_mayHold 31 = .ok (.ireturn, 1) := by decide +kernel
set_option maxRecDepth 20000 in
theorem ggX0_noteLeastCounts_X0_bestWordAt : GoodIn wsX0_noteLeastCounts wsX0_bestWordAt := goodIn_r _ [10, 11, 5, 12, 3, 13, 14, 15, 9, 16, 1, 17, 18, 19, 20, 21, 22, 23, 24, 25, 35, 36, 37, 38, 39, 40, 41, 42, 43, 44, 45, 46, 47, 48, 49, 50, 51, 52] (by decide +kernel) (by decide +kernel)
set_option maxRecDepth 20000 in
theorem gX0_noteLeastCounts_X0_bestWordAt : GoodIn wsX0_noteLeastCounts (wsV RX0 178 RX0 yX0_bestWordAt wsX0_bestWordAt) := goodIn_app (goodIn_of _ (by decide +kernel)) ggX0_noteLeastCounts_X0_bestWordAt
set_option maxRecDepth 20000 in
theorem ggX0_noteLeastCounts_X0_countOfLetters : GoodIn wsX0_noteLeastCounts wsX0_countOfLetters := goodIn_r _ [24, 25, 35, 36, 37, 38, 39, 40, 41, 42, 43, 44, 45, 46, 47, 48, 49, 50, 51, 52] (by decide +kernel) (by decide +kernel)
set_option maxRecDepth 20000 in
theorem gX0_noteLeastCounts_X0_countOfLetters : GoodIn wsX0_noteLeastCounts (wsV RX0 118 RX0 yX0_countOfLetters wsX0_countOfLetters) := goodIn_app (goodIn_of _ (by decide +kernel)) ggX0_noteLeastCounts_X0_countOfLetters
set_option maxRecDepth 20000 in
theorem ggX0_noteLeastCounts_X0_bestPairAt : GoodIn wsX0_noteLeastCounts wsX0_bestPairAt := goodIn_r _ [29, 5, 12, 30, 13, 14, 15, 9, 16, 1, 17, 11, 18, 19, 20, 31, 32, 33, 34, 3, 21, 22, 23, 24, 25, 35, 36, 37, 38, 39, 40, 41, 42, 43, 44, 45, 46, 47, 48, 49, 50, 51, 52] (by decide +kernel) (by decide +kernel)
set_option maxRecDepth 20000 in
theorem gX0_noteLeastCounts_X0_bestPairAt : GoodIn wsX0_noteLeastCounts (wsV RX0 181 RX0 yX0_bestPairAt wsX0_bestPairAt) := goodIn_app (goodIn_of _ (by decide +kernel)) ggX0_noteLeastCounts_X0_bestPairAt
set_option maxRecDepth 20000 in
theorem ggX0_noteLeastCounts_X0_countOfPair : GoodIn wsX0_noteLeastCounts wsX0_countOfPair := goodIn_r _ [34, 3, 21, 22, 23, 9, 24, 25, 35, 36, 37, 38, 39, 40, 41, 42, 43, 44, 45, 46, 47, 48, 49, 50, 51, 52] (by decide +kernel) (by decide +kernel)
set_option maxRecDepth 20000 in
theorem gX0_noteLeastCounts_X0_countOfPair : GoodIn wsX0_noteLeastCounts (wsV RX0 126 RX0 yX0_countOfPair wsX0_countOfPair) := goodIn_app (goodIn_of _ (by decide +kernel)) ggX0_noteLeastCounts_X0_countOfPair
theorem dX0_noteLeastCounts_0 : decode cX0_noteLeastCounts 0 = .ok (.iconst 0, 1) := by decide +kernel
theorem dX0_noteLeastCounts_1 : decode cX0_noteLeastCounts 1 = .ok (.istore_n 1, 1) := by decide +kernel
theorem dX0_noteLeastCounts_2 : decode cX0_noteLeastCounts 2 = .ok (.iload_n 1, 1) := by decide +kernel
theorem dX0_noteLeastCounts_3 : decode cX0_noteLeastCounts 3 = .ok (.aload_n 0, 1) := by decide +kernel
theorem dX0_noteLeastCounts_4 : decode cX0_noteLeastCounts 4 = .ok (.getfield 39, 3) := by decide +kernel
theorem dX0_noteLeastCounts_7 : decode cX0_noteLeastCounts 7 = .ok (.if_icmp .ge 63, 3) := by decide +kernel
theorem dX0_noteLeastCounts_10 : decode cX0_noteLeastCounts 10 = .ok (.aload_n 0, 1) := by decide +kernel
theorem dX0_noteLeastCounts_11 : decode cX0_noteLeastCounts 11 = .ok (.getfield 48, 3) := by decide +kernel
theorem dX0_noteLeastCounts_14 : decode cX0_noteLeastCounts 14 = .ok (.iload_n 1, 1) := by decide +kernel
theorem dX0_noteLeastCounts_15 : decode cX0_noteLeastCounts 15 = .ok (.aload_n 0, 1) := by decide +kernel
theorem dX0_noteLeastCounts_16 : decode cX0_noteLeastCounts 16 = .ok (.aload_n 0, 1) := by decide +kernel
theorem dX0_noteLeastCounts_17 : decode cX0_noteLeastCounts 17 = .ok (.getfield 9, 3) := by decide +kernel
theorem dX0_noteLeastCounts_20 : decode cX0_noteLeastCounts 20 = .ok (.aload_n 0, 1) := by decide +kernel
theorem dX0_noteLeastCounts_21 : decode cX0_noteLeastCounts 21 = .ok (.iload_n 1, 1) := by decide +kernel
theorem dX0_noteLeastCounts_22 : decode cX0_noteLeastCounts 22 = .ok (.invokevirtual 178, 3) := by decide +kernel
theorem dX0_noteLeastCounts_25 : decode cX0_noteLeastCounts 25 = .ok (.iaload, 1) := by decide +kernel
theorem dX0_noteLeastCounts_26 : decode cX0_noteLeastCounts 26 = .ok (.invokevirtual 118, 3) := by decide +kernel
theorem dX0_noteLeastCounts_29 : decode cX0_noteLeastCounts 29 = .ok (.iastore, 1) := by decide +kernel
theorem dX0_noteLeastCounts_30 : decode cX0_noteLeastCounts 30 = .ok (.aload_n 0, 1) := by decide +kernel
theorem dX0_noteLeastCounts_31 : decode cX0_noteLeastCounts 31 = .ok (.iload_n 1, 1) := by decide +kernel
theorem dX0_noteLeastCounts_32 : decode cX0_noteLeastCounts 32 = .ok (.invokevirtual 181, 3) := by decide +kernel
theorem dX0_noteLeastCounts_35 : decode cX0_noteLeastCounts 35 = .ok (.istore_n 2, 1) := by decide +kernel
theorem dX0_noteLeastCounts_36 : decode cX0_noteLeastCounts 36 = .ok (.aload_n 0, 1) := by decide +kernel
theorem dX0_noteLeastCounts_37 : decode cX0_noteLeastCounts 37 = .ok (.getfield 51, 3) := by decide +kernel
theorem dX0_noteLeastCounts_40 : decode cX0_noteLeastCounts 40 = .ok (.iload_n 1, 1) := by decide +kernel
theorem dX0_noteLeastCounts_41 : decode cX0_noteLeastCounts 41 = .ok (.iload_n 2, 1) := by decide +kernel
theorem dX0_noteLeastCounts_42 : decode cX0_noteLeastCounts 42 = .ok (.iconst (-1), 1) := by decide +kernel
theorem dX0_noteLeastCounts_43 : decode cX0_noteLeastCounts 43 = .ok (.if_icmp .ne 8, 3) := by decide +kernel
theorem dX0_noteLeastCounts_46 : decode cX0_noteLeastCounts 46 = .ok (.ldc 151, 2) := by decide +kernel
theorem dX0_noteLeastCounts_48 : decode cX0_noteLeastCounts 48 = .ok (.goto 15, 3) := by decide +kernel
theorem dX0_noteLeastCounts_51 : decode cX0_noteLeastCounts 51 = .ok (.aload_n 0, 1) := by decide +kernel
theorem dX0_noteLeastCounts_52 : decode cX0_noteLeastCounts 52 = .ok (.iload_n 2, 1) := by decide +kernel
theorem dX0_noteLeastCounts_53 : decode cX0_noteLeastCounts 53 = .ok (.bipush 100, 2) := by decide +kernel
theorem dX0_noteLeastCounts_55 : decode cX0_noteLeastCounts 55 = .ok (.idiv, 1) := by decide +kernel
theorem dX0_noteLeastCounts_56 : decode cX0_noteLeastCounts 56 = .ok (.iload_n 2, 1) := by decide +kernel
theorem dX0_noteLeastCounts_57 : decode cX0_noteLeastCounts 57 = .ok (.bipush 100, 2) := by decide +kernel
theorem dX0_noteLeastCounts_59 : decode cX0_noteLeastCounts 59 = .ok (.irem, 1) := by decide +kernel
theorem dX0_noteLeastCounts_60 : decode cX0_noteLeastCounts 60 = .ok (.invokevirtual 126, 3) := by decide +kernel
theorem dX0_noteLeastCounts_63 : decode cX0_noteLeastCounts 63 = .ok (.iastore, 1) := by decide +kernel
theorem dX0_noteLeastCounts_64 : decode cX0_noteLeastCounts 64 = .ok (.iinc 1 1, 3) := by decide +kernel
theorem dX0_noteLeastCounts_67 : decode cX0_noteLeastCounts 67 = .ok (.goto (-65), 3) := by decide +kernel
theorem dX0_noteLeastCounts_70 : decode cX0_noteLeastCounts 70 = .ok (.return_, 1) := by decide +kernel
set_option maxRecDepth 20000 in
theorem ggX0_bestWordAt_X0_mayHold : GoodIn wsX0_bestWordAt wsX0_mayHold := goodIn_r _ [9, 10, 11, 1, 12, 13, 8, 14, 20, 21, 22, 23, 24, 25, 26, 27, 28, 29, 30, 31, 32, 33, 34, 35, 36, 37] (by decide +kernel) (by decide +kernel)
set_option maxRecDepth 20000 in
theorem gX0_bestWordAt_X0_mayHold : GoodIn wsX0_bestWordAt (wsV RX0 184 RX0 yX0_mayHold wsX0_mayHold) := goodIn_app (goodIn_of _ (by decide +kernel)) ggX0_bestWordAt_X0_mayHold
set_option maxRecDepth 20000 in
theorem ggX0_bestWordAt_X0_countOfLetters : GoodIn wsX0_bestWordAt wsX0_countOfLetters := goodIn_r _ [18, 19, 20, 21, 22, 23, 24, 25, 26, 27, 28, 29, 30, 31, 32, 33, 34, 35, 36, 37] (by decide +kernel) (by decide +kernel)
set_option maxRecDepth 20000 in
theorem gX0_bestWordAt_X0_countOfLetters : GoodIn wsX0_bestWordAt (wsV RX0 118 RX0 yX0_countOfLetters wsX0_countOfLetters) := goodIn_app (goodIn_of _ (by decide +kernel)) ggX0_bestWordAt_X0_countOfLetters
theorem dX0_bestWordAt_0 : decode cX0_bestWordAt 0 = .ok (.aload_n 0, 1) := by decide +kernel
theorem dX0_bestWordAt_1 : decode cX0_bestWordAt 1 = .ok (.getfield 32, 3) := by decide +kernel
theorem dX0_bestWordAt_4 : decode cX0_bestWordAt 4 = .ok (.iload_n 1, 1) := by decide +kernel
theorem dX0_bestWordAt_5 : decode cX0_bestWordAt 5 = .ok (.iaload, 1) := by decide +kernel
theorem dX0_bestWordAt_6 : decode cX0_bestWordAt 6 = .ok (.istore_n 2, 1) := by decide +kernel
theorem dX0_bestWordAt_7 : decode cX0_bestWordAt 7 = .ok (.ldc 151, 2) := by decide +kernel
theorem dX0_bestWordAt_9 : decode cX0_bestWordAt 9 = .ok (.istore_n 3, 1) := by decide +kernel
theorem dX0_bestWordAt_10 : decode cX0_bestWordAt 10 = .ok (.iconst 0, 1) := by decide +kernel
theorem dX0_bestWordAt_11 : decode cX0_bestWordAt 11 = .ok (.istore 4, 2) := by decide +kernel
theorem dX0_bestWordAt_13 : decode cX0_bestWordAt 13 = .ok (.iload 4, 2) := by decide +kernel
theorem dX0_bestWordAt_15 : decode cX0_bestWordAt 15 = .ok (.aload_n 0, 1) := by decide +kernel
theorem dX0_bestWordAt_16 : decode cX0_bestWordAt 16 = .ok (.getfield 19, 3) := by decide +kernel
theorem dX0_bestWordAt_19 : decode cX0_bestWordAt 19 = .ok (.if_icmp .ge 49, 3) := by decide +kernel
theorem dX0_bestWordAt_22 : decode cX0_bestWordAt 22 = .ok (.aload_n 0, 1) := by decide +kernel
theorem dX0_bestWordAt_23 : decode cX0_bestWordAt 23 = .ok (.iload_n 1, 1) := by decide +kernel
theorem dX0_bestWordAt_24 : decode cX0_bestWordAt 24 = .ok (.iload 4, 2) := by decide +kernel
theorem dX0_bestWordAt_26 : decode cX0_bestWordAt 26 = .ok (.invokevirtual 184, 3) := by decide +kernel
theorem dX0_bestWordAt_29 : decode cX0_bestWordAt 29 = .ok (.ifCond .eq 33, 3) := by decide +kernel
theorem dX0_bestWordAt_32 : decode cX0_bestWordAt 32 = .ok (.aload_n 0, 1) := by decide +kernel
theorem dX0_bestWordAt_33 : decode cX0_bestWordAt 33 = .ok (.aload_n 0, 1) := by decide +kernel
theorem dX0_bestWordAt_34 : decode cX0_bestWordAt 34 = .ok (.getfield 9, 3) := by decide +kernel
theorem dX0_bestWordAt_37 : decode cX0_bestWordAt 37 = .ok (.iload 4, 2) := by decide +kernel
theorem dX0_bestWordAt_39 : decode cX0_bestWordAt 39 = .ok (.iaload, 1) := by decide +kernel
theorem dX0_bestWordAt_40 : decode cX0_bestWordAt 40 = .ok (.invokevirtual 118, 3) := by decide +kernel
theorem dX0_bestWordAt_43 : decode cX0_bestWordAt 43 = .ok (.iload_n 3, 1) := by decide +kernel
theorem dX0_bestWordAt_44 : decode cX0_bestWordAt 44 = .ok (.if_icmp .ge 18, 3) := by decide +kernel
theorem dX0_bestWordAt_47 : decode cX0_bestWordAt 47 = .ok (.iload 4, 2) := by decide +kernel
theorem dX0_bestWordAt_49 : decode cX0_bestWordAt 49 = .ok (.istore_n 2, 1) := by decide +kernel
theorem dX0_bestWordAt_50 : decode cX0_bestWordAt 50 = .ok (.aload_n 0, 1) := by decide +kernel
theorem dX0_bestWordAt_51 : decode cX0_bestWordAt 51 = .ok (.aload_n 0, 1) := by decide +kernel
theorem dX0_bestWordAt_52 : decode cX0_bestWordAt 52 = .ok (.getfield 9, 3) := by decide +kernel
theorem dX0_bestWordAt_55 : decode cX0_bestWordAt 55 = .ok (.iload 4, 2) := by decide +kernel
theorem dX0_bestWordAt_57 : decode cX0_bestWordAt 57 = .ok (.iaload, 1) := by decide +kernel
theorem dX0_bestWordAt_58 : decode cX0_bestWordAt 58 = .ok (.invokevirtual 118, 3) := by decide +kernel
theorem dX0_bestWordAt_61 : decode cX0_bestWordAt 61 = .ok (.istore_n 3, 1) := by decide +kernel
theorem dX0_bestWordAt_62 : decode cX0_bestWordAt 62 = .ok (.iinc 4 1, 3) := by decide +kernel
theorem dX0_bestWordAt_65 : decode cX0_bestWordAt 65 = .ok (.goto (-52), 3) := by decide +kernel
theorem dX0_bestWordAt_68 : decode cX0_bestWordAt 68 = .ok (.iload_n 2, 1) := by decide +kernel
theorem dX0_bestWordAt_69 : decode cX0_bestWordAt 69 = .ok (.ireturn, 1) := by decide +kernel
set_option maxRecDepth 20000 in
theorem ggX0_bestPairAt_X0_mayHold : GoodIn wsX0_bestPairAt wsX0_mayHold := goodIn_r _ [8, 9, 10, 11, 12, 13, 7, 14, 25, 26, 27, 28, 29, 30, 31, 32, 33, 34, 35, 36, 37, 38, 39, 40, 41, 42] (by decide +kernel) (by decide +kernel)
set_option maxRecDepth 20000 in
theorem gX0_bestPairAt_X0_mayHold : GoodIn wsX0_bestPairAt (wsV RX0 184 RX0 yX0_mayHold wsX0_mayHold) := goodIn_app (goodIn_of _ (by decide +kernel)) ggX0_bestPairAt_X0_mayHold
set_option maxRecDepth 20000 in
theorem ggX0_bestPairAt_X0_hasBit : GoodIn wsX0_bestPairAt wsX0_hasBit := goodIn_r _ [14] (by decide +kernel) (by decide +kernel)
set_option maxRecDepth 20000 in
theorem gX0_bestPairAt_X0_hasBit : GoodIn wsX0_bestPairAt (va_wsS RX0 84 yX0_hasBit wsX0_hasBit) := goodIn_app (goodIn_of _ (by decide +kernel)) ggX0_bestPairAt_X0_hasBit
set_option maxRecDepth 20000 in
theorem ggX0_bestPairAt_X0_countOfPair : GoodIn wsX0_bestPairAt wsX0_countOfPair := goodIn_r _ [18, 19, 20, 21, 22, 7, 23, 24, 25, 26, 27, 28, 29, 30, 31, 32, 33, 34, 35, 36, 37, 38, 39, 40, 41, 42] (by decide +kernel) (by decide +kernel)
set_option maxRecDepth 20000 in
theorem gX0_bestPairAt_X0_countOfPair : GoodIn wsX0_bestPairAt (wsV RX0 126 RX0 yX0_countOfPair wsX0_countOfPair) := goodIn_app (goodIn_of _ (by decide +kernel)) ggX0_bestPairAt_X0_countOfPair
theorem dX0_bestPairAt_0 : decode cX0_bestPairAt 0 = .ok (.iconst (-1), 1) := by decide +kernel
theorem dX0_bestPairAt_1 : decode cX0_bestPairAt 1 = .ok (.istore_n 2, 1) := by decide +kernel
theorem dX0_bestPairAt_2 : decode cX0_bestPairAt 2 = .ok (.ldc 151, 2) := by decide +kernel
theorem dX0_bestPairAt_4 : decode cX0_bestPairAt 4 = .ok (.istore_n 3, 1) := by decide +kernel
theorem dX0_bestPairAt_5 : decode cX0_bestPairAt 5 = .ok (.iconst 0, 1) := by decide +kernel
theorem dX0_bestPairAt_6 : decode cX0_bestPairAt 6 = .ok (.istore 4, 2) := by decide +kernel
theorem dX0_bestPairAt_8 : decode cX0_bestPairAt 8 = .ok (.iload 4, 2) := by decide +kernel
theorem dX0_bestPairAt_10 : decode cX0_bestPairAt 10 = .ok (.aload_n 0, 1) := by decide +kernel
theorem dX0_bestPairAt_11 : decode cX0_bestPairAt 11 = .ok (.getfield 19, 3) := by decide +kernel
theorem dX0_bestPairAt_14 : decode cX0_bestPairAt 14 = .ok (.if_icmp .ge 106, 3) := by decide +kernel
theorem dX0_bestPairAt_17 : decode cX0_bestPairAt 17 = .ok (.aload_n 0, 1) := by decide +kernel
theorem dX0_bestPairAt_18 : decode cX0_bestPairAt 18 = .ok (.iload_n 1, 1) := by decide +kernel
theorem dX0_bestPairAt_19 : decode cX0_bestPairAt 19 = .ok (.iload 4, 2) := by decide +kernel
theorem dX0_bestPairAt_21 : decode cX0_bestPairAt 21 = .ok (.invokevirtual 184, 3) := by decide +kernel
theorem dX0_bestPairAt_24 : decode cX0_bestPairAt 24 = .ok (.ifCond .eq 90, 3) := by decide +kernel
theorem dX0_bestPairAt_27 : decode cX0_bestPairAt 27 = .ok (.iconst 0, 1) := by decide +kernel
theorem dX0_bestPairAt_28 : decode cX0_bestPairAt 28 = .ok (.istore 5, 2) := by decide +kernel
theorem dX0_bestPairAt_30 : decode cX0_bestPairAt 30 = .ok (.iload 5, 2) := by decide +kernel
theorem dX0_bestPairAt_32 : decode cX0_bestPairAt 32 = .ok (.aload_n 0, 1) := by decide +kernel
theorem dX0_bestPairAt_33 : decode cX0_bestPairAt 33 = .ok (.getfield 19, 3) := by decide +kernel
theorem dX0_bestPairAt_36 : decode cX0_bestPairAt 36 = .ok (.if_icmp .ge 78, 3) := by decide +kernel
theorem dX0_bestPairAt_39 : decode cX0_bestPairAt 39 = .ok (.aload_n 0, 1) := by decide +kernel
theorem dX0_bestPairAt_40 : decode cX0_bestPairAt 40 = .ok (.iload_n 1, 1) := by decide +kernel
theorem dX0_bestPairAt_41 : decode cX0_bestPairAt 41 = .ok (.iconst 1, 1) := by decide +kernel
theorem dX0_bestPairAt_42 : decode cX0_bestPairAt 42 = .ok (.iadd, 1) := by decide +kernel
theorem dX0_bestPairAt_43 : decode cX0_bestPairAt 43 = .ok (.iload 5, 2) := by decide +kernel
theorem dX0_bestPairAt_45 : decode cX0_bestPairAt 45 = .ok (.invokevirtual 184, 3) := by decide +kernel
theorem dX0_bestPairAt_48 : decode cX0_bestPairAt 48 = .ok (.ifCond .eq 22, 3) := by decide +kernel
theorem dX0_bestPairAt_51 : decode cX0_bestPairAt 51 = .ok (.aload_n 0, 1) := by decide +kernel
theorem dX0_bestPairAt_52 : decode cX0_bestPairAt 52 = .ok (.getfield 16, 3) := by decide +kernel
theorem dX0_bestPairAt_55 : decode cX0_bestPairAt 55 = .ok (.iload 4, 2) := by decide +kernel
theorem dX0_bestPairAt_57 : decode cX0_bestPairAt 57 = .ok (.iaload, 1) := by decide +kernel
theorem dX0_bestPairAt_58 : decode cX0_bestPairAt 58 = .ok (.iload 5, 2) := by decide +kernel
theorem dX0_bestPairAt_60 : decode cX0_bestPairAt 60 = .ok (.invokestatic 84, 3) := by decide +kernel
theorem dX0_bestPairAt_63 : decode cX0_bestPairAt 63 = .ok (.ifCond .eq 7, 3) := by decide +kernel
theorem dX0_bestPairAt_66 : decode cX0_bestPairAt 66 = .ok (.iconst 1, 1) := by decide +kernel
theorem dX0_bestPairAt_67 : decode cX0_bestPairAt 67 = .ok (.goto 4, 3) := by decide +kernel
theorem dX0_bestPairAt_70 : decode cX0_bestPairAt 70 = .ok (.iconst 0, 1) := by decide +kernel
theorem dX0_bestPairAt_71 : decode cX0_bestPairAt 71 = .ok (.istore 6, 2) := by decide +kernel
theorem dX0_bestPairAt_73 : decode cX0_bestPairAt 73 = .ok (.iload 6, 2) := by decide +kernel
theorem dX0_bestPairAt_75 : decode cX0_bestPairAt 75 = .ok (.ifCond .eq 33, 3) := by decide +kernel
theorem dX0_bestPairAt_78 : decode cX0_bestPairAt 78 = .ok (.aload_n 0, 1) := by decide +kernel
theorem dX0_bestPairAt_79 : decode cX0_bestPairAt 79 = .ok (.iload 4, 2) := by decide +kernel
theorem dX0_bestPairAt_81 : decode cX0_bestPairAt 81 = .ok (.iload 5, 2) := by decide +kernel
theorem dX0_bestPairAt_83 : decode cX0_bestPairAt 83 = .ok (.invokevirtual 126, 3) := by decide +kernel
theorem dX0_bestPairAt_86 : decode cX0_bestPairAt 86 = .ok (.iload_n 3, 1) := by decide +kernel
theorem dX0_bestPairAt_87 : decode cX0_bestPairAt 87 = .ok (.if_icmp .ge 21, 3) := by decide +kernel
theorem dX0_bestPairAt_90 : decode cX0_bestPairAt 90 = .ok (.iload 4, 2) := by decide +kernel
theorem dX0_bestPairAt_92 : decode cX0_bestPairAt 92 = .ok (.bipush 100, 2) := by decide +kernel
theorem dX0_bestPairAt_94 : decode cX0_bestPairAt 94 = .ok (.imul, 1) := by decide +kernel
theorem dX0_bestPairAt_95 : decode cX0_bestPairAt 95 = .ok (.iload 5, 2) := by decide +kernel
theorem dX0_bestPairAt_97 : decode cX0_bestPairAt 97 = .ok (.iadd, 1) := by decide +kernel
theorem dX0_bestPairAt_98 : decode cX0_bestPairAt 98 = .ok (.istore_n 2, 1) := by decide +kernel
theorem dX0_bestPairAt_99 : decode cX0_bestPairAt 99 = .ok (.aload_n 0, 1) := by decide +kernel
theorem dX0_bestPairAt_100 : decode cX0_bestPairAt 100 = .ok (.iload 4, 2) := by decide +kernel
theorem dX0_bestPairAt_102 : decode cX0_bestPairAt 102 = .ok (.iload 5, 2) := by decide +kernel
theorem dX0_bestPairAt_104 : decode cX0_bestPairAt 104 = .ok (.invokevirtual 126, 3) := by decide +kernel
theorem dX0_bestPairAt_107 : decode cX0_bestPairAt 107 = .ok (.istore_n 3, 1) := by decide +kernel
theorem dX0_bestPairAt_108 : decode cX0_bestPairAt 108 = .ok (.iinc 5 1, 3) := by decide +kernel
theorem dX0_bestPairAt_111 : decode cX0_bestPairAt 111 = .ok (.goto (-81), 3) := by decide +kernel
theorem dX0_bestPairAt_114 : decode cX0_bestPairAt 114 = .ok (.iinc 4 1, 3) := by decide +kernel
theorem dX0_bestPairAt_117 : decode cX0_bestPairAt 117 = .ok (.goto (-109), 3) := by decide +kernel
theorem dX0_bestPairAt_120 : decode cX0_bestPairAt 120 = .ok (.iload_n 2, 1) := by decide +kernel
theorem dX0_bestPairAt_121 : decode cX0_bestPairAt 121 = .ok (.ireturn, 1) := by decide +kernel
theorem dX0_leastInAll_0 : decode cX0_leastInAll 0 = .ok (.aload_n 0, 1) := by decide +kernel
theorem dX0_leastInAll_1 : decode cX0_leastInAll 1 = .ok (.getfield 57, 3) := by decide +kernel
theorem dX0_leastInAll_4 : decode cX0_leastInAll 4 = .ok (.aload_n 0, 1) := by decide +kernel
theorem dX0_leastInAll_5 : decode cX0_leastInAll 5 = .ok (.getfield 39, 3) := by decide +kernel
theorem dX0_leastInAll_8 : decode cX0_leastInAll 8 = .ok (.iconst 0, 1) := by decide +kernel
theorem dX0_leastInAll_9 : decode cX0_leastInAll 9 = .ok (.iastore, 1) := by decide +kernel
theorem dX0_leastInAll_10 : decode cX0_leastInAll 10 = .ok (.aload_n 0, 1) := by decide +kernel
theorem dX0_leastInAll_11 : decode cX0_leastInAll 11 = .ok (.getfield 57, 3) := by decide +kernel
theorem dX0_leastInAll_14 : decode cX0_leastInAll 14 = .ok (.aload_n 0, 1) := by decide +kernel
theorem dX0_leastInAll_15 : decode cX0_leastInAll 15 = .ok (.getfield 39, 3) := by decide +kernel
theorem dX0_leastInAll_18 : decode cX0_leastInAll 18 = .ok (.iconst 1, 1) := by decide +kernel
theorem dX0_leastInAll_19 : decode cX0_leastInAll 19 = .ok (.iadd, 1) := by decide +kernel
theorem dX0_leastInAll_20 : decode cX0_leastInAll 20 = .ok (.iconst 0, 1) := by decide +kernel
theorem dX0_leastInAll_21 : decode cX0_leastInAll 21 = .ok (.iastore, 1) := by decide +kernel
theorem dX0_leastInAll_22 : decode cX0_leastInAll 22 = .ok (.aload_n 0, 1) := by decide +kernel
theorem dX0_leastInAll_23 : decode cX0_leastInAll 23 = .ok (.getfield 39, 3) := by decide +kernel
theorem dX0_leastInAll_26 : decode cX0_leastInAll 26 = .ok (.iconst 1, 1) := by decide +kernel
theorem dX0_leastInAll_27 : decode cX0_leastInAll 27 = .ok (.isub, 1) := by decide +kernel
theorem dX0_leastInAll_28 : decode cX0_leastInAll 28 = .ok (.istore_n 2, 1) := by decide +kernel
theorem dX0_leastInAll_29 : decode cX0_leastInAll 29 = .ok (.iload_n 2, 1) := by decide +kernel
theorem dX0_leastInAll_30 : decode cX0_leastInAll 30 = .ok (.ifCond .lt 47, 3) := by decide +kernel
theorem dX0_leastInAll_33 : decode cX0_leastInAll 33 = .ok (.aload_n 0, 1) := by decide +kernel
theorem dX0_leastInAll_34 : decode cX0_leastInAll 34 = .ok (.getfield 48, 3) := by decide +kernel
theorem dX0_leastInAll_37 : decode cX0_leastInAll 37 = .ok (.iload_n 2, 1) := by decide +kernel
theorem dX0_leastInAll_38 : decode cX0_leastInAll 38 = .ok (.iaload, 1) := by decide +kernel
theorem dX0_leastInAll_39 : decode cX0_leastInAll 39 = .ok (.aload_n 0, 1) := by decide +kernel
theorem dX0_leastInAll_40 : decode cX0_leastInAll 40 = .ok (.getfield 57, 3) := by decide +kernel
theorem dX0_leastInAll_43 : decode cX0_leastInAll 43 = .ok (.iload_n 2, 1) := by decide +kernel
theorem dX0_leastInAll_44 : decode cX0_leastInAll 44 = .ok (.iconst 1, 1) := by decide +kernel
theorem dX0_leastInAll_45 : decode cX0_leastInAll 45 = .ok (.iadd, 1) := by decide +kernel
theorem dX0_leastInAll_46 : decode cX0_leastInAll 46 = .ok (.iaload, 1) := by decide +kernel
theorem dX0_leastInAll_47 : decode cX0_leastInAll 47 = .ok (.iadd, 1) := by decide +kernel
theorem dX0_leastInAll_48 : decode cX0_leastInAll 48 = .ok (.istore_n 3, 1) := by decide +kernel
theorem dX0_leastInAll_49 : decode cX0_leastInAll 49 = .ok (.aload_n 0, 1) := by decide +kernel
theorem dX0_leastInAll_50 : decode cX0_leastInAll 50 = .ok (.getfield 57, 3) := by decide +kernel
theorem dX0_leastInAll_53 : decode cX0_leastInAll 53 = .ok (.iload_n 2, 1) := by decide +kernel
theorem dX0_leastInAll_54 : decode cX0_leastInAll 54 = .ok (.iload_n 3, 1) := by decide +kernel
theorem dX0_leastInAll_55 : decode cX0_leastInAll 55 = .ok (.aload_n 1, 1) := by decide +kernel
theorem dX0_leastInAll_56 : decode cX0_leastInAll 56 = .ok (.iload_n 2, 1) := by decide +kernel
theorem dX0_leastInAll_57 : decode cX0_leastInAll 57 = .ok (.iaload, 1) := by decide +kernel
theorem dX0_leastInAll_58 : decode cX0_leastInAll 58 = .ok (.aload_n 0, 1) := by decide +kernel
theorem dX0_leastInAll_59 : decode cX0_leastInAll 59 = .ok (.getfield 57, 3) := by decide +kernel
theorem dX0_leastInAll_62 : decode cX0_leastInAll 62 = .ok (.iload_n 2, 1) := by decide +kernel
theorem dX0_leastInAll_63 : decode cX0_leastInAll 63 = .ok (.iconst 2, 1) := by decide +kernel
theorem dX0_leastInAll_64 : decode cX0_leastInAll 64 = .ok (.iadd, 1) := by decide +kernel
theorem dX0_leastInAll_65 : decode cX0_leastInAll 65 = .ok (.iaload, 1) := by decide +kernel
theorem dX0_leastInAll_66 : decode cX0_leastInAll 66 = .ok (.iadd, 1) := by decide +kernel
theorem dX0_leastInAll_67 : decode cX0_leastInAll 67 = .ok (.invokestatic 152, 3) := by decide +kernel
theorem dX0_leastInAll_70 : decode cX0_leastInAll 70 = .ok (.iastore, 1) := by decide +kernel
theorem dX0_leastInAll_71 : decode cX0_leastInAll 71 = .ok (.iinc 2 (-1), 3) := by decide +kernel
theorem dX0_leastInAll_74 : decode cX0_leastInAll 74 = .ok (.goto (-45), 3) := by decide +kernel
theorem dX0_leastInAll_77 : decode cX0_leastInAll 77 = .ok (.aload_n 0, 1) := by decide +kernel
theorem dX0_leastInAll_78 : decode cX0_leastInAll 78 = .ok (.getfield 57, 3) := by decide +kernel
theorem dX0_leastInAll_81 : decode cX0_leastInAll 81 = .ok (.iconst 0, 1) := by decide +kernel
theorem dX0_leastInAll_82 : decode cX0_leastInAll 82 = .ok (.iaload, 1) := by decide +kernel
theorem dX0_leastInAll_83 : decode cX0_leastInAll 83 = .ok (.ireturn, 1) := by decide +kernel
set_option maxRecDepth 20000 in
theorem ggX0_cheapestCountWithJoin_X0_countOfPair : GoodIn wsX0_cheapestCountWithJoin wsX0_countOfPair := goodIn_r _ [12, 13, 14, 15, 16, 11, 17, 18, 42, 43, 44, 45, 46, 47, 48, 49, 50, 51, 52, 53, 54, 55, 56, 57, 58, 59] (by decide +kernel) (by decide +kernel)
set_option maxRecDepth 20000 in
theorem gX0_cheapestCountWithJoin_X0_countOfPair : GoodIn wsX0_cheapestCountWithJoin (wsV RX0 126 RX0 yX0_countOfPair wsX0_countOfPair) := goodIn_app (goodIn_of _ (by decide +kernel)) ggX0_cheapestCountWithJoin_X0_countOfPair
set_option maxRecDepth 20000 in
theorem ggX0_cheapestCountWithJoin_X0_mayHold : GoodIn wsX0_cheapestCountWithJoin wsX0_mayHold := goodIn_r _ [22, 1, 23, 24, 25, 26, 11, 27, 42, 43, 44, 45, 46, 47, 48, 49, 50, 51, 52, 53, 54, 55, 56, 57, 58, 59] (by decide +kernel) (by decide +kernel)
set_option maxRecDepth 20000 in
theorem gX0_cheapestCountWithJoin_X0_mayHold : GoodIn wsX0_cheapestCountWithJoin (wsV RX0 184 RX0 yX0_mayHold wsX0_mayHold) := goodIn_app (goodIn_of _ (by decide +kernel)) ggX0_cheapestCountWithJoin_X0_mayHold
set_option maxRecDepth 20000 in
theorem ggX0_cheapestCountWithJoin_X0_leastInAll : GoodIn wsX0_cheapestCountWithJoin wsX0_leastInAll := goodIn_r _ [31, 32, 1, 33, 4, 5, 6, 7, 42, 43, 44, 45, 46, 47, 48, 49, 50, 51, 52, 53, 54, 55, 56, 57, 58, 59] (by decide +kernel) (by decide +kernel)
set_option maxRecDepth 20000 in
theorem gX0_cheapestCountWithJoin_X0_leastInAll : GoodIn wsX0_cheapestCountWithJoin (wsV RX0 144 RX0 yX0_leastInAll wsX0_leastInAll) := goodIn_app (goodIn_of _ (by decide +kernel)) ggX0_cheapestCountWithJoin_X0_leastInAll
set_option maxRecDepth 20000 in
theorem ggX0_cheapestCountWithJoin_X0_atLeastTheLeastCount : GoodIn wsX0_cheapestCountWithJoin wsX0_atLeastTheLeastCount := goodIn_r _ [37, 1, 38, 39, 40, 6, 41, 42, 43, 44, 45, 46, 47, 48, 49, 50, 51, 52, 53, 54, 55, 56, 57, 58, 59] (by decide +kernel) (by decide +kernel)
set_option maxRecDepth 20000 in
theorem gX0_cheapestCountWithJoin_X0_atLeastTheLeastCount : GoodIn wsX0_cheapestCountWithJoin (wsV RX0 130 RX0 yX0_atLeastTheLeastCount wsX0_atLeastTheLeastCount) := goodIn_app (goodIn_of _ (by decide +kernel)) ggX0_cheapestCountWithJoin_X0_atLeastTheLeastCount
theorem dX0_cheapestCountWithJoin_0 : decode cX0_cheapestCountWithJoin 0 = .ok (.aload_n 0, 1) := by decide +kernel
theorem dX0_cheapestCountWithJoin_1 : decode cX0_cheapestCountWithJoin 1 = .ok (.iload_n 1, 1) := by decide +kernel
theorem dX0_cheapestCountWithJoin_2 : decode cX0_cheapestCountWithJoin 2 = .ok (.iload_n 2, 1) := by decide +kernel
theorem dX0_cheapestCountWithJoin_3 : decode cX0_cheapestCountWithJoin 3 = .ok (.invokevirtual 126, 3) := by decide +kernel
theorem dX0_cheapestCountWithJoin_6 : decode cX0_cheapestCountWithJoin 6 = .ok (.istore_n 3, 1) := by decide +kernel
theorem dX0_cheapestCountWithJoin_7 : decode cX0_cheapestCountWithJoin 7 = .ok (.iconst 0, 1) := by decide +kernel
theorem dX0_cheapestCountWithJoin_8 : decode cX0_cheapestCountWithJoin 8 = .ok (.istore 4, 2) := by decide +kernel
theorem dX0_cheapestCountWithJoin_10 : decode cX0_cheapestCountWithJoin 10 = .ok (.iload 4, 2) := by decide +kernel
theorem dX0_cheapestCountWithJoin_12 : decode cX0_cheapestCountWithJoin 12 = .ok (.aload_n 0, 1) := by decide +kernel
theorem dX0_cheapestCountWithJoin_13 : decode cX0_cheapestCountWithJoin 13 = .ok (.getfield 39, 3) := by decide +kernel
theorem dX0_cheapestCountWithJoin_16 : decode cX0_cheapestCountWithJoin 16 = .ok (.if_icmp .ge 71, 3) := by decide +kernel
theorem dX0_cheapestCountWithJoin_19 : decode cX0_cheapestCountWithJoin 19 = .ok (.aload_n 0, 1) := by decide +kernel
theorem dX0_cheapestCountWithJoin_20 : decode cX0_cheapestCountWithJoin 20 = .ok (.iload 4, 2) := by decide +kernel
theorem dX0_cheapestCountWithJoin_22 : decode cX0_cheapestCountWithJoin 22 = .ok (.iload_n 1, 1) := by decide +kernel
theorem dX0_cheapestCountWithJoin_23 : decode cX0_cheapestCountWithJoin 23 = .ok (.invokevirtual 184, 3) := by decide +kernel
theorem dX0_cheapestCountWithJoin_26 : decode cX0_cheapestCountWithJoin 26 = .ok (.ifCond .eq 19, 3) := by decide +kernel
theorem dX0_cheapestCountWithJoin_29 : decode cX0_cheapestCountWithJoin 29 = .ok (.aload_n 0, 1) := by decide +kernel
theorem dX0_cheapestCountWithJoin_30 : decode cX0_cheapestCountWithJoin 30 = .ok (.iload 4, 2) := by decide +kernel
theorem dX0_cheapestCountWithJoin_32 : decode cX0_cheapestCountWithJoin 32 = .ok (.iconst 1, 1) := by decide +kernel
theorem dX0_cheapestCountWithJoin_33 : decode cX0_cheapestCountWithJoin 33 = .ok (.iadd, 1) := by decide +kernel
theorem dX0_cheapestCountWithJoin_34 : decode cX0_cheapestCountWithJoin 34 = .ok (.iload_n 2, 1) := by decide +kernel
theorem dX0_cheapestCountWithJoin_35 : decode cX0_cheapestCountWithJoin 35 = .ok (.invokevirtual 184, 3) := by decide +kernel
theorem dX0_cheapestCountWithJoin_38 : decode cX0_cheapestCountWithJoin 38 = .ok (.ifCond .eq 7, 3) := by decide +kernel
theorem dX0_cheapestCountWithJoin_41 : decode cX0_cheapestCountWithJoin 41 = .ok (.iconst 1, 1) := by decide +kernel
theorem dX0_cheapestCountWithJoin_42 : decode cX0_cheapestCountWithJoin 42 = .ok (.goto 4, 3) := by decide +kernel
theorem dX0_cheapestCountWithJoin_45 : decode cX0_cheapestCountWithJoin 45 = .ok (.iconst 0, 1) := by decide +kernel
theorem dX0_cheapestCountWithJoin_46 : decode cX0_cheapestCountWithJoin 46 = .ok (.istore 5, 2) := by decide +kernel
theorem dX0_cheapestCountWithJoin_48 : decode cX0_cheapestCountWithJoin 48 = .ok (.aload_n 0, 1) := by decide +kernel
theorem dX0_cheapestCountWithJoin_49 : decode cX0_cheapestCountWithJoin 49 = .ok (.getfield 54, 3) := by decide +kernel
theorem dX0_cheapestCountWithJoin_52 : decode cX0_cheapestCountWithJoin 52 = .ok (.iload 4, 2) := by decide +kernel
theorem dX0_cheapestCountWithJoin_54 : decode cX0_cheapestCountWithJoin 54 = .ok (.iload 5, 2) := by decide +kernel
theorem dX0_cheapestCountWithJoin_56 : decode cX0_cheapestCountWithJoin 56 = .ok (.ifCond .eq 17, 3) := by decide +kernel
theorem dX0_cheapestCountWithJoin_59 : decode cX0_cheapestCountWithJoin 59 = .ok (.aload_n 0, 1) := by decide +kernel
theorem dX0_cheapestCountWithJoin_60 : decode cX0_cheapestCountWithJoin 60 = .ok (.getfield 51, 3) := by decide +kernel
theorem dX0_cheapestCountWithJoin_63 : decode cX0_cheapestCountWithJoin 63 = .ok (.iload 4, 2) := by decide +kernel
theorem dX0_cheapestCountWithJoin_65 : decode cX0_cheapestCountWithJoin 65 = .ok (.iaload, 1) := by decide +kernel
theorem dX0_cheapestCountWithJoin_66 : decode cX0_cheapestCountWithJoin 66 = .ok (.iload_n 3, 1) := by decide +kernel
theorem dX0_cheapestCountWithJoin_67 : decode cX0_cheapestCountWithJoin 67 = .ok (.invokestatic 152, 3) := by decide +kernel
theorem dX0_cheapestCountWithJoin_70 : decode cX0_cheapestCountWithJoin 70 = .ok (.goto 10, 3) := by decide +kernel
theorem dX0_cheapestCountWithJoin_73 : decode cX0_cheapestCountWithJoin 73 = .ok (.aload_n 0, 1) := by decide +kernel
theorem dX0_cheapestCountWithJoin_74 : decode cX0_cheapestCountWithJoin 74 = .ok (.getfield 51, 3) := by decide +kernel
theorem dX0_cheapestCountWithJoin_77 : decode cX0_cheapestCountWithJoin 77 = .ok (.iload 4, 2) := by decide +kernel
theorem dX0_cheapestCountWithJoin_79 : decode cX0_cheapestCountWithJoin 79 = .ok (.iaload, 1) := by decide +kernel
theorem dX0_cheapestCountWithJoin_80 : decode cX0_cheapestCountWithJoin 80 = .ok (.iastore, 1) := by decide +kernel
theorem dX0_cheapestCountWithJoin_81 : decode cX0_cheapestCountWithJoin 81 = .ok (.iinc 4 1, 3) := by decide +kernel
theorem dX0_cheapestCountWithJoin_84 : decode cX0_cheapestCountWithJoin 84 = .ok (.goto (-74), 3) := by decide +kernel
theorem dX0_cheapestCountWithJoin_87 : decode cX0_cheapestCountWithJoin 87 = .ok (.aload_n 0, 1) := by decide +kernel
theorem dX0_cheapestCountWithJoin_88 : decode cX0_cheapestCountWithJoin 88 = .ok (.aload_n 0, 1) := by decide +kernel
theorem dX0_cheapestCountWithJoin_89 : decode cX0_cheapestCountWithJoin 89 = .ok (.aload_n 0, 1) := by decide +kernel
theorem dX0_cheapestCountWithJoin_90 : decode cX0_cheapestCountWithJoin 90 = .ok (.getfield 54, 3) := by decide +kernel
theorem dX0_cheapestCountWithJoin_93 : decode cX0_cheapestCountWithJoin 93 = .ok (.invokevirtual 144, 3) := by decide +kernel
theorem dX0_cheapestCountWithJoin_96 : decode cX0_cheapestCountWithJoin 96 = .ok (.invokevirtual 130, 3) := by decide +kernel
theorem dX0_cheapestCountWithJoin_99 : decode cX0_cheapestCountWithJoin 99 = .ok (.ireturn, 1) := by decide +kernel
set_option maxRecDepth 20000 in
theorem ggX0_noteCheapestWording_X0_noteLeastCounts : GoodIn wsX0_noteCheapestWording wsX0_noteLeastCounts := goodIn_r _ [9, 2, 3, 10, 1, 11, 12, 13, 14, 8, 15, 16, 17, 18, 19, 20, 21, 22, 23, 24, 25, 26, 27, 28, 29, 30, 31, 32, 33, 34, 35, 36, 37, 38, 39, 54, 55, 56, 57, 58, 59, 60, 61, 62, 63, 64, 65, 66, 67, 68, 69, 70, 71] (by decide +kernel) (by decide +kernel)
set_option maxRecDepth 20000 in
theorem gX0_noteCheapestWording_X0_noteLeastCounts : GoodIn wsX0_noteCheapestWording (wsV RX0 141 RX0 yX0_noteLeastCounts wsX0_noteLeastCounts) := goodIn_app (goodIn_of _ (by decide +kernel)) ggX0_noteCheapestWording_X0_noteLeastCounts
set_option maxRecDepth 20000 in
theorem ggX0_noteCheapestWording_X0_leastInAll : GoodIn wsX0_noteCheapestWording wsX0_leastInAll := goodIn_r _ [43, 4, 2, 3, 44, 45, 46, 47, 54, 55, 56, 57, 58, 59, 60, 61, 62, 63, 64, 65, 66, 67, 68, 69, 70, 71] (by decide +kernel) (by decide +kernel)
set_option maxRecDepth 20000 in
theorem gX0_noteCheapestWording_X0_leastInAll : GoodIn wsX0_noteCheapestWording (wsV RX0 144 RX0 yX0_leastInAll wsX0_leastInAll) := goodIn_app (goodIn_of _ (by decide +kernel)) ggX0_noteCheapestWording_X0_leastInAll
set_option maxRecDepth 20000 in
theorem ggX0_noteCheapestWording_X0_bestPairAt : GoodIn wsX0_noteCheapestWording wsX0_bestPairAt := goodIn_r _ [34, 11, 17, 35, 18, 19, 20, 8, 21, 2, 22, 16, 23, 24, 25, 36, 37, 38, 39, 10, 26, 27, 28, 29, 30, 54, 55, 56, 57, 58, 59, 60, 61, 62, 63, 64, 65, 66, 67, 68, 69, 70, 71] (by decide +kernel) (by decide +kernel)
set_option maxRecDepth 20000 in
theorem gX0_noteCheapestWording_X0_bestPairAt : GoodIn wsX0_noteCheapestWording (wsV RX0 181 RX0 yX0_bestPairAt wsX0_bestPairAt) := goodIn_app (goodIn_of _ (by decide +kernel)) ggX0_noteCheapestWording_X0_bestPairAt
set_option maxRecDepth 20000 in
theorem ggX0_noteCheapestWording_X0_bestWordAt : GoodIn wsX0_noteCheapestWording wsX0_bestWordAt := goodIn_r _ [15, 16, 11, 17, 10, 18, 19, 20, 8, 21, 2, 22, 23, 24, 25, 26, 27, 28, 29, 30, 54, 55, 56, 57, 58, 59, 60, 61, 62, 63, 64, 65, 66, 67, 68, 69, 70, 71] (by decide +kernel) (by decide +kernel)
set_option maxRecDepth 20000 in
theorem gX0_noteCheapestWording_X0_bestWordAt : GoodIn wsX0_noteCheapestWording (wsV RX0 178 RX0 yX0_bestWordAt wsX0_bestWordAt) := goodIn_app (goodIn_of _ (by decide +kernel)) ggX0_noteCheapestWording_X0_bestWordAt
set_option maxRecDepth 20000 in
theorem ggX0_noteCheapestWording_X0_noteCheapestAt : GoodIn wsX0_noteCheapestWording wsX0_noteCheapestAt := goodIn_r _ [51, 52, 53, 54, 55, 56, 57, 58, 59, 60, 61, 62, 63, 64, 65, 66, 67, 68, 69, 70, 71] (by decide +kernel) (by decide +kernel)
set_option maxRecDepth 20000 in
theorem gX0_noteCheapestWording_X0_noteCheapestAt : GoodIn wsX0_noteCheapestWording (wsV RX0 187 RX0 yX0_noteCheapestAt wsX0_noteCheapestAt) := goodIn_app (goodIn_of _ (by decide +kernel)) ggX0_noteCheapestWording_X0_noteCheapestAt
theorem dX0_noteCheapestWording_0 : decode cX0_noteCheapestWording 0 = .ok (.aload_n 0, 1) := by decide +kernel
theorem dX0_noteCheapestWording_1 : decode cX0_noteCheapestWording 1 = .ok (.invokevirtual 141, 3) := by decide +kernel
theorem dX0_noteCheapestWording_4 : decode cX0_noteCheapestWording 4 = .ok (.aload_n 0, 1) := by decide +kernel
theorem dX0_noteCheapestWording_5 : decode cX0_noteCheapestWording 5 = .ok (.aload_n 0, 1) := by decide +kernel
theorem dX0_noteCheapestWording_6 : decode cX0_noteCheapestWording 6 = .ok (.getfield 51, 3) := by decide +kernel
theorem dX0_noteCheapestWording_9 : decode cX0_noteCheapestWording 9 = .ok (.invokevirtual 144, 3) := by decide +kernel
theorem dX0_noteCheapestWording_12 : decode cX0_noteCheapestWording 12 = .ok (.pop, 1) := by decide +kernel
theorem dX0_noteCheapestWording_13 : decode cX0_noteCheapestWording 13 = .ok (.iconst 0, 1) := by decide +kernel
theorem dX0_noteCheapestWording_14 : decode cX0_noteCheapestWording 14 = .ok (.istore_n 1, 1) := by decide +kernel
theorem dX0_noteCheapestWording_15 : decode cX0_noteCheapestWording 15 = .ok (.iload_n 1, 1) := by decide +kernel
theorem dX0_noteCheapestWording_16 : decode cX0_noteCheapestWording 16 = .ok (.aload_n 0, 1) := by decide +kernel
theorem dX0_noteCheapestWording_17 : decode cX0_noteCheapestWording 17 = .ok (.getfield 39, 3) := by decide +kernel
theorem dX0_noteCheapestWording_20 : decode cX0_noteCheapestWording 20 = .ok (.if_icmp .ge 83, 3) := by decide +kernel
theorem dX0_noteCheapestWording_23 : decode cX0_noteCheapestWording 23 = .ok (.aload_n 0, 1) := by decide +kernel
theorem dX0_noteCheapestWording_24 : decode cX0_noteCheapestWording 24 = .ok (.iload_n 1, 1) := by decide +kernel
theorem dX0_noteCheapestWording_25 : decode cX0_noteCheapestWording 25 = .ok (.invokevirtual 181, 3) := by decide +kernel
theorem dX0_noteCheapestWording_28 : decode cX0_noteCheapestWording 28 = .ok (.istore_n 2, 1) := by decide +kernel
theorem dX0_noteCheapestWording_29 : decode cX0_noteCheapestWording 29 = .ok (.iload_n 2, 1) := by decide +kernel
theorem dX0_noteCheapestWording_30 : decode cX0_noteCheapestWording 30 = .ok (.iconst (-1), 1) := by decide +kernel
theorem dX0_noteCheapestWording_31 : decode cX0_noteCheapestWording 31 = .ok (.if_icmp .eq 27, 3) := by decide +kernel
theorem dX0_noteCheapestWording_34 : decode cX0_noteCheapestWording 34 = .ok (.aload_n 0, 1) := by decide +kernel
theorem dX0_noteCheapestWording_35 : decode cX0_noteCheapestWording 35 = .ok (.getfield 48, 3) := by decide +kernel
theorem dX0_noteCheapestWording_38 : decode cX0_noteCheapestWording 38 = .ok (.iload_n 1, 1) := by decide +kernel
theorem dX0_noteCheapestWording_39 : decode cX0_noteCheapestWording 39 = .ok (.iaload, 1) := by decide +kernel
theorem dX0_noteCheapestWording_40 : decode cX0_noteCheapestWording 40 = .ok (.aload_n 0, 1) := by decide +kernel
theorem dX0_noteCheapestWording_41 : decode cX0_noteCheapestWording 41 = .ok (.getfield 57, 3) := by decide +kernel
theorem dX0_noteCheapestWording_44 : decode cX0_noteCheapestWording 44 = .ok (.iload_n 1, 1) := by decide +kernel
theorem dX0_noteCheapestWording_45 : decode cX0_noteCheapestWording 45 = .ok (.iconst 1, 1) := by decide +kernel
theorem dX0_noteCheapestWording_46 : decode cX0_noteCheapestWording 46 = .ok (.iadd, 1) := by decide +kernel
theorem dX0_noteCheapestWording_47 : decode cX0_noteCheapestWording 47 = .ok (.iaload, 1) := by decide +kernel
theorem dX0_noteCheapestWording_48 : decode cX0_noteCheapestWording 48 = .ok (.iadd, 1) := by decide +kernel
theorem dX0_noteCheapestWording_49 : decode cX0_noteCheapestWording 49 = .ok (.aload_n 0, 1) := by decide +kernel
theorem dX0_noteCheapestWording_50 : decode cX0_noteCheapestWording 50 = .ok (.getfield 57, 3) := by decide +kernel
theorem dX0_noteCheapestWording_53 : decode cX0_noteCheapestWording 53 = .ok (.iload_n 1, 1) := by decide +kernel
theorem dX0_noteCheapestWording_54 : decode cX0_noteCheapestWording 54 = .ok (.iaload, 1) := by decide +kernel
theorem dX0_noteCheapestWording_55 : decode cX0_noteCheapestWording 55 = .ok (.if_icmp .ne 20, 3) := by decide +kernel
theorem dX0_noteCheapestWording_58 : decode cX0_noteCheapestWording 58 = .ok (.aload_n 0, 1) := by decide +kernel
theorem dX0_noteCheapestWording_59 : decode cX0_noteCheapestWording 59 = .ok (.iload_n 1, 1) := by decide +kernel
theorem dX0_noteCheapestWording_60 : decode cX0_noteCheapestWording 60 = .ok (.aload_n 0, 1) := by decide +kernel
theorem dX0_noteCheapestWording_61 : decode cX0_noteCheapestWording 61 = .ok (.iload_n 1, 1) := by decide +kernel
theorem dX0_noteCheapestWording_62 : decode cX0_noteCheapestWording 62 = .ok (.invokevirtual 178, 3) := by decide +kernel
theorem dX0_noteCheapestWording_65 : decode cX0_noteCheapestWording 65 = .ok (.iconst 0, 1) := by decide +kernel
theorem dX0_noteCheapestWording_66 : decode cX0_noteCheapestWording 66 = .ok (.invokevirtual 187, 3) := by decide +kernel
theorem dX0_noteCheapestWording_69 : decode cX0_noteCheapestWording 69 = .ok (.iinc 1 1, 3) := by decide +kernel
theorem dX0_noteCheapestWording_72 : decode cX0_noteCheapestWording 72 = .ok (.goto 28, 3) := by decide +kernel
theorem dX0_noteCheapestWording_75 : decode cX0_noteCheapestWording 75 = .ok (.aload_n 0, 1) := by decide +kernel
theorem dX0_noteCheapestWording_76 : decode cX0_noteCheapestWording 76 = .ok (.iload_n 1, 1) := by decide +kernel
theorem dX0_noteCheapestWording_77 : decode cX0_noteCheapestWording 77 = .ok (.iload_n 2, 1) := by decide +kernel
theorem dX0_noteCheapestWording_78 : decode cX0_noteCheapestWording 78 = .ok (.bipush 100, 2) := by decide +kernel
theorem dX0_noteCheapestWording_80 : decode cX0_noteCheapestWording 80 = .ok (.idiv, 1) := by decide +kernel
theorem dX0_noteCheapestWording_81 : decode cX0_noteCheapestWording 81 = .ok (.iconst 1, 1) := by decide +kernel
theorem dX0_noteCheapestWording_82 : decode cX0_noteCheapestWording 82 = .ok (.invokevirtual 187, 3) := by decide +kernel
theorem dX0_noteCheapestWording_85 : decode cX0_noteCheapestWording 85 = .ok (.aload_n 0, 1) := by decide +kernel
theorem dX0_noteCheapestWording_86 : decode cX0_noteCheapestWording 86 = .ok (.iload_n 1, 1) := by decide +kernel
theorem dX0_noteCheapestWording_87 : decode cX0_noteCheapestWording 87 = .ok (.iconst 1, 1) := by decide +kernel
theorem dX0_noteCheapestWording_88 : decode cX0_noteCheapestWording 88 = .ok (.iadd, 1) := by decide +kernel
theorem dX0_noteCheapestWording_89 : decode cX0_noteCheapestWording 89 = .ok (.iload_n 2, 1) := by decide +kernel
theorem dX0_noteCheapestWording_90 : decode cX0_noteCheapestWording 90 = .ok (.bipush 100, 2) := by decide +kernel
theorem dX0_noteCheapestWording_92 : decode cX0_noteCheapestWording 92 = .ok (.irem, 1) := by decide +kernel
theorem dX0_noteCheapestWording_93 : decode cX0_noteCheapestWording 93 = .ok (.iconst 0, 1) := by decide +kernel
theorem dX0_noteCheapestWording_94 : decode cX0_noteCheapestWording 94 = .ok (.invokevirtual 187, 3) := by decide +kernel
theorem dX0_noteCheapestWording_97 : decode cX0_noteCheapestWording 97 = .ok (.iinc 1 2, 3) := by decide +kernel
theorem dX0_noteCheapestWording_100 : decode cX0_noteCheapestWording 100 = .ok (.goto (-85), 3) := by decide +kernel
theorem dX0_noteCheapestWording_103 : decode cX0_noteCheapestWording 103 = .ok (.return_, 1) := by decide +kernel
theorem dX0_noteCheapestAt_0 : decode cX0_noteCheapestAt 0 = .ok (.aload_n 0, 1) := by decide +kernel
theorem dX0_noteCheapestAt_1 : decode cX0_noteCheapestAt 1 = .ok (.getfield 60, 3) := by decide +kernel
theorem dX0_noteCheapestAt_4 : decode cX0_noteCheapestAt 4 = .ok (.iload_n 1, 1) := by decide +kernel
theorem dX0_noteCheapestAt_5 : decode cX0_noteCheapestAt 5 = .ok (.iload_n 2, 1) := by decide +kernel
theorem dX0_noteCheapestAt_6 : decode cX0_noteCheapestAt 6 = .ok (.iastore, 1) := by decide +kernel
theorem dX0_noteCheapestAt_7 : decode cX0_noteCheapestAt 7 = .ok (.aload_n 0, 1) := by decide +kernel
theorem dX0_noteCheapestAt_8 : decode cX0_noteCheapestAt 8 = .ok (.getfield 63, 3) := by decide +kernel
theorem dX0_noteCheapestAt_11 : decode cX0_noteCheapestAt 11 = .ok (.iload_n 1, 1) := by decide +kernel
theorem dX0_noteCheapestAt_12 : decode cX0_noteCheapestAt 12 = .ok (.iload_n 3, 1) := by decide +kernel
theorem dX0_noteCheapestAt_13 : decode cX0_noteCheapestAt 13 = .ok (.bastore, 1) := by decide +kernel
theorem dX0_noteCheapestAt_14 : decode cX0_noteCheapestAt 14 = .ok (.return_, 1) := by decide +kernel
set_option maxRecDepth 20000 in
theorem ggX0_digestOfWords_X0_countOf : GoodIn wsX0_digestOfWords wsX0_countOf := goodIn_ca (goodIn_r _ [8, 3, 9, 10, 11, 7, 12, 13, 14, 1, 15, 16, 17, 18, 19, 32, 33, 34, 35, 36, 37, 38, 39, 40, 41, 42, 43, 44, 45, 46, 47, 48, 49] (by decide +kernel) (by decide +kernel)) (goodIn_sub (fun _ h => List.mem_cons_of_mem _ (List.mem_append_right _ h)) (by decide +kernel))
set_option maxRecDepth 20000 in
theorem gX0_digestOfWords_X0_countOf : GoodIn wsX0_digestOfWords (wsV RX0 191 RX0 yX0_countOf wsX0_countOf) := goodIn_app (goodIn_of _ (by decide +kernel)) ggX0_digestOfWords_X0_countOf
set_option maxRecDepth 20000 in
theorem ggX0_digestOfWords_X0_standInsOf : GoodIn wsX0_digestOfWords wsX0_standInsOf := goodIn_ca (goodIn_r _ [23, 24, 9, 10, 11, 7, 12, 13, 14, 1, 25, 26, 27, 28, 29, 30, 31, 32, 33, 34, 35, 36, 37, 38, 39, 40, 41, 42, 43, 44, 45, 46, 47, 48, 49] (by decide +kernel) (by decide +kernel)) (goodIn_sub (fun _ h => List.mem_cons_of_mem _ (List.mem_append_right _ h)) (by decide +kernel))
set_option maxRecDepth 20000 in
theorem gX0_digestOfWords_X0_standInsOf : GoodIn wsX0_digestOfWords (wsV RX0 194 RX0 yX0_standInsOf wsX0_standInsOf) := goodIn_app (goodIn_of _ (by decide +kernel)) ggX0_digestOfWords_X0_standInsOf
theorem dX0_digestOfWords_0 : decode cX0_digestOfWords 0 = .ok (.lload_n 1, 1) := by decide +kernel
theorem dX0_digestOfWords_1 : decode cX0_digestOfWords 1 = .ok (.lstore_n 3, 1) := by decide +kernel
theorem dX0_digestOfWords_2 : decode cX0_digestOfWords 2 = .ok (.iconst 0, 1) := by decide +kernel
theorem dX0_digestOfWords_3 : decode cX0_digestOfWords 3 = .ok (.istore 5, 2) := by decide +kernel
theorem dX0_digestOfWords_5 : decode cX0_digestOfWords 5 = .ok (.iload 5, 2) := by decide +kernel
theorem dX0_digestOfWords_7 : decode cX0_digestOfWords 7 = .ok (.aload_n 0, 1) := by decide +kernel
theorem dX0_digestOfWords_8 : decode cX0_digestOfWords 8 = .ok (.getfield 19, 3) := by decide +kernel
theorem dX0_digestOfWords_11 : decode cX0_digestOfWords 11 = .ok (.if_icmp .ge 52, 3) := by decide +kernel
theorem dX0_digestOfWords_14 : decode cX0_digestOfWords 14 = .ok (.lload_n 3, 1) := by decide +kernel
theorem dX0_digestOfWords_15 : decode cX0_digestOfWords 15 = .ok (.ldc2_w 162, 3) := by decide +kernel
theorem dX0_digestOfWords_18 : decode cX0_digestOfWords 18 = .ok (.lmul, 1) := by decide +kernel
theorem dX0_digestOfWords_19 : decode cX0_digestOfWords 19 = .ok (.aload_n 0, 1) := by decide +kernel
theorem dX0_digestOfWords_20 : decode cX0_digestOfWords 20 = .ok (.getfield 9, 3) := by decide +kernel
theorem dX0_digestOfWords_23 : decode cX0_digestOfWords 23 = .ok (.iload 5, 2) := by decide +kernel
theorem dX0_digestOfWords_25 : decode cX0_digestOfWords 25 = .ok (.iaload, 1) := by decide +kernel
theorem dX0_digestOfWords_26 : decode cX0_digestOfWords 26 = .ok (.i2l, 1) := by decide +kernel
theorem dX0_digestOfWords_27 : decode cX0_digestOfWords 27 = .ok (.ladd, 1) := by decide +kernel
theorem dX0_digestOfWords_28 : decode cX0_digestOfWords 28 = .ok (.lstore_n 3, 1) := by decide +kernel
theorem dX0_digestOfWords_29 : decode cX0_digestOfWords 29 = .ok (.lload_n 3, 1) := by decide +kernel
theorem dX0_digestOfWords_30 : decode cX0_digestOfWords 30 = .ok (.ldc2_w 162, 3) := by decide +kernel
theorem dX0_digestOfWords_33 : decode cX0_digestOfWords 33 = .ok (.lmul, 1) := by decide +kernel
theorem dX0_digestOfWords_34 : decode cX0_digestOfWords 34 = .ok (.aload_n 0, 1) := by decide +kernel
theorem dX0_digestOfWords_35 : decode cX0_digestOfWords 35 = .ok (.iload 5, 2) := by decide +kernel
theorem dX0_digestOfWords_37 : decode cX0_digestOfWords 37 = .ok (.invokevirtual 191, 3) := by decide +kernel
theorem dX0_digestOfWords_40 : decode cX0_digestOfWords 40 = .ok (.i2l, 1) := by decide +kernel
theorem dX0_digestOfWords_41 : decode cX0_digestOfWords 41 = .ok (.ladd, 1) := by decide +kernel
theorem dX0_digestOfWords_42 : decode cX0_digestOfWords 42 = .ok (.lstore_n 3, 1) := by decide +kernel
theorem dX0_digestOfWords_43 : decode cX0_digestOfWords 43 = .ok (.lload_n 3, 1) := by decide +kernel
theorem dX0_digestOfWords_44 : decode cX0_digestOfWords 44 = .ok (.ldc2_w 162, 3) := by decide +kernel
theorem dX0_digestOfWords_47 : decode cX0_digestOfWords 47 = .ok (.lmul, 1) := by decide +kernel
theorem dX0_digestOfWords_48 : decode cX0_digestOfWords 48 = .ok (.aload_n 0, 1) := by decide +kernel
theorem dX0_digestOfWords_49 : decode cX0_digestOfWords 49 = .ok (.iload 5, 2) := by decide +kernel
theorem dX0_digestOfWords_51 : decode cX0_digestOfWords 51 = .ok (.invokevirtual 194, 3) := by decide +kernel
theorem dX0_digestOfWords_54 : decode cX0_digestOfWords 54 = .ok (.i2l, 1) := by decide +kernel
theorem dX0_digestOfWords_55 : decode cX0_digestOfWords 55 = .ok (.ladd, 1) := by decide +kernel
theorem dX0_digestOfWords_56 : decode cX0_digestOfWords 56 = .ok (.lstore_n 3, 1) := by decide +kernel
theorem dX0_digestOfWords_57 : decode cX0_digestOfWords 57 = .ok (.iinc 5 1, 3) := by decide +kernel
theorem dX0_digestOfWords_60 : decode cX0_digestOfWords 60 = .ok (.goto (-55), 3) := by decide +kernel
theorem dX0_digestOfWords_63 : decode cX0_digestOfWords 63 = .ok (.lload_n 3, 1) := by decide +kernel
theorem dX0_digestOfWords_64 : decode cX0_digestOfWords 64 = .ok (.lreturn, 1) := by decide +kernel
set_option maxRecDepth 20000 in
theorem ggX0_digestOfPlaces_X0_noteCheapestWording : GoodIn wsX0_digestOfPlaces wsX0_noteCheapestWording := goodIn_r _ [11, 12, 1, 13, 14, 15, 16, 17, 10, 18, 19, 20, 21, 22, 23, 24, 3, 25, 26, 27, 28, 29, 30, 31, 32, 33, 34, 35, 36, 37, 38, 39, 40, 41, 42, 43, 44, 45, 46, 47, 48, 49, 50, 51, 52, 53, 54, 55, 56, 57, 58, 59, 5, 6, 60, 61, 62, 63, 64, 65, 66, 67, 68, 69, 70, 71, 72, 73, 74, 75, 76, 77] (by decide +kernel) (by decide +kernel)
set_option maxRecDepth 20000 in
theorem gX0_digestOfPlaces_X0_noteCheapestWording : GoodIn wsX0_digestOfPlaces (wsV RX0 109 RX0 yX0_noteCheapestWording wsX0_noteCheapestWording) := goodIn_app (goodIn_of _ (by decide +kernel)) ggX0_digestOfPlaces_X0_noteCheapestWording
theorem dX0_digestOfPlaces_0 : decode cX0_digestOfPlaces 0 = .ok (.aload_n 0, 1) := by decide +kernel
theorem dX0_digestOfPlaces_1 : decode cX0_digestOfPlaces 1 = .ok (.invokevirtual 109, 3) := by decide +kernel
theorem dX0_digestOfPlaces_4 : decode cX0_digestOfPlaces 4 = .ok (.lload_n 1, 1) := by decide +kernel
theorem dX0_digestOfPlaces_5 : decode cX0_digestOfPlaces 5 = .ok (.lstore_n 3, 1) := by decide +kernel
theorem dX0_digestOfPlaces_6 : decode cX0_digestOfPlaces 6 = .ok (.iconst 0, 1) := by decide +kernel
theorem dX0_digestOfPlaces_7 : decode cX0_digestOfPlaces 7 = .ok (.istore 5, 2) := by decide +kernel
theorem dX0_digestOfPlaces_9 : decode cX0_digestOfPlaces 9 = .ok (.iload 5, 2) := by decide +kernel
theorem dX0_digestOfPlaces_11 : decode cX0_digestOfPlaces 11 = .ok (.aload_n 0, 1) := by decide +kernel
theorem dX0_digestOfPlaces_12 : decode cX0_digestOfPlaces 12 = .ok (.getfield 39, 3) := by decide +kernel
theorem dX0_digestOfPlaces_15 : decode cX0_digestOfPlaces 15 = .ok (.if_icmp .ge 85, 3) := by decide +kernel
theorem dX0_digestOfPlaces_18 : decode cX0_digestOfPlaces 18 = .ok (.lload_n 3, 1) := by decide +kernel
theorem dX0_digestOfPlaces_19 : decode cX0_digestOfPlaces 19 = .ok (.ldc2_w 162, 3) := by decide +kernel
theorem dX0_digestOfPlaces_22 : decode cX0_digestOfPlaces 22 = .ok (.lmul, 1) := by decide +kernel
theorem dX0_digestOfPlaces_23 : decode cX0_digestOfPlaces 23 = .ok (.aload_n 0, 1) := by decide +kernel
theorem dX0_digestOfPlaces_24 : decode cX0_digestOfPlaces 24 = .ok (.getfield 32, 3) := by decide +kernel
theorem dX0_digestOfPlaces_27 : decode cX0_digestOfPlaces 27 = .ok (.iload 5, 2) := by decide +kernel
theorem dX0_digestOfPlaces_29 : decode cX0_digestOfPlaces 29 = .ok (.iaload, 1) := by decide +kernel
theorem dX0_digestOfPlaces_30 : decode cX0_digestOfPlaces 30 = .ok (.i2l, 1) := by decide +kernel
theorem dX0_digestOfPlaces_31 : decode cX0_digestOfPlaces 31 = .ok (.ladd, 1) := by decide +kernel
theorem dX0_digestOfPlaces_32 : decode cX0_digestOfPlaces 32 = .ok (.lstore_n 3, 1) := by decide +kernel
theorem dX0_digestOfPlaces_33 : decode cX0_digestOfPlaces 33 = .ok (.lload_n 3, 1) := by decide +kernel
theorem dX0_digestOfPlaces_34 : decode cX0_digestOfPlaces 34 = .ok (.ldc2_w 162, 3) := by decide +kernel
theorem dX0_digestOfPlaces_37 : decode cX0_digestOfPlaces 37 = .ok (.lmul, 1) := by decide +kernel
theorem dX0_digestOfPlaces_38 : decode cX0_digestOfPlaces 38 = .ok (.aload_n 0, 1) := by decide +kernel
theorem dX0_digestOfPlaces_39 : decode cX0_digestOfPlaces 39 = .ok (.getfield 35, 3) := by decide +kernel
theorem dX0_digestOfPlaces_42 : decode cX0_digestOfPlaces 42 = .ok (.iload 5, 2) := by decide +kernel
theorem dX0_digestOfPlaces_44 : decode cX0_digestOfPlaces 44 = .ok (.baload, 1) := by decide +kernel
theorem dX0_digestOfPlaces_45 : decode cX0_digestOfPlaces 45 = .ok (.ifCond .eq 7, 3) := by decide +kernel
theorem dX0_digestOfPlaces_48 : decode cX0_digestOfPlaces 48 = .ok (.iconst 1, 1) := by decide +kernel
theorem dX0_digestOfPlaces_49 : decode cX0_digestOfPlaces 49 = .ok (.goto 4, 3) := by decide +kernel
theorem dX0_digestOfPlaces_52 : decode cX0_digestOfPlaces 52 = .ok (.iconst 0, 1) := by decide +kernel
theorem dX0_digestOfPlaces_53 : decode cX0_digestOfPlaces 53 = .ok (.i2l, 1) := by decide +kernel
theorem dX0_digestOfPlaces_54 : decode cX0_digestOfPlaces 54 = .ok (.ladd, 1) := by decide +kernel
theorem dX0_digestOfPlaces_55 : decode cX0_digestOfPlaces 55 = .ok (.lstore_n 3, 1) := by decide +kernel
theorem dX0_digestOfPlaces_56 : decode cX0_digestOfPlaces 56 = .ok (.lload_n 3, 1) := by decide +kernel
theorem dX0_digestOfPlaces_57 : decode cX0_digestOfPlaces 57 = .ok (.ldc2_w 162, 3) := by decide +kernel
theorem dX0_digestOfPlaces_60 : decode cX0_digestOfPlaces 60 = .ok (.lmul, 1) := by decide +kernel
theorem dX0_digestOfPlaces_61 : decode cX0_digestOfPlaces 61 = .ok (.aload_n 0, 1) := by decide +kernel
theorem dX0_digestOfPlaces_62 : decode cX0_digestOfPlaces 62 = .ok (.getfield 60, 3) := by decide +kernel
theorem dX0_digestOfPlaces_65 : decode cX0_digestOfPlaces 65 = .ok (.iload 5, 2) := by decide +kernel
theorem dX0_digestOfPlaces_67 : decode cX0_digestOfPlaces 67 = .ok (.iaload, 1) := by decide +kernel
theorem dX0_digestOfPlaces_68 : decode cX0_digestOfPlaces 68 = .ok (.i2l, 1) := by decide +kernel
theorem dX0_digestOfPlaces_69 : decode cX0_digestOfPlaces 69 = .ok (.ladd, 1) := by decide +kernel
theorem dX0_digestOfPlaces_70 : decode cX0_digestOfPlaces 70 = .ok (.lstore_n 3, 1) := by decide +kernel
theorem dX0_digestOfPlaces_71 : decode cX0_digestOfPlaces 71 = .ok (.lload_n 3, 1) := by decide +kernel
theorem dX0_digestOfPlaces_72 : decode cX0_digestOfPlaces 72 = .ok (.ldc2_w 162, 3) := by decide +kernel
theorem dX0_digestOfPlaces_75 : decode cX0_digestOfPlaces 75 = .ok (.lmul, 1) := by decide +kernel
theorem dX0_digestOfPlaces_76 : decode cX0_digestOfPlaces 76 = .ok (.aload_n 0, 1) := by decide +kernel
theorem dX0_digestOfPlaces_77 : decode cX0_digestOfPlaces 77 = .ok (.getfield 63, 3) := by decide +kernel
theorem dX0_digestOfPlaces_80 : decode cX0_digestOfPlaces 80 = .ok (.iload 5, 2) := by decide +kernel
theorem dX0_digestOfPlaces_82 : decode cX0_digestOfPlaces 82 = .ok (.baload, 1) := by decide +kernel
theorem dX0_digestOfPlaces_83 : decode cX0_digestOfPlaces 83 = .ok (.ifCond .eq 7, 3) := by decide +kernel
theorem dX0_digestOfPlaces_86 : decode cX0_digestOfPlaces 86 = .ok (.iconst 1, 1) := by decide +kernel
theorem dX0_digestOfPlaces_87 : decode cX0_digestOfPlaces 87 = .ok (.goto 4, 3) := by decide +kernel
theorem dX0_digestOfPlaces_90 : decode cX0_digestOfPlaces 90 = .ok (.iconst 0, 1) := by decide +kernel
theorem dX0_digestOfPlaces_91 : decode cX0_digestOfPlaces 91 = .ok (.i2l, 1) := by decide +kernel
theorem dX0_digestOfPlaces_92 : decode cX0_digestOfPlaces 92 = .ok (.ladd, 1) := by decide +kernel
theorem dX0_digestOfPlaces_93 : decode cX0_digestOfPlaces 93 = .ok (.lstore_n 3, 1) := by decide +kernel
theorem dX0_digestOfPlaces_94 : decode cX0_digestOfPlaces 94 = .ok (.iinc 5 1, 3) := by decide +kernel
theorem dX0_digestOfPlaces_97 : decode cX0_digestOfPlaces 97 = .ok (.goto (-88), 3) := by decide +kernel
theorem dX0_digestOfPlaces_100 : decode cX0_digestOfPlaces 100 = .ok (.lload_n 3, 1) := by decide +kernel
theorem dX0_digestOfPlaces_101 : decode cX0_digestOfPlaces 101 = .ok (.lreturn, 1) := by decide +kernel
theorem dJ6_bitCount_0f7a4_0 : decode cJ6_bitCount_0f7a4 0 = .ok (.iload_n 0, 1) := by decide +kernel
theorem dJ6_bitCount_0f7a4_1 : decode cJ6_bitCount_0f7a4 1 = .ok (.iload_n 0, 1) := by decide +kernel
theorem dJ6_bitCount_0f7a4_2 : decode cJ6_bitCount_0f7a4 2 = .ok (.iconst 1, 1) := by decide +kernel
theorem dJ6_bitCount_0f7a4_3 : decode cJ6_bitCount_0f7a4 3 = .ok (.iushr, 1) := by decide +kernel
theorem dJ6_bitCount_0f7a4_4 : decode cJ6_bitCount_0f7a4 4 = .ok (.ldc_w 265, 3) := by decide +kernel
theorem dJ6_bitCount_0f7a4_7 : decode cJ6_bitCount_0f7a4 7 = .ok (.iand, 1) := by decide +kernel
theorem dJ6_bitCount_0f7a4_8 : decode cJ6_bitCount_0f7a4 8 = .ok (.isub, 1) := by decide +kernel
theorem dJ6_bitCount_0f7a4_9 : decode cJ6_bitCount_0f7a4 9 = .ok (.istore_n 0, 1) := by decide +kernel
theorem dJ6_bitCount_0f7a4_10 : decode cJ6_bitCount_0f7a4 10 = .ok (.iload_n 0, 1) := by decide +kernel
theorem dJ6_bitCount_0f7a4_11 : decode cJ6_bitCount_0f7a4 11 = .ok (.ldc_w 266, 3) := by decide +kernel
theorem dJ6_bitCount_0f7a4_14 : decode cJ6_bitCount_0f7a4 14 = .ok (.iand, 1) := by decide +kernel
theorem dJ6_bitCount_0f7a4_15 : decode cJ6_bitCount_0f7a4 15 = .ok (.iload_n 0, 1) := by decide +kernel
theorem dJ6_bitCount_0f7a4_16 : decode cJ6_bitCount_0f7a4 16 = .ok (.iconst 2, 1) := by decide +kernel
theorem dJ6_bitCount_0f7a4_17 : decode cJ6_bitCount_0f7a4 17 = .ok (.iushr, 1) := by decide +kernel
theorem dJ6_bitCount_0f7a4_18 : decode cJ6_bitCount_0f7a4 18 = .ok (.ldc_w 266, 3) := by decide +kernel
theorem dJ6_bitCount_0f7a4_21 : decode cJ6_bitCount_0f7a4 21 = .ok (.iand, 1) := by decide +kernel
theorem dJ6_bitCount_0f7a4_22 : decode cJ6_bitCount_0f7a4 22 = .ok (.iadd, 1) := by decide +kernel
theorem dJ6_bitCount_0f7a4_23 : decode cJ6_bitCount_0f7a4 23 = .ok (.istore_n 0, 1) := by decide +kernel
theorem dJ6_bitCount_0f7a4_24 : decode cJ6_bitCount_0f7a4 24 = .ok (.iload_n 0, 1) := by decide +kernel
theorem dJ6_bitCount_0f7a4_25 : decode cJ6_bitCount_0f7a4 25 = .ok (.iload_n 0, 1) := by decide +kernel
theorem dJ6_bitCount_0f7a4_26 : decode cJ6_bitCount_0f7a4 26 = .ok (.iconst 4, 1) := by decide +kernel
theorem dJ6_bitCount_0f7a4_27 : decode cJ6_bitCount_0f7a4 27 = .ok (.iushr, 1) := by decide +kernel
theorem dJ6_bitCount_0f7a4_28 : decode cJ6_bitCount_0f7a4 28 = .ok (.iadd, 1) := by decide +kernel
theorem dJ6_bitCount_0f7a4_29 : decode cJ6_bitCount_0f7a4 29 = .ok (.ldc_w 267, 3) := by decide +kernel
theorem dJ6_bitCount_0f7a4_32 : decode cJ6_bitCount_0f7a4 32 = .ok (.iand, 1) := by decide +kernel
theorem dJ6_bitCount_0f7a4_33 : decode cJ6_bitCount_0f7a4 33 = .ok (.istore_n 0, 1) := by decide +kernel
theorem dJ6_bitCount_0f7a4_34 : decode cJ6_bitCount_0f7a4 34 = .ok (.iload_n 0, 1) := by decide +kernel
theorem dJ6_bitCount_0f7a4_35 : decode cJ6_bitCount_0f7a4 35 = .ok (.iload_n 0, 1) := by decide +kernel
theorem dJ6_bitCount_0f7a4_36 : decode cJ6_bitCount_0f7a4 36 = .ok (.bipush 8, 2) := by decide +kernel
theorem dJ6_bitCount_0f7a4_38 : decode cJ6_bitCount_0f7a4 38 = .ok (.iushr, 1) := by decide +kernel
theorem dJ6_bitCount_0f7a4_39 : decode cJ6_bitCount_0f7a4 39 = .ok (.iadd, 1) := by decide +kernel
theorem dJ6_bitCount_0f7a4_40 : decode cJ6_bitCount_0f7a4 40 = .ok (.istore_n 0, 1) := by decide +kernel
theorem dJ6_bitCount_0f7a4_41 : decode cJ6_bitCount_0f7a4 41 = .ok (.iload_n 0, 1) := by decide +kernel
theorem dJ6_bitCount_0f7a4_42 : decode cJ6_bitCount_0f7a4 42 = .ok (.iload_n 0, 1) := by decide +kernel
theorem dJ6_bitCount_0f7a4_43 : decode cJ6_bitCount_0f7a4 43 = .ok (.bipush 16, 2) := by decide +kernel
theorem dJ6_bitCount_0f7a4_45 : decode cJ6_bitCount_0f7a4 45 = .ok (.iushr, 1) := by decide +kernel
theorem dJ6_bitCount_0f7a4_46 : decode cJ6_bitCount_0f7a4 46 = .ok (.iadd, 1) := by decide +kernel
theorem dJ6_bitCount_0f7a4_47 : decode cJ6_bitCount_0f7a4 47 = .ok (.istore_n 0, 1) := by decide +kernel
theorem dJ6_bitCount_0f7a4_48 : decode cJ6_bitCount_0f7a4 48 = .ok (.iload_n 0, 1) := by decide +kernel
theorem dJ6_bitCount_0f7a4_49 : decode cJ6_bitCount_0f7a4 49 = .ok (.bipush 63, 2) := by decide +kernel
theorem dJ6_bitCount_0f7a4_51 : decode cJ6_bitCount_0f7a4 51 = .ok (.iand, 1) := by decide +kernel
theorem dJ6_bitCount_0f7a4_52 : decode cJ6_bitCount_0f7a4 52 = .ok (.ireturn, 1) := by decide +kernel
end
section
theorem dX1_init_0 : decode cX1_init 0 = .ok (.aload_n 0, 1) := by decide +kernel
theorem dX1_init_1 : decode cX1_init 1 = .ok (.invokespecial 1, 3) := by decide +kernel
theorem dX1_init_4 : decode cX1_init 4 = .ok (.aload_n 0, 1) := by decide +kernel
theorem dX1_init_5 : decode cX1_init 5 = .ok (.bipush 10, 2) := by decide +kernel
theorem dX1_init_7 : decode cX1_init 7 = .ok (.putfield 7, 3) := by decide +kernel
theorem dX1_init_10 : decode cX1_init 10 = .ok (.aload_n 0, 1) := by decide +kernel
theorem dX1_init_11 : decode cX1_init 11 = .ok (.iconst 5, 1) := by decide +kernel
theorem dX1_init_12 : decode cX1_init 12 = .ok (.putfield 13, 3) := by decide +kernel
theorem dX1_init_15 : decode cX1_init 15 = .ok (.aload_n 0, 1) := by decide +kernel
theorem dX1_init_16 : decode cX1_init 16 = .ok (.iconst 2, 1) := by decide +kernel
theorem dX1_init_17 : decode cX1_init 17 = .ok (.putfield 16, 3) := by decide +kernel
theorem dX1_init_20 : decode cX1_init 20 = .ok (.aload_n 0, 1) := by decide +kernel
theorem dX1_init_21 : decode cX1_init 21 = .ok (.bipush 12, 2) := by decide +kernel
theorem dX1_init_23 : decode cX1_init 23 = .ok (.newarray .int, 2) := by decide +kernel
theorem dX1_init_25 : decode cX1_init 25 = .ok (.putfield 19, 3) := by decide +kernel
theorem dX1_init_28 : decode cX1_init 28 = .ok (.aload_n 0, 1) := by decide +kernel
theorem dX1_init_29 : decode cX1_init 29 = .ok (.bipush 12, 2) := by decide +kernel
theorem dX1_init_31 : decode cX1_init 31 = .ok (.newarray .int, 2) := by decide +kernel
theorem dX1_init_33 : decode cX1_init 33 = .ok (.putfield 23, 3) := by decide +kernel
theorem dX1_init_36 : decode cX1_init 36 = .ok (.aload_n 0, 1) := by decide +kernel
theorem dX1_init_37 : decode cX1_init 37 = .ok (.bipush 12, 2) := by decide +kernel
theorem dX1_init_39 : decode cX1_init 39 = .ok (.newarray .int, 2) := by decide +kernel
theorem dX1_init_41 : decode cX1_init 41 = .ok (.putfield 26, 3) := by decide +kernel
theorem dX1_init_44 : decode cX1_init 44 = .ok (.aload_n 0, 1) := by decide +kernel
theorem dX1_init_45 : decode cX1_init 45 = .ok (.bipush 16, 2) := by decide +kernel
theorem dX1_init_47 : decode cX1_init 47 = .ok (.newarray .int, 2) := by decide +kernel
theorem dX1_init_49 : decode cX1_init 49 = .ok (.putfield 29, 3) := by decide +kernel
theorem dX1_init_52 : decode cX1_init 52 = .ok (.aload_n 0, 1) := by decide +kernel
theorem dX1_init_53 : decode cX1_init 53 = .ok (.bipush 16, 2) := by decide +kernel
theorem dX1_init_55 : decode cX1_init 55 = .ok (.newarray .boolean, 2) := by decide +kernel
theorem dX1_init_57 : decode cX1_init 57 = .ok (.putfield 32, 3) := by decide +kernel
theorem dX1_init_60 : decode cX1_init 60 = .ok (.aload_n 0, 1) := by decide +kernel
theorem dX1_init_61 : decode cX1_init 61 = .ok (.bipush 18, 2) := by decide +kernel
theorem dX1_init_63 : decode cX1_init 63 = .ok (.newarray .int, 2) := by decide +kernel
theorem dX1_init_65 : decode cX1_init 65 = .ok (.putfield 36, 3) := by decide +kernel
theorem dX1_init_68 : decode cX1_init 68 = .ok (.aload_n 0, 1) := by decide +kernel
theorem dX1_init_69 : decode cX1_init 69 = .ok (.bipush 16, 2) := by decide +kernel
theorem dX1_init_71 : decode cX1_init 71 = .ok (.newarray .int, 2) := by decide +kernel
theorem dX1_init_73 : decode cX1_init 73 = .ok (.putfield 39, 3) := by decide +kernel
theorem dX1_init_76 : decode cX1_init 76 = .ok (.aload_n 0, 1) := by decide +kernel
theorem dX1_init_77 : decode cX1_init 77 = .ok (.bipush 16, 2) := by decide +kernel
theorem dX1_init_79 : decode cX1_init 79 = .ok (.newarray .boolean, 2) := by decide +kernel
theorem dX1_init_81 : decode cX1_init 81 = .ok (.putfield 42, 3) := by decide +kernel
theorem dX1_init_84 : decode cX1_init 84 = .ok (.return_, 1) := by decide +kernel
theorem dX1_thrown_0 : decode cX1_thrown 0 = .ok (.aload_n 0, 1) := by decide +kernel
theorem dX1_thrown_1 : decode cX1_thrown 1 = .ok (.getfield 45, 3) := by decide +kernel
theorem dX1_thrown_4 : decode cX1_thrown 4 = .ok (.ireturn, 1) := by decide +kernel
theorem dX1_fail_0 : decode cX1_fail 0 = .ok (.aload_n 0, 1) := by decide +kernel
theorem dX1_fail_1 : decode cX1_fail 1 = .ok (.iload_n 1, 1) := by decide +kernel
theorem dX1_fail_2 : decode cX1_fail 2 = .ok (.putfield 45, 3) := by decide +kernel
theorem dX1_fail_5 : decode cX1_fail 5 = .ok (.iconst 0, 1) := by decide +kernel
theorem dX1_fail_6 : decode cX1_fail 6 = .ok (.ireturn, 1) := by decide +kernel
theorem dX1_failed_0 : decode cX1_failed 0 = .ok (.aload_n 0, 1) := by decide +kernel
theorem dX1_failed_1 : decode cX1_failed 1 = .ok (.iload_n 1, 1) := by decide +kernel
theorem dX1_failed_2 : decode cX1_failed 2 = .ok (.putfield 45, 3) := by decide +kernel
theorem dX1_failed_5 : decode cX1_failed 5 = .ok (.iconst 0, 1) := by decide +kernel
theorem dX1_failed_6 : decode cX1_failed 6 = .ok (.ireturn, 1) := by decide +kernel
theorem dX1_told_0 : decode cX1_told 0 = .ok (.aload_n 0, 1) := by decide +kernel
theorem dX1_told_1 : decode cX1_told 1 = .ok (.iconst 0, 1) := by decide +kernel
theorem dX1_told_2 : decode cX1_told 2 = .ok (.putfield 45, 3) := by decide +kernel
theorem dX1_told_5 : decode cX1_told 5 = .ok (.iload_n 1, 1) := by decide +kernel
theorem dX1_told_6 : decode cX1_told 6 = .ok (.ireturn, 1) := by decide +kernel
theorem dX1_isIn_0 : decode cX1_isIn 0 = .ok (.iload_n 0, 1) := by decide +kernel
theorem dX1_isIn_1 : decode cX1_isIn 1 = .ok (.iload_n 1, 1) := by decide +kernel
theorem dX1_isIn_2 : decode cX1_isIn 2 = .ok (.if_icmp .lt 12, 3) := by decide +kernel
theorem dX1_isIn_5 : decode cX1_isIn 5 = .ok (.iload_n 0, 1) := by decide +kernel
theorem dX1_isIn_6 : decode cX1_isIn 6 = .ok (.iload_n 2, 1) := by decide +kernel
theorem dX1_isIn_7 : decode cX1_isIn 7 = .ok (.if_icmp .gt 7, 3) := by decide +kernel
theorem dX1_isIn_10 : decode cX1_isIn 10 = .ok (.iconst 1, 1) := by decide +kernel
theorem dX1_isIn_11 : decode cX1_isIn 11 = .ok (.goto 4, 3) := by decide +kernel
theorem dX1_isIn_14 : decode cX1_isIn 14 = .ok (.iconst 0, 1) := by decide +kernel
theorem dX1_isIn_15 : decode cX1_isIn 15 = .ok (.ireturn, 1) := by decide +kernel
set_option maxRecDepth 20000 in
theorem ggX1_isWord_X1_isIn : GoodIn wsX1_isWord wsX1_isIn := goodIn_r _ [5] (by decide +kernel) (by decide +kernel)
set_option maxRecDepth 20000 in
theorem gX1_isWord_X1_isIn : GoodIn wsX1_isWord (va_wsS RX1 51 yX1_isIn wsX1_isIn) := goodIn_app (goodIn_of _ (by decide +kernel)) ggX1_isWord_X1_isIn
theorem dX1_isWord_0 : decode cX1_isWord 0 = .ok (.iload_n 1, 1) := by decide +kernel
theorem dX1_isWord_1 : decode cX1_isWord 1 = .ok (.iconst 0, 1) := by decide +kernel
theorem dX1_isWord_2 : decode cX1_isWord 2 = .ok (.aload_n 0, 1) := by decide +kernel
theorem dX1_isWord_3 : decode cX1_isWord 3 = .ok (.getfield 48, 3) := by decide +kernel
theorem dX1_isWord_6 : decode cX1_isWord 6 = .ok (.iconst 1, 1) := by decide +kernel
theorem dX1_isWord_7 : decode cX1_isWord 7 = .ok (.isub, 1) := by decide +kernel
theorem dX1_isWord_8 : decode cX1_isWord 8 = .ok (.invokestatic 51, 3) := by decide +kernel
theorem dX1_isWord_11 : decode cX1_isWord 11 = .ok (.ireturn, 1) := by decide +kernel
set_option maxRecDepth 20000 in
theorem ggX1_isPlace_X1_isIn : GoodIn wsX1_isPlace wsX1_isIn := goodIn_r _ [5] (by decide +kernel) (by decide +kernel)
set_option maxRecDepth 20000 in
theorem gX1_isPlace_X1_isIn : GoodIn wsX1_isPlace (va_wsS RX1 51 yX1_isIn wsX1_isIn) := goodIn_app (goodIn_of _ (by decide +kernel)) ggX1_isPlace_X1_isIn
theorem dX1_isPlace_0 : decode cX1_isPlace 0 = .ok (.iload_n 1, 1) := by decide +kernel
theorem dX1_isPlace_1 : decode cX1_isPlace 1 = .ok (.iconst 0, 1) := by decide +kernel
theorem dX1_isPlace_2 : decode cX1_isPlace 2 = .ok (.aload_n 0, 1) := by decide +kernel
theorem dX1_isPlace_3 : decode cX1_isPlace 3 = .ok (.getfield 55, 3) := by decide +kernel
theorem dX1_isPlace_6 : decode cX1_isPlace 6 = .ok (.iconst 1, 1) := by decide +kernel
theorem dX1_isPlace_7 : decode cX1_isPlace 7 = .ok (.isub, 1) := by decide +kernel
theorem dX1_isPlace_8 : decode cX1_isPlace 8 = .ok (.invokestatic 51, 3) := by decide +kernel
theorem dX1_isPlace_11 : decode cX1_isPlace 11 = .ok (.ireturn, 1) := by decide +kernel
set_option maxRecDepth 20000 in
theorem ggX1_arePair_X1_isWord : GoodIn wsX1_arePair wsX1_isWord := goodIn_r _ [6, 7, 8, 9, 5, 10, 11, 12, 13, 14, 15, 16, 17, 18, 19, 20, 21, 22, 23, 24, 25, 26] (by decide +kernel) (by decide +kernel)
set_option maxRecDepth 20000 in
theorem gX1_arePair_X1_isWord : GoodIn wsX1_arePair (wsV RX1 58 RX1 yX1_isWord wsX1_isWord) := goodIn_app (goodIn_of _ (by decide +kernel)) ggX1_arePair_X1_isWord
theorem dX1_arePair_0 : decode cX1_arePair 0 = .ok (.aload_n 0, 1) := by decide +kernel
theorem dX1_arePair_1 : decode cX1_arePair 1 = .ok (.aload_n 0, 1) := by decide +kernel
theorem dX1_arePair_2 : decode cX1_arePair 2 = .ok (.iload_n 1, 1) := by decide +kernel
theorem dX1_arePair_3 : decode cX1_arePair 3 = .ok (.invokevirtual 58, 3) := by decide +kernel
theorem dX1_arePair_6 : decode cX1_arePair 6 = .ok (.ifCond .eq 15, 3) := by decide +kernel
theorem dX1_arePair_9 : decode cX1_arePair 9 = .ok (.aload_n 0, 1) := by decide +kernel
theorem dX1_arePair_10 : decode cX1_arePair 10 = .ok (.iload_n 2, 1) := by decide +kernel
theorem dX1_arePair_11 : decode cX1_arePair 11 = .ok (.invokevirtual 58, 3) := by decide +kernel
theorem dX1_arePair_14 : decode cX1_arePair 14 = .ok (.ifCond .eq 7, 3) := by decide +kernel
theorem dX1_arePair_17 : decode cX1_arePair 17 = .ok (.iconst 0, 1) := by decide +kernel
theorem dX1_arePair_18 : decode cX1_arePair 18 = .ok (.goto 4, 3) := by decide +kernel
theorem dX1_arePair_21 : decode cX1_arePair 21 = .ok (.iconst 1, 1) := by decide +kernel
theorem dX1_arePair_22 : decode cX1_arePair 22 = .ok (.putfield 45, 3) := by decide +kernel
theorem dX1_arePair_25 : decode cX1_arePair 25 = .ok (.aload_n 0, 1) := by decide +kernel
theorem dX1_arePair_26 : decode cX1_arePair 26 = .ok (.getfield 45, 3) := by decide +kernel
theorem dX1_arePair_29 : decode cX1_arePair 29 = .ok (.ifCond .ne 7, 3) := by decide +kernel
theorem dX1_arePair_32 : decode cX1_arePair 32 = .ok (.iconst 1, 1) := by decide +kernel
theorem dX1_arePair_33 : decode cX1_arePair 33 = .ok (.goto 4, 3) := by decide +kernel
theorem dX1_arePair_36 : decode cX1_arePair 36 = .ok (.iconst 0, 1) := by decide +kernel
theorem dX1_arePair_37 : decode cX1_arePair 37 = .ok (.ireturn, 1) := by decide +kernel
theorem dX1_has_0 : decode cX1_has 0 = .ok (.iload_n 0, 1) := by decide +kernel
theorem dX1_has_1 : decode cX1_has 1 = .ok (.iload_n 1, 1) := by decide +kernel
theorem dX1_has_2 : decode cX1_has 2 = .ok (.ishr, 1) := by decide +kernel
theorem dX1_has_3 : decode cX1_has 3 = .ok (.iconst 1, 1) := by decide +kernel
theorem dX1_has_4 : decode cX1_has 4 = .ok (.iand, 1) := by decide +kernel
theorem dX1_has_5 : decode cX1_has 5 = .ok (.iconst 1, 1) := by decide +kernel
theorem dX1_has_6 : decode cX1_has 6 = .ok (.if_icmp .ne 7, 3) := by decide +kernel
theorem dX1_has_9 : decode cX1_has 9 = .ok (.iconst 1, 1) := by decide +kernel
theorem dX1_has_10 : decode cX1_has 10 = .ok (.goto 4, 3) := by decide +kernel
theorem dX1_has_13 : decode cX1_has 13 = .ok (.iconst 0, 1) := by decide +kernel
theorem dX1_has_14 : decode cX1_has 14 = .ok (.ireturn, 1) := by decide +kernel
theorem dX1_counts_0 : decode cX1_counts 0 = .ok (.iload_n 1, 1) := by decide +kernel
theorem dX1_counts_1 : decode cX1_counts 1 = .ok (.aload_n 0, 1) := by decide +kernel
theorem dX1_counts_2 : decode cX1_counts 2 = .ok (.getfield 7, 3) := by decide +kernel
theorem dX1_counts_5 : decode cX1_counts 5 = .ok (.iadd, 1) := by decide +kernel
theorem dX1_counts_6 : decode cX1_counts 6 = .ok (.iconst 1, 1) := by decide +kernel
theorem dX1_counts_7 : decode cX1_counts 7 = .ok (.isub, 1) := by decide +kernel
theorem dX1_counts_8 : decode cX1_counts 8 = .ok (.aload_n 0, 1) := by decide +kernel
theorem dX1_counts_9 : decode cX1_counts 9 = .ok (.getfield 7, 3) := by decide +kernel
theorem dX1_counts_12 : decode cX1_counts 12 = .ok (.idiv, 1) := by decide +kernel
theorem dX1_counts_13 : decode cX1_counts 13 = .ok (.ireturn, 1) := by decide +kernel
theorem dX1_lifted_0 : decode cX1_lifted 0 = .ok (.aload_n 0, 1) := by decide +kernel
theorem dX1_lifted_1 : decode cX1_lifted 1 = .ok (.getfield 55, 3) := by decide +kernel
theorem dX1_lifted_4 : decode cX1_lifted 4 = .ok (.ifCond .ne 7, 3) := by decide +kernel
theorem dX1_lifted_7 : decode cX1_lifted 7 = .ok (.iconst 0, 1) := by decide +kernel
theorem dX1_lifted_8 : decode cX1_lifted 8 = .ok (.goto 11, 3) := by decide +kernel
theorem dX1_lifted_11 : decode cX1_lifted 11 = .ok (.aload_n 0, 1) := by decide +kernel
theorem dX1_lifted_12 : decode cX1_lifted 12 = .ok (.getfield 13, 3) := by decide +kernel
theorem dX1_lifted_15 : decode cX1_lifted 15 = .ok (.iload_n 1, 1) := by decide +kernel
theorem dX1_lifted_16 : decode cX1_lifted 16 = .ok (.invokestatic 62, 3) := by decide +kernel
theorem dX1_lifted_19 : decode cX1_lifted 19 = .ok (.ireturn, 1) := by decide +kernel
set_option maxRecDepth 20000 in
theorem ggX1_countNow_X1_counts : GoodIn wsX1_countNow wsX1_counts := goodIn_r _ [9, 10, 20, 21, 22, 23, 24, 25, 26, 27, 28, 29, 30, 31, 32, 33, 34, 35] (by decide +kernel) (by decide +kernel)
set_option maxRecDepth 20000 in
theorem gX1_countNow_X1_counts : GoodIn wsX1_countNow (wsV RX1 68 RX1 yX1_counts wsX1_counts) := goodIn_app (goodIn_of _ (by decide +kernel)) ggX1_countNow_X1_counts
set_option maxRecDepth 20000 in
theorem ggX1_countNow_X1_lifted : GoodIn wsX1_countNow wsX1_lifted := goodIn_r _ [14, 1, 15, 16, 17, 18, 19, 20, 21, 22, 23, 24, 25, 26, 27, 28, 29, 30, 31, 32, 33, 34, 35] (by decide +kernel) (by decide +kernel)
set_option maxRecDepth 20000 in
theorem gX1_countNow_X1_lifted : GoodIn wsX1_countNow (wsV RX1 72 RX1 yX1_lifted wsX1_lifted) := goodIn_app (goodIn_of _ (by decide +kernel)) ggX1_countNow_X1_lifted
theorem dX1_countNow_0 : decode cX1_countNow 0 = .ok (.iconst 0, 1) := by decide +kernel
theorem dX1_countNow_1 : decode cX1_countNow 1 = .ok (.istore_n 1, 1) := by decide +kernel
theorem dX1_countNow_2 : decode cX1_countNow 2 = .ok (.iconst 0, 1) := by decide +kernel
theorem dX1_countNow_3 : decode cX1_countNow 3 = .ok (.istore_n 2, 1) := by decide +kernel
theorem dX1_countNow_4 : decode cX1_countNow 4 = .ok (.iload_n 2, 1) := by decide +kernel
theorem dX1_countNow_5 : decode cX1_countNow 5 = .ok (.aload_n 0, 1) := by decide +kernel
theorem dX1_countNow_6 : decode cX1_countNow 6 = .ok (.getfield 55, 3) := by decide +kernel
theorem dX1_countNow_9 : decode cX1_countNow 9 = .ok (.if_icmp .ge 55, 3) := by decide +kernel
theorem dX1_countNow_12 : decode cX1_countNow 12 = .ok (.aload_n 0, 1) := by decide +kernel
theorem dX1_countNow_13 : decode cX1_countNow 13 = .ok (.getfield 19, 3) := by decide +kernel
theorem dX1_countNow_16 : decode cX1_countNow 16 = .ok (.aload_n 0, 1) := by decide +kernel
theorem dX1_countNow_17 : decode cX1_countNow 17 = .ok (.getfield 29, 3) := by decide +kernel
theorem dX1_countNow_20 : decode cX1_countNow 20 = .ok (.iload_n 2, 1) := by decide +kernel
theorem dX1_countNow_21 : decode cX1_countNow 21 = .ok (.iaload, 1) := by decide +kernel
theorem dX1_countNow_22 : decode cX1_countNow 22 = .ok (.iaload, 1) := by decide +kernel
theorem dX1_countNow_23 : decode cX1_countNow 23 = .ok (.istore_n 3, 1) := by decide +kernel
theorem dX1_countNow_24 : decode cX1_countNow 24 = .ok (.aload_n 0, 1) := by decide +kernel
theorem dX1_countNow_25 : decode cX1_countNow 25 = .ok (.getfield 32, 3) := by decide +kernel
theorem dX1_countNow_28 : decode cX1_countNow 28 = .ok (.iload_n 2, 1) := by decide +kernel
theorem dX1_countNow_29 : decode cX1_countNow 29 = .ok (.baload, 1) := by decide +kernel
theorem dX1_countNow_30 : decode cX1_countNow 30 = .ok (.ifCond .eq 20, 3) := by decide +kernel
theorem dX1_countNow_33 : decode cX1_countNow 33 = .ok (.iinc 2 1, 3) := by decide +kernel
theorem dX1_countNow_36 : decode cX1_countNow 36 = .ok (.iload_n 3, 1) := by decide +kernel
theorem dX1_countNow_37 : decode cX1_countNow 37 = .ok (.aload_n 0, 1) := by decide +kernel
theorem dX1_countNow_38 : decode cX1_countNow 38 = .ok (.getfield 19, 3) := by decide +kernel
theorem dX1_countNow_41 : decode cX1_countNow 41 = .ok (.aload_n 0, 1) := by decide +kernel
theorem dX1_countNow_42 : decode cX1_countNow 42 = .ok (.getfield 29, 3) := by decide +kernel
theorem dX1_countNow_45 : decode cX1_countNow 45 = .ok (.iload_n 2, 1) := by decide +kernel
theorem dX1_countNow_46 : decode cX1_countNow 46 = .ok (.iaload, 1) := by decide +kernel
theorem dX1_countNow_47 : decode cX1_countNow 47 = .ok (.iaload, 1) := by decide +kernel
theorem dX1_countNow_48 : decode cX1_countNow 48 = .ok (.iadd, 1) := by decide +kernel
theorem dX1_countNow_49 : decode cX1_countNow 49 = .ok (.istore_n 3, 1) := by decide +kernel
theorem dX1_countNow_50 : decode cX1_countNow 50 = .ok (.iload_n 1, 1) := by decide +kernel
theorem dX1_countNow_51 : decode cX1_countNow 51 = .ok (.aload_n 0, 1) := by decide +kernel
theorem dX1_countNow_52 : decode cX1_countNow 52 = .ok (.iload_n 3, 1) := by decide +kernel
theorem dX1_countNow_53 : decode cX1_countNow 53 = .ok (.invokevirtual 68, 3) := by decide +kernel
theorem dX1_countNow_56 : decode cX1_countNow 56 = .ok (.iadd, 1) := by decide +kernel
theorem dX1_countNow_57 : decode cX1_countNow 57 = .ok (.istore_n 1, 1) := by decide +kernel
theorem dX1_countNow_58 : decode cX1_countNow 58 = .ok (.iinc 2 1, 3) := by decide +kernel
theorem dX1_countNow_61 : decode cX1_countNow 61 = .ok (.goto (-57), 3) := by decide +kernel
theorem dX1_countNow_64 : decode cX1_countNow 64 = .ok (.aload_n 0, 1) := by decide +kernel
theorem dX1_countNow_65 : decode cX1_countNow 65 = .ok (.iload_n 1, 1) := by decide +kernel
theorem dX1_countNow_66 : decode cX1_countNow 66 = .ok (.invokevirtual 72, 3) := by decide +kernel
theorem dX1_countNow_69 : decode cX1_countNow 69 = .ok (.ireturn, 1) := by decide +kernel
set_option maxRecDepth 20000 in
theorem ggX1_leastPair_X1_has : GoodIn wsX1_leastPair wsX1_has := goodIn_r _ [14] (by decide +kernel) (by decide +kernel)
set_option maxRecDepth 20000 in
theorem gX1_leastPair_X1_has : GoodIn wsX1_leastPair (va_wsS RX1 76 yX1_has wsX1_has) := goodIn_app (goodIn_of _ (by decide +kernel)) ggX1_leastPair_X1_has
set_option maxRecDepth 20000 in
theorem ggX1_leastPair_X1_counts : GoodIn wsX1_leastPair wsX1_counts := goodIn_r _ [18, 19, 20, 21, 22, 23, 24, 25, 26, 27, 28, 29, 30, 31, 32, 33, 34, 35] (by decide +kernel) (by decide +kernel)
set_option maxRecDepth 20000 in
theorem gX1_leastPair_X1_counts : GoodIn wsX1_leastPair (wsV RX1 68 RX1 yX1_counts wsX1_counts) := goodIn_app (goodIn_of _ (by decide +kernel)) ggX1_leastPair_X1_counts
theorem dX1_leastPair_0 : decode cX1_leastPair 0 = .ok (.ldc 75, 2) := by decide +kernel
theorem dX1_leastPair_2 : decode cX1_leastPair 2 = .ok (.istore_n 2, 1) := by decide +kernel
theorem dX1_leastPair_3 : decode cX1_leastPair 3 = .ok (.iconst 0, 1) := by decide +kernel
theorem dX1_leastPair_4 : decode cX1_leastPair 4 = .ok (.istore_n 3, 1) := by decide +kernel
theorem dX1_leastPair_5 : decode cX1_leastPair 5 = .ok (.iload_n 3, 1) := by decide +kernel
theorem dX1_leastPair_6 : decode cX1_leastPair 6 = .ok (.aload_n 0, 1) := by decide +kernel
theorem dX1_leastPair_7 : decode cX1_leastPair 7 = .ok (.getfield 48, 3) := by decide +kernel
theorem dX1_leastPair_10 : decode cX1_leastPair 10 = .ok (.if_icmp .ge 106, 3) := by decide +kernel
theorem dX1_leastPair_13 : decode cX1_leastPair 13 = .ok (.aload_n 0, 1) := by decide +kernel
theorem dX1_leastPair_14 : decode cX1_leastPair 14 = .ok (.getfield 23, 3) := by decide +kernel
theorem dX1_leastPair_17 : decode cX1_leastPair 17 = .ok (.aload_n 0, 1) := by decide +kernel
theorem dX1_leastPair_18 : decode cX1_leastPair 18 = .ok (.getfield 29, 3) := by decide +kernel
theorem dX1_leastPair_21 : decode cX1_leastPair 21 = .ok (.iload_n 1, 1) := by decide +kernel
theorem dX1_leastPair_22 : decode cX1_leastPair 22 = .ok (.iaload, 1) := by decide +kernel
theorem dX1_leastPair_23 : decode cX1_leastPair 23 = .ok (.iaload, 1) := by decide +kernel
theorem dX1_leastPair_24 : decode cX1_leastPair 24 = .ok (.iload_n 3, 1) := by decide +kernel
theorem dX1_leastPair_25 : decode cX1_leastPair 25 = .ok (.invokestatic 76, 3) := by decide +kernel
theorem dX1_leastPair_28 : decode cX1_leastPair 28 = .ok (.ifCond .ne 6, 3) := by decide +kernel
theorem dX1_leastPair_31 : decode cX1_leastPair 31 = .ok (.goto 79, 3) := by decide +kernel
theorem dX1_leastPair_34 : decode cX1_leastPair 34 = .ok (.iconst 0, 1) := by decide +kernel
theorem dX1_leastPair_35 : decode cX1_leastPair 35 = .ok (.istore 4, 2) := by decide +kernel
theorem dX1_leastPair_37 : decode cX1_leastPair 37 = .ok (.iload 4, 2) := by decide +kernel
theorem dX1_leastPair_39 : decode cX1_leastPair 39 = .ok (.aload_n 0, 1) := by decide +kernel
theorem dX1_leastPair_40 : decode cX1_leastPair 40 = .ok (.getfield 48, 3) := by decide +kernel
theorem dX1_leastPair_43 : decode cX1_leastPair 43 = .ok (.if_icmp .ge 67, 3) := by decide +kernel
theorem dX1_leastPair_46 : decode cX1_leastPair 46 = .ok (.aload_n 0, 1) := by decide +kernel
theorem dX1_leastPair_47 : decode cX1_leastPair 47 = .ok (.getfield 23, 3) := by decide +kernel
theorem dX1_leastPair_50 : decode cX1_leastPair 50 = .ok (.aload_n 0, 1) := by decide +kernel
theorem dX1_leastPair_51 : decode cX1_leastPair 51 = .ok (.getfield 29, 3) := by decide +kernel
theorem dX1_leastPair_54 : decode cX1_leastPair 54 = .ok (.iload_n 1, 1) := by decide +kernel
theorem dX1_leastPair_55 : decode cX1_leastPair 55 = .ok (.iconst 1, 1) := by decide +kernel
theorem dX1_leastPair_56 : decode cX1_leastPair 56 = .ok (.iadd, 1) := by decide +kernel
theorem dX1_leastPair_57 : decode cX1_leastPair 57 = .ok (.iaload, 1) := by decide +kernel
theorem dX1_leastPair_58 : decode cX1_leastPair 58 = .ok (.iaload, 1) := by decide +kernel
theorem dX1_leastPair_59 : decode cX1_leastPair 59 = .ok (.iload 4, 2) := by decide +kernel
theorem dX1_leastPair_61 : decode cX1_leastPair 61 = .ok (.invokestatic 76, 3) := by decide +kernel
theorem dX1_leastPair_64 : decode cX1_leastPair 64 = .ok (.ifCond .eq 40, 3) := by decide +kernel
theorem dX1_leastPair_67 : decode cX1_leastPair 67 = .ok (.aload_n 0, 1) := by decide +kernel
theorem dX1_leastPair_68 : decode cX1_leastPair 68 = .ok (.getfield 26, 3) := by decide +kernel
theorem dX1_leastPair_71 : decode cX1_leastPair 71 = .ok (.iload_n 3, 1) := by decide +kernel
theorem dX1_leastPair_72 : decode cX1_leastPair 72 = .ok (.iaload, 1) := by decide +kernel
theorem dX1_leastPair_73 : decode cX1_leastPair 73 = .ok (.iload 4, 2) := by decide +kernel
theorem dX1_leastPair_75 : decode cX1_leastPair 75 = .ok (.invokestatic 76, 3) := by decide +kernel
theorem dX1_leastPair_78 : decode cX1_leastPair 78 = .ok (.ifCond .eq 26, 3) := by decide +kernel
theorem dX1_leastPair_81 : decode cX1_leastPair 81 = .ok (.iload_n 2, 1) := by decide +kernel
theorem dX1_leastPair_82 : decode cX1_leastPair 82 = .ok (.aload_n 0, 1) := by decide +kernel
theorem dX1_leastPair_83 : decode cX1_leastPair 83 = .ok (.aload_n 0, 1) := by decide +kernel
theorem dX1_leastPair_84 : decode cX1_leastPair 84 = .ok (.getfield 19, 3) := by decide +kernel
theorem dX1_leastPair_87 : decode cX1_leastPair 87 = .ok (.iload_n 3, 1) := by decide +kernel
theorem dX1_leastPair_88 : decode cX1_leastPair 88 = .ok (.iaload, 1) := by decide +kernel
theorem dX1_leastPair_89 : decode cX1_leastPair 89 = .ok (.aload_n 0, 1) := by decide +kernel
theorem dX1_leastPair_90 : decode cX1_leastPair 90 = .ok (.getfield 19, 3) := by decide +kernel
theorem dX1_leastPair_93 : decode cX1_leastPair 93 = .ok (.iload 4, 2) := by decide +kernel
theorem dX1_leastPair_95 : decode cX1_leastPair 95 = .ok (.iaload, 1) := by decide +kernel
theorem dX1_leastPair_96 : decode cX1_leastPair 96 = .ok (.iadd, 1) := by decide +kernel
theorem dX1_leastPair_97 : decode cX1_leastPair 97 = .ok (.invokevirtual 68, 3) := by decide +kernel
theorem dX1_leastPair_100 : decode cX1_leastPair 100 = .ok (.invokestatic 80, 3) := by decide +kernel
theorem dX1_leastPair_103 : decode cX1_leastPair 103 = .ok (.istore_n 2, 1) := by decide +kernel
theorem dX1_leastPair_104 : decode cX1_leastPair 104 = .ok (.iinc 4 1, 3) := by decide +kernel
theorem dX1_leastPair_107 : decode cX1_leastPair 107 = .ok (.goto (-70), 3) := by decide +kernel
theorem dX1_leastPair_110 : decode cX1_leastPair 110 = .ok (.iinc 3 1, 3) := by decide +kernel
theorem dX1_leastPair_113 : decode cX1_leastPair 113 = .ok (.goto (-108), 3) := by decide +kernel
theorem dX1_leastPair_116 : decode cX1_leastPair 116 = .ok (.iload_n 2, 1) := by decide +kernel
theorem dX1_leastPair_117 : decode cX1_leastPair 117 = .ok (.ireturn, 1) := by decide +kernel
set_option maxRecDepth 20000 in
theorem ggX1_leastSingle_X1_has : GoodIn wsX1_leastSingle wsX1_has := goodIn_r _ [13] (by decide +kernel) (by decide +kernel)
set_option maxRecDepth 20000 in
theorem gX1_leastSingle_X1_has : GoodIn wsX1_leastSingle (va_wsS RX1 76 yX1_has wsX1_has) := goodIn_app (goodIn_of _ (by decide +kernel)) ggX1_leastSingle_X1_has
set_option maxRecDepth 20000 in
theorem ggX1_leastSingle_X1_counts : GoodIn wsX1_leastSingle wsX1_counts := goodIn_r _ [17, 18, 19, 20, 21, 22, 23, 24, 25, 26, 27, 28, 29, 30, 31, 32, 33, 34] (by decide +kernel) (by decide +kernel)
set_option maxRecDepth 20000 in
theorem gX1_leastSingle_X1_counts : GoodIn wsX1_leastSingle (wsV RX1 68 RX1 yX1_counts wsX1_counts) := goodIn_app (goodIn_of _ (by decide +kernel)) ggX1_leastSingle_X1_counts
theorem dX1_leastSingle_0 : decode cX1_leastSingle 0 = .ok (.ldc 75, 2) := by decide +kernel
theorem dX1_leastSingle_2 : decode cX1_leastSingle 2 = .ok (.istore_n 2, 1) := by decide +kernel
theorem dX1_leastSingle_3 : decode cX1_leastSingle 3 = .ok (.iconst 0, 1) := by decide +kernel
theorem dX1_leastSingle_4 : decode cX1_leastSingle 4 = .ok (.istore_n 3, 1) := by decide +kernel
theorem dX1_leastSingle_5 : decode cX1_leastSingle 5 = .ok (.iload_n 3, 1) := by decide +kernel
theorem dX1_leastSingle_6 : decode cX1_leastSingle 6 = .ok (.aload_n 0, 1) := by decide +kernel
theorem dX1_leastSingle_7 : decode cX1_leastSingle 7 = .ok (.getfield 48, 3) := by decide +kernel
theorem dX1_leastSingle_10 : decode cX1_leastSingle 10 = .ok (.if_icmp .ge 42, 3) := by decide +kernel
theorem dX1_leastSingle_13 : decode cX1_leastSingle 13 = .ok (.aload_n 0, 1) := by decide +kernel
theorem dX1_leastSingle_14 : decode cX1_leastSingle 14 = .ok (.getfield 23, 3) := by decide +kernel
theorem dX1_leastSingle_17 : decode cX1_leastSingle 17 = .ok (.aload_n 0, 1) := by decide +kernel
theorem dX1_leastSingle_18 : decode cX1_leastSingle 18 = .ok (.getfield 29, 3) := by decide +kernel
theorem dX1_leastSingle_21 : decode cX1_leastSingle 21 = .ok (.iload_n 1, 1) := by decide +kernel
theorem dX1_leastSingle_22 : decode cX1_leastSingle 22 = .ok (.iaload, 1) := by decide +kernel
theorem dX1_leastSingle_23 : decode cX1_leastSingle 23 = .ok (.iaload, 1) := by decide +kernel
theorem dX1_leastSingle_24 : decode cX1_leastSingle 24 = .ok (.iload_n 3, 1) := by decide +kernel
theorem dX1_leastSingle_25 : decode cX1_leastSingle 25 = .ok (.invokestatic 76, 3) := by decide +kernel
theorem dX1_leastSingle_28 : decode cX1_leastSingle 28 = .ok (.ifCond .eq 18, 3) := by decide +kernel
theorem dX1_leastSingle_31 : decode cX1_leastSingle 31 = .ok (.iload_n 2, 1) := by decide +kernel
theorem dX1_leastSingle_32 : decode cX1_leastSingle 32 = .ok (.aload_n 0, 1) := by decide +kernel
theorem dX1_leastSingle_33 : decode cX1_leastSingle 33 = .ok (.aload_n 0, 1) := by decide +kernel
theorem dX1_leastSingle_34 : decode cX1_leastSingle 34 = .ok (.getfield 19, 3) := by decide +kernel
theorem dX1_leastSingle_37 : decode cX1_leastSingle 37 = .ok (.iload_n 3, 1) := by decide +kernel
theorem dX1_leastSingle_38 : decode cX1_leastSingle 38 = .ok (.iaload, 1) := by decide +kernel
theorem dX1_leastSingle_39 : decode cX1_leastSingle 39 = .ok (.invokevirtual 68, 3) := by decide +kernel
theorem dX1_leastSingle_42 : decode cX1_leastSingle 42 = .ok (.invokestatic 80, 3) := by decide +kernel
theorem dX1_leastSingle_45 : decode cX1_leastSingle 45 = .ok (.istore_n 2, 1) := by decide +kernel
theorem dX1_leastSingle_46 : decode cX1_leastSingle 46 = .ok (.iinc 3 1, 3) := by decide +kernel
theorem dX1_leastSingle_49 : decode cX1_leastSingle 49 = .ok (.goto (-44), 3) := by decide +kernel
theorem dX1_leastSingle_52 : decode cX1_leastSingle 52 = .ok (.iload_n 2, 1) := by decide +kernel
theorem dX1_leastSingle_53 : decode cX1_leastSingle 53 = .ok (.ireturn, 1) := by decide +kernel
set_option maxRecDepth 20000 in
theorem ggX1_reckon_X1_leastSingle : GoodIn wsX1_reckon wsX1_leastSingle := goodIn_r _ [11, 12, 13, 14, 15, 16, 3, 4, 5, 6, 17, 18, 10, 19, 20, 21, 22, 23, 24, 30, 31, 32, 33, 34, 35, 36, 37, 38, 39, 40, 41, 42, 43, 44, 45] (by decide +kernel) (by decide +kernel)
set_option maxRecDepth 20000 in
theorem gX1_reckon_X1_leastSingle : GoodIn wsX1_reckon (wsV RX1 83 RX1 yX1_leastSingle wsX1_leastSingle) := goodIn_app (goodIn_of _ (by decide +kernel)) ggX1_reckon_X1_leastSingle
set_option maxRecDepth 20000 in
theorem ggX1_reckon_X1_leastPair : GoodIn wsX1_reckon wsX1_leastPair := goodIn_r _ [28, 12, 13, 14, 15, 29, 16, 3, 4, 5, 6, 17, 18, 10, 19, 20, 21, 22, 23, 24, 30, 31, 32, 33, 34, 35, 36, 37, 38, 39, 40, 41, 42, 43, 44, 45] (by decide +kernel) (by decide +kernel)
set_option maxRecDepth 20000 in
theorem gX1_reckon_X1_leastPair : GoodIn wsX1_reckon (wsV RX1 86 RX1 yX1_leastPair wsX1_leastPair) := goodIn_app (goodIn_of _ (by decide +kernel)) ggX1_reckon_X1_leastPair
theorem dX1_reckon_0 : decode cX1_reckon 0 = .ok (.aload_n 0, 1) := by decide +kernel
theorem dX1_reckon_1 : decode cX1_reckon 1 = .ok (.getfield 36, 3) := by decide +kernel
theorem dX1_reckon_4 : decode cX1_reckon 4 = .ok (.aload_n 0, 1) := by decide +kernel
theorem dX1_reckon_5 : decode cX1_reckon 5 = .ok (.getfield 55, 3) := by decide +kernel
theorem dX1_reckon_8 : decode cX1_reckon 8 = .ok (.iconst 0, 1) := by decide +kernel
theorem dX1_reckon_9 : decode cX1_reckon 9 = .ok (.iastore, 1) := by decide +kernel
theorem dX1_reckon_10 : decode cX1_reckon 10 = .ok (.aload_n 0, 1) := by decide +kernel
theorem dX1_reckon_11 : decode cX1_reckon 11 = .ok (.getfield 55, 3) := by decide +kernel
theorem dX1_reckon_14 : decode cX1_reckon 14 = .ok (.iconst 1, 1) := by decide +kernel
theorem dX1_reckon_15 : decode cX1_reckon 15 = .ok (.isub, 1) := by decide +kernel
theorem dX1_reckon_16 : decode cX1_reckon 16 = .ok (.istore_n 1, 1) := by decide +kernel
theorem dX1_reckon_17 : decode cX1_reckon 17 = .ok (.iload_n 1, 1) := by decide +kernel
theorem dX1_reckon_18 : decode cX1_reckon 18 = .ok (.ifCond .lt 68, 3) := by decide +kernel
theorem dX1_reckon_21 : decode cX1_reckon 21 = .ok (.aload_n 0, 1) := by decide +kernel
theorem dX1_reckon_22 : decode cX1_reckon 22 = .ok (.getfield 36, 3) := by decide +kernel
theorem dX1_reckon_25 : decode cX1_reckon 25 = .ok (.iload_n 1, 1) := by decide +kernel
theorem dX1_reckon_26 : decode cX1_reckon 26 = .ok (.aload_n 0, 1) := by decide +kernel
theorem dX1_reckon_27 : decode cX1_reckon 27 = .ok (.iload_n 1, 1) := by decide +kernel
theorem dX1_reckon_28 : decode cX1_reckon 28 = .ok (.invokevirtual 83, 3) := by decide +kernel
theorem dX1_reckon_31 : decode cX1_reckon 31 = .ok (.aload_n 0, 1) := by decide +kernel
theorem dX1_reckon_32 : decode cX1_reckon 32 = .ok (.getfield 36, 3) := by decide +kernel
theorem dX1_reckon_35 : decode cX1_reckon 35 = .ok (.iload_n 1, 1) := by decide +kernel
theorem dX1_reckon_36 : decode cX1_reckon 36 = .ok (.iconst 1, 1) := by decide +kernel
theorem dX1_reckon_37 : decode cX1_reckon 37 = .ok (.iadd, 1) := by decide +kernel
theorem dX1_reckon_38 : decode cX1_reckon 38 = .ok (.iaload, 1) := by decide +kernel
theorem dX1_reckon_39 : decode cX1_reckon 39 = .ok (.iadd, 1) := by decide +kernel
theorem dX1_reckon_40 : decode cX1_reckon 40 = .ok (.iastore, 1) := by decide +kernel
theorem dX1_reckon_41 : decode cX1_reckon 41 = .ok (.iload_n 1, 1) := by decide +kernel
theorem dX1_reckon_42 : decode cX1_reckon 42 = .ok (.aload_n 0, 1) := by decide +kernel
theorem dX1_reckon_43 : decode cX1_reckon 43 = .ok (.getfield 55, 3) := by decide +kernel
theorem dX1_reckon_46 : decode cX1_reckon 46 = .ok (.iconst 1, 1) := by decide +kernel
theorem dX1_reckon_47 : decode cX1_reckon 47 = .ok (.isub, 1) := by decide +kernel
theorem dX1_reckon_48 : decode cX1_reckon 48 = .ok (.if_icmp .ge 32, 3) := by decide +kernel
theorem dX1_reckon_51 : decode cX1_reckon 51 = .ok (.aload_n 0, 1) := by decide +kernel
theorem dX1_reckon_52 : decode cX1_reckon 52 = .ok (.getfield 36, 3) := by decide +kernel
theorem dX1_reckon_55 : decode cX1_reckon 55 = .ok (.iload_n 1, 1) := by decide +kernel
theorem dX1_reckon_56 : decode cX1_reckon 56 = .ok (.aload_n 0, 1) := by decide +kernel
theorem dX1_reckon_57 : decode cX1_reckon 57 = .ok (.getfield 36, 3) := by decide +kernel
theorem dX1_reckon_60 : decode cX1_reckon 60 = .ok (.iload_n 1, 1) := by decide +kernel
theorem dX1_reckon_61 : decode cX1_reckon 61 = .ok (.iaload, 1) := by decide +kernel
theorem dX1_reckon_62 : decode cX1_reckon 62 = .ok (.aload_n 0, 1) := by decide +kernel
theorem dX1_reckon_63 : decode cX1_reckon 63 = .ok (.iload_n 1, 1) := by decide +kernel
theorem dX1_reckon_64 : decode cX1_reckon 64 = .ok (.invokevirtual 86, 3) := by decide +kernel
theorem dX1_reckon_67 : decode cX1_reckon 67 = .ok (.aload_n 0, 1) := by decide +kernel
theorem dX1_reckon_68 : decode cX1_reckon 68 = .ok (.getfield 36, 3) := by decide +kernel
theorem dX1_reckon_71 : decode cX1_reckon 71 = .ok (.iload_n 1, 1) := by decide +kernel
theorem dX1_reckon_72 : decode cX1_reckon 72 = .ok (.iconst 2, 1) := by decide +kernel
theorem dX1_reckon_73 : decode cX1_reckon 73 = .ok (.iadd, 1) := by decide +kernel
theorem dX1_reckon_74 : decode cX1_reckon 74 = .ok (.iaload, 1) := by decide +kernel
theorem dX1_reckon_75 : decode cX1_reckon 75 = .ok (.iadd, 1) := by decide +kernel
theorem dX1_reckon_76 : decode cX1_reckon 76 = .ok (.invokestatic 80, 3) := by decide +kernel
theorem dX1_reckon_79 : decode cX1_reckon 79 = .ok (.iastore, 1) := by decide +kernel
theorem dX1_reckon_80 : decode cX1_reckon 80 = .ok (.iinc 1 (-1), 3) := by decide +kernel
theorem dX1_reckon_83 : decode cX1_reckon 83 = .ok (.goto (-66), 3) := by decide +kernel
theorem dX1_reckon_86 : decode cX1_reckon 86 = .ok (.aload_n 0, 1) := by decide +kernel
theorem dX1_reckon_87 : decode cX1_reckon 87 = .ok (.getfield 36, 3) := by decide +kernel
theorem dX1_reckon_90 : decode cX1_reckon 90 = .ok (.iconst 0, 1) := by decide +kernel
theorem dX1_reckon_91 : decode cX1_reckon 91 = .ok (.iaload, 1) := by decide +kernel
theorem dX1_reckon_92 : decode cX1_reckon 92 = .ok (.ireturn, 1) := by decide +kernel
set_option maxRecDepth 20000 in
theorem ggX1_single_X1_has : GoodIn wsX1_single wsX1_has := goodIn_r _ [9] (by decide +kernel) (by decide +kernel)
set_option maxRecDepth 20000 in
theorem gX1_single_X1_has : GoodIn wsX1_single (va_wsS RX1 76 yX1_has wsX1_has) := goodIn_app (goodIn_of _ (by decide +kernel)) ggX1_single_X1_has
set_option maxRecDepth 20000 in
theorem ggX1_single_X1_counts : GoodIn wsX1_single wsX1_counts := goodIn_r _ [13, 14, 15, 16, 17, 18, 19, 20, 21, 22, 23, 24, 25, 26, 27, 28, 29, 30] (by decide +kernel) (by decide +kernel)
set_option maxRecDepth 20000 in
theorem gX1_single_X1_counts : GoodIn wsX1_single (wsV RX1 68 RX1 yX1_counts wsX1_counts) := goodIn_app (goodIn_of _ (by decide +kernel)) ggX1_single_X1_counts
theorem dX1_single_0 : decode cX1_single 0 = .ok (.iconst 0, 1) := by decide +kernel
theorem dX1_single_1 : decode cX1_single 1 = .ok (.istore_n 2, 1) := by decide +kernel
theorem dX1_single_2 : decode cX1_single 2 = .ok (.iload_n 2, 1) := by decide +kernel
theorem dX1_single_3 : decode cX1_single 3 = .ok (.aload_n 0, 1) := by decide +kernel
theorem dX1_single_4 : decode cX1_single 4 = .ok (.getfield 48, 3) := by decide +kernel
theorem dX1_single_7 : decode cX1_single 7 = .ok (.if_icmp .ge 57, 3) := by decide +kernel
theorem dX1_single_10 : decode cX1_single 10 = .ok (.aload_n 0, 1) := by decide +kernel
theorem dX1_single_11 : decode cX1_single 11 = .ok (.getfield 23, 3) := by decide +kernel
theorem dX1_single_14 : decode cX1_single 14 = .ok (.aload_n 0, 1) := by decide +kernel
theorem dX1_single_15 : decode cX1_single 15 = .ok (.getfield 29, 3) := by decide +kernel
theorem dX1_single_18 : decode cX1_single 18 = .ok (.iload_n 1, 1) := by decide +kernel
theorem dX1_single_19 : decode cX1_single 19 = .ok (.iaload, 1) := by decide +kernel
theorem dX1_single_20 : decode cX1_single 20 = .ok (.iaload, 1) := by decide +kernel
theorem dX1_single_21 : decode cX1_single 21 = .ok (.iload_n 2, 1) := by decide +kernel
theorem dX1_single_22 : decode cX1_single 22 = .ok (.invokestatic 76, 3) := by decide +kernel
theorem dX1_single_25 : decode cX1_single 25 = .ok (.ifCond .eq 33, 3) := by decide +kernel
theorem dX1_single_28 : decode cX1_single 28 = .ok (.aload_n 0, 1) := by decide +kernel
theorem dX1_single_29 : decode cX1_single 29 = .ok (.aload_n 0, 1) := by decide +kernel
theorem dX1_single_30 : decode cX1_single 30 = .ok (.getfield 19, 3) := by decide +kernel
theorem dX1_single_33 : decode cX1_single 33 = .ok (.iload_n 2, 1) := by decide +kernel
theorem dX1_single_34 : decode cX1_single 34 = .ok (.iaload, 1) := by decide +kernel
theorem dX1_single_35 : decode cX1_single 35 = .ok (.invokevirtual 68, 3) := by decide +kernel
theorem dX1_single_38 : decode cX1_single 38 = .ok (.aload_n 0, 1) := by decide +kernel
theorem dX1_single_39 : decode cX1_single 39 = .ok (.getfield 36, 3) := by decide +kernel
theorem dX1_single_42 : decode cX1_single 42 = .ok (.iload_n 1, 1) := by decide +kernel
theorem dX1_single_43 : decode cX1_single 43 = .ok (.iconst 1, 1) := by decide +kernel
theorem dX1_single_44 : decode cX1_single 44 = .ok (.iadd, 1) := by decide +kernel
theorem dX1_single_45 : decode cX1_single 45 = .ok (.iaload, 1) := by decide +kernel
theorem dX1_single_46 : decode cX1_single 46 = .ok (.iadd, 1) := by decide +kernel
theorem dX1_single_47 : decode cX1_single 47 = .ok (.aload_n 0, 1) := by decide +kernel
theorem dX1_single_48 : decode cX1_single 48 = .ok (.getfield 36, 3) := by decide +kernel
theorem dX1_single_51 : decode cX1_single 51 = .ok (.iload_n 1, 1) := by decide +kernel
theorem dX1_single_52 : decode cX1_single 52 = .ok (.iaload, 1) := by decide +kernel
theorem dX1_single_53 : decode cX1_single 53 = .ok (.if_icmp .ne 5, 3) := by decide +kernel
theorem dX1_single_56 : decode cX1_single 56 = .ok (.iload_n 2, 1) := by decide +kernel
theorem dX1_single_57 : decode cX1_single 57 = .ok (.ireturn, 1) := by decide +kernel
theorem dX1_single_58 : decode cX1_single 58 = .ok (.iinc 2 1, 3) := by decide +kernel
theorem dX1_single_61 : decode cX1_single 61 = .ok (.goto (-59), 3) := by decide +kernel
theorem dX1_single_64 : decode cX1_single 64 = .ok (.iconst (-1), 1) := by decide +kernel
theorem dX1_single_65 : decode cX1_single 65 = .ok (.ireturn, 1) := by decide +kernel
set_option maxRecDepth 20000 in
theorem ggX1_pair_X1_has : GoodIn wsX1_pair wsX1_has := goodIn_r _ [11] (by decide +kernel) (by decide +kernel)
set_option maxRecDepth 20000 in
theorem gX1_pair_X1_has : GoodIn wsX1_pair (va_wsS RX1 76 yX1_has wsX1_has) := goodIn_app (goodIn_of _ (by decide +kernel)) ggX1_pair_X1_has
set_option maxRecDepth 20000 in
theorem ggX1_pair_X1_counts : GoodIn wsX1_pair wsX1_counts := goodIn_r _ [15, 16, 17, 18, 19, 20, 21, 22, 23, 24, 25, 26, 27, 28, 29, 30, 31, 32] (by decide +kernel) (by decide +kernel)
set_option maxRecDepth 20000 in
theorem gX1_pair_X1_counts : GoodIn wsX1_pair (wsV RX1 68 RX1 yX1_counts wsX1_counts) := goodIn_app (goodIn_of _ (by decide +kernel)) ggX1_pair_X1_counts
theorem dX1_pair_0 : decode cX1_pair 0 = .ok (.iconst 0, 1) := by decide +kernel
theorem dX1_pair_1 : decode cX1_pair 1 = .ok (.istore_n 2, 1) := by decide +kernel
theorem dX1_pair_2 : decode cX1_pair 2 = .ok (.iload_n 2, 1) := by decide +kernel
theorem dX1_pair_3 : decode cX1_pair 3 = .ok (.aload_n 0, 1) := by decide +kernel
theorem dX1_pair_4 : decode cX1_pair 4 = .ok (.getfield 48, 3) := by decide +kernel
theorem dX1_pair_7 : decode cX1_pair 7 = .ok (.if_icmp .ge 134, 3) := by decide +kernel
theorem dX1_pair_10 : decode cX1_pair 10 = .ok (.aload_n 0, 1) := by decide +kernel
theorem dX1_pair_11 : decode cX1_pair 11 = .ok (.getfield 23, 3) := by decide +kernel
theorem dX1_pair_14 : decode cX1_pair 14 = .ok (.aload_n 0, 1) := by decide +kernel
theorem dX1_pair_15 : decode cX1_pair 15 = .ok (.getfield 29, 3) := by decide +kernel
theorem dX1_pair_18 : decode cX1_pair 18 = .ok (.iload_n 1, 1) := by decide +kernel
theorem dX1_pair_19 : decode cX1_pair 19 = .ok (.iaload, 1) := by decide +kernel
theorem dX1_pair_20 : decode cX1_pair 20 = .ok (.iaload, 1) := by decide +kernel
theorem dX1_pair_21 : decode cX1_pair 21 = .ok (.iload_n 2, 1) := by decide +kernel
theorem dX1_pair_22 : decode cX1_pair 22 = .ok (.invokestatic 76, 3) := by decide +kernel
theorem dX1_pair_25 : decode cX1_pair 25 = .ok (.ifCond .ne 6, 3) := by decide +kernel
theorem dX1_pair_28 : decode cX1_pair 28 = .ok (.goto 107, 3) := by decide +kernel
theorem dX1_pair_31 : decode cX1_pair 31 = .ok (.iconst 0, 1) := by decide +kernel
theorem dX1_pair_32 : decode cX1_pair 32 = .ok (.istore_n 3, 1) := by decide +kernel
theorem dX1_pair_33 : decode cX1_pair 33 = .ok (.iload_n 3, 1) := by decide +kernel
theorem dX1_pair_34 : decode cX1_pair 34 = .ok (.aload_n 0, 1) := by decide +kernel
theorem dX1_pair_35 : decode cX1_pair 35 = .ok (.getfield 48, 3) := by decide +kernel
theorem dX1_pair_38 : decode cX1_pair 38 = .ok (.if_icmp .ge 97, 3) := by decide +kernel
theorem dX1_pair_41 : decode cX1_pair 41 = .ok (.aload_n 0, 1) := by decide +kernel
theorem dX1_pair_42 : decode cX1_pair 42 = .ok (.getfield 23, 3) := by decide +kernel
theorem dX1_pair_45 : decode cX1_pair 45 = .ok (.aload_n 0, 1) := by decide +kernel
theorem dX1_pair_46 : decode cX1_pair 46 = .ok (.getfield 29, 3) := by decide +kernel
theorem dX1_pair_49 : decode cX1_pair 49 = .ok (.iload_n 1, 1) := by decide +kernel
theorem dX1_pair_50 : decode cX1_pair 50 = .ok (.iconst 1, 1) := by decide +kernel
theorem dX1_pair_51 : decode cX1_pair 51 = .ok (.iadd, 1) := by decide +kernel
theorem dX1_pair_52 : decode cX1_pair 52 = .ok (.iaload, 1) := by decide +kernel
theorem dX1_pair_53 : decode cX1_pair 53 = .ok (.iaload, 1) := by decide +kernel
theorem dX1_pair_54 : decode cX1_pair 54 = .ok (.iload_n 3, 1) := by decide +kernel
theorem dX1_pair_55 : decode cX1_pair 55 = .ok (.invokestatic 76, 3) := by decide +kernel
theorem dX1_pair_58 : decode cX1_pair 58 = .ok (.ifCond .eq 71, 3) := by decide +kernel
theorem dX1_pair_61 : decode cX1_pair 61 = .ok (.aload_n 0, 1) := by decide +kernel
theorem dX1_pair_62 : decode cX1_pair 62 = .ok (.getfield 26, 3) := by decide +kernel
theorem dX1_pair_65 : decode cX1_pair 65 = .ok (.iload_n 2, 1) := by decide +kernel
theorem dX1_pair_66 : decode cX1_pair 66 = .ok (.iaload, 1) := by decide +kernel
theorem dX1_pair_67 : decode cX1_pair 67 = .ok (.iload_n 3, 1) := by decide +kernel
theorem dX1_pair_68 : decode cX1_pair 68 = .ok (.invokestatic 76, 3) := by decide +kernel
theorem dX1_pair_71 : decode cX1_pair 71 = .ok (.ifCond .eq 58, 3) := by decide +kernel
theorem dX1_pair_74 : decode cX1_pair 74 = .ok (.aload_n 0, 1) := by decide +kernel
theorem dX1_pair_75 : decode cX1_pair 75 = .ok (.aload_n 0, 1) := by decide +kernel
theorem dX1_pair_76 : decode cX1_pair 76 = .ok (.getfield 19, 3) := by decide +kernel
theorem dX1_pair_79 : decode cX1_pair 79 = .ok (.iload_n 2, 1) := by decide +kernel
theorem dX1_pair_80 : decode cX1_pair 80 = .ok (.iaload, 1) := by decide +kernel
theorem dX1_pair_81 : decode cX1_pair 81 = .ok (.aload_n 0, 1) := by decide +kernel
theorem dX1_pair_82 : decode cX1_pair 82 = .ok (.getfield 19, 3) := by decide +kernel
theorem dX1_pair_85 : decode cX1_pair 85 = .ok (.iload_n 3, 1) := by decide +kernel
theorem dX1_pair_86 : decode cX1_pair 86 = .ok (.iaload, 1) := by decide +kernel
theorem dX1_pair_87 : decode cX1_pair 87 = .ok (.iadd, 1) := by decide +kernel
theorem dX1_pair_88 : decode cX1_pair 88 = .ok (.invokevirtual 68, 3) := by decide +kernel
theorem dX1_pair_91 : decode cX1_pair 91 = .ok (.aload_n 0, 1) := by decide +kernel
theorem dX1_pair_92 : decode cX1_pair 92 = .ok (.getfield 36, 3) := by decide +kernel
theorem dX1_pair_95 : decode cX1_pair 95 = .ok (.iload_n 1, 1) := by decide +kernel
theorem dX1_pair_96 : decode cX1_pair 96 = .ok (.iconst 2, 1) := by decide +kernel
theorem dX1_pair_97 : decode cX1_pair 97 = .ok (.iadd, 1) := by decide +kernel
theorem dX1_pair_98 : decode cX1_pair 98 = .ok (.iaload, 1) := by decide +kernel
theorem dX1_pair_99 : decode cX1_pair 99 = .ok (.iadd, 1) := by decide +kernel
theorem dX1_pair_100 : decode cX1_pair 100 = .ok (.aload_n 0, 1) := by decide +kernel
theorem dX1_pair_101 : decode cX1_pair 101 = .ok (.getfield 36, 3) := by decide +kernel
theorem dX1_pair_104 : decode cX1_pair 104 = .ok (.iload_n 1, 1) := by decide +kernel
theorem dX1_pair_105 : decode cX1_pair 105 = .ok (.iaload, 1) := by decide +kernel
theorem dX1_pair_106 : decode cX1_pair 106 = .ok (.if_icmp .eq 6, 3) := by decide +kernel
theorem dX1_pair_109 : decode cX1_pair 109 = .ok (.goto 20, 3) := by decide +kernel
theorem dX1_pair_112 : decode cX1_pair 112 = .ok (.aload_n 0, 1) := by decide +kernel
theorem dX1_pair_113 : decode cX1_pair 113 = .ok (.getfield 39, 3) := by decide +kernel
theorem dX1_pair_116 : decode cX1_pair 116 = .ok (.iload_n 1, 1) := by decide +kernel
theorem dX1_pair_117 : decode cX1_pair 117 = .ok (.iload_n 2, 1) := by decide +kernel
theorem dX1_pair_118 : decode cX1_pair 118 = .ok (.iastore, 1) := by decide +kernel
theorem dX1_pair_119 : decode cX1_pair 119 = .ok (.aload_n 0, 1) := by decide +kernel
theorem dX1_pair_120 : decode cX1_pair 120 = .ok (.getfield 39, 3) := by decide +kernel
theorem dX1_pair_123 : decode cX1_pair 123 = .ok (.iload_n 1, 1) := by decide +kernel
theorem dX1_pair_124 : decode cX1_pair 124 = .ok (.iconst 1, 1) := by decide +kernel
theorem dX1_pair_125 : decode cX1_pair 125 = .ok (.iadd, 1) := by decide +kernel
theorem dX1_pair_126 : decode cX1_pair 126 = .ok (.iload_n 3, 1) := by decide +kernel
theorem dX1_pair_127 : decode cX1_pair 127 = .ok (.iastore, 1) := by decide +kernel
theorem dX1_pair_128 : decode cX1_pair 128 = .ok (.return_, 1) := by decide +kernel
theorem dX1_pair_129 : decode cX1_pair 129 = .ok (.iinc 3 1, 3) := by decide +kernel
theorem dX1_pair_132 : decode cX1_pair 132 = .ok (.goto (-99), 3) := by decide +kernel
theorem dX1_pair_135 : decode cX1_pair 135 = .ok (.iinc 2 1, 3) := by decide +kernel
theorem dX1_pair_138 : decode cX1_pair 138 = .ok (.goto (-136), 3) := by decide +kernel
theorem dX1_pair_141 : decode cX1_pair 141 = .ok (.return_, 1) := by decide +kernel
set_option maxRecDepth 20000 in
theorem ggX1_choose_X1_reckon : GoodIn wsX1_choose wsX1_reckon := goodIn_r _ [8, 9, 1, 10, 11, 12, 13, 14, 15, 16, 7, 17, 18, 19, 20, 21, 22, 23, 24, 25, 26, 27, 28, 29, 30, 31, 32, 33, 34, 35, 44, 45, 46, 47, 48, 49, 50, 51, 52, 53, 54, 55, 56, 57, 58, 59] (by decide +kernel) (by decide +kernel)
set_option maxRecDepth 20000 in
theorem gX1_choose_X1_reckon : GoodIn wsX1_choose (wsV RX1 89 RX1 yX1_reckon wsX1_reckon) := goodIn_app (goodIn_of _ (by decide +kernel)) ggX1_choose_X1_reckon
set_option maxRecDepth 20000 in
theorem ggX1_choose_X1_single : GoodIn wsX1_choose wsX1_single := goodIn_r _ [39, 19, 20, 21, 22, 9, 23, 24, 7, 25, 26, 27, 28, 29, 30, 44, 45, 46, 47, 48, 49, 50, 51, 52, 53, 54, 55, 56, 57, 58, 59] (by decide +kernel) (by decide +kernel)
set_option maxRecDepth 20000 in
theorem gX1_choose_X1_single : GoodIn wsX1_choose (wsV RX1 93 RX1 yX1_single wsX1_single) := goodIn_app (goodIn_of _ (by decide +kernel)) ggX1_choose_X1_single
set_option maxRecDepth 20000 in
theorem ggX1_choose_X1_pair : GoodIn wsX1_choose wsX1_pair := goodIn_r _ [43, 19, 20, 21, 35, 22, 9, 3, 23, 24, 7, 25, 26, 27, 28, 29, 30, 44, 45, 46, 47, 48, 49, 50, 51, 52, 53, 54, 55, 56, 57, 58, 59] (by decide +kernel) (by decide +kernel)
set_option maxRecDepth 20000 in
theorem gX1_choose_X1_pair : GoodIn wsX1_choose (wsV RX1 96 RX1 yX1_pair wsX1_pair) := goodIn_app (goodIn_of _ (by decide +kernel)) ggX1_choose_X1_pair
theorem dX1_choose_0 : decode cX1_choose 0 = .ok (.aload_n 0, 1) := by decide +kernel
theorem dX1_choose_1 : decode cX1_choose 1 = .ok (.invokevirtual 89, 3) := by decide +kernel
theorem dX1_choose_4 : decode cX1_choose 4 = .ok (.pop, 1) := by decide +kernel
theorem dX1_choose_5 : decode cX1_choose 5 = .ok (.iconst 0, 1) := by decide +kernel
theorem dX1_choose_6 : decode cX1_choose 6 = .ok (.istore_n 1, 1) := by decide +kernel
theorem dX1_choose_7 : decode cX1_choose 7 = .ok (.iload_n 1, 1) := by decide +kernel
theorem dX1_choose_8 : decode cX1_choose 8 = .ok (.aload_n 0, 1) := by decide +kernel
theorem dX1_choose_9 : decode cX1_choose 9 = .ok (.getfield 55, 3) := by decide +kernel
theorem dX1_choose_12 : decode cX1_choose 12 = .ok (.if_icmp .ge 63, 3) := by decide +kernel
theorem dX1_choose_15 : decode cX1_choose 15 = .ok (.aload_n 0, 1) := by decide +kernel
theorem dX1_choose_16 : decode cX1_choose 16 = .ok (.iload_n 1, 1) := by decide +kernel
theorem dX1_choose_17 : decode cX1_choose 17 = .ok (.invokevirtual 93, 3) := by decide +kernel
theorem dX1_choose_20 : decode cX1_choose 20 = .ok (.istore_n 2, 1) := by decide +kernel
theorem dX1_choose_21 : decode cX1_choose 21 = .ok (.aload_n 0, 1) := by decide +kernel
theorem dX1_choose_22 : decode cX1_choose 22 = .ok (.getfield 42, 3) := by decide +kernel
theorem dX1_choose_25 : decode cX1_choose 25 = .ok (.iload_n 1, 1) := by decide +kernel
theorem dX1_choose_26 : decode cX1_choose 26 = .ok (.iload_n 2, 1) := by decide +kernel
theorem dX1_choose_27 : decode cX1_choose 27 = .ok (.iconst (-1), 1) := by decide +kernel
theorem dX1_choose_28 : decode cX1_choose 28 = .ok (.if_icmp .ne 7, 3) := by decide +kernel
theorem dX1_choose_31 : decode cX1_choose 31 = .ok (.iconst 1, 1) := by decide +kernel
theorem dX1_choose_32 : decode cX1_choose 32 = .ok (.goto 4, 3) := by decide +kernel
theorem dX1_choose_35 : decode cX1_choose 35 = .ok (.iconst 0, 1) := by decide +kernel
theorem dX1_choose_36 : decode cX1_choose 36 = .ok (.bastore, 1) := by decide +kernel
theorem dX1_choose_37 : decode cX1_choose 37 = .ok (.iload_n 2, 1) := by decide +kernel
theorem dX1_choose_38 : decode cX1_choose 38 = .ok (.iconst (-1), 1) := by decide +kernel
theorem dX1_choose_39 : decode cX1_choose 39 = .ok (.if_icmp .eq 16, 3) := by decide +kernel
theorem dX1_choose_42 : decode cX1_choose 42 = .ok (.aload_n 0, 1) := by decide +kernel
theorem dX1_choose_43 : decode cX1_choose 43 = .ok (.getfield 39, 3) := by decide +kernel
theorem dX1_choose_46 : decode cX1_choose 46 = .ok (.iload_n 1, 1) := by decide +kernel
theorem dX1_choose_47 : decode cX1_choose 47 = .ok (.iload_n 2, 1) := by decide +kernel
theorem dX1_choose_48 : decode cX1_choose 48 = .ok (.iastore, 1) := by decide +kernel
theorem dX1_choose_49 : decode cX1_choose 49 = .ok (.iinc 1 1, 3) := by decide +kernel
theorem dX1_choose_52 : decode cX1_choose 52 = .ok (.goto 20, 3) := by decide +kernel
theorem dX1_choose_55 : decode cX1_choose 55 = .ok (.aload_n 0, 1) := by decide +kernel
theorem dX1_choose_56 : decode cX1_choose 56 = .ok (.iload_n 1, 1) := by decide +kernel
theorem dX1_choose_57 : decode cX1_choose 57 = .ok (.invokevirtual 96, 3) := by decide +kernel
theorem dX1_choose_60 : decode cX1_choose 60 = .ok (.aload_n 0, 1) := by decide +kernel
theorem dX1_choose_61 : decode cX1_choose 61 = .ok (.getfield 42, 3) := by decide +kernel
theorem dX1_choose_64 : decode cX1_choose 64 = .ok (.iload_n 1, 1) := by decide +kernel
theorem dX1_choose_65 : decode cX1_choose 65 = .ok (.iconst 1, 1) := by decide +kernel
theorem dX1_choose_66 : decode cX1_choose 66 = .ok (.iadd, 1) := by decide +kernel
theorem dX1_choose_67 : decode cX1_choose 67 = .ok (.iconst 0, 1) := by decide +kernel
theorem dX1_choose_68 : decode cX1_choose 68 = .ok (.bastore, 1) := by decide +kernel
theorem dX1_choose_69 : decode cX1_choose 69 = .ok (.iinc 1 2, 3) := by decide +kernel
theorem dX1_choose_72 : decode cX1_choose 72 = .ok (.goto (-65), 3) := by decide +kernel
theorem dX1_choose_75 : decode cX1_choose 75 = .ok (.return_, 1) := by decide +kernel
set_option maxRecDepth 20000 in
theorem ggX1_addWord_X1_isIn : GoodIn wsX1_addWord wsX1_isIn := goodIn_r _ [8] (by decide +kernel) (by decide +kernel)
set_option maxRecDepth 20000 in
theorem gX1_addWord_X1_isIn : GoodIn wsX1_addWord (va_wsS RX1 51 yX1_isIn wsX1_isIn) := goodIn_app (goodIn_of _ (by decide +kernel)) ggX1_addWord_X1_isIn
set_option maxRecDepth 20000 in
theorem ggX1_addWord_X1_fail : GoodIn wsX1_addWord wsX1_fail := goodIn_r _ [12, 1, 13, 14, 15, 16, 17, 18, 19, 20, 21, 22, 23, 24, 25, 26, 27, 28] (by decide +kernel) (by decide +kernel)
set_option maxRecDepth 20000 in
theorem gX1_addWord_X1_fail : GoodIn wsX1_addWord (wsV RX1 100 RX1 yX1_fail wsX1_fail) := goodIn_app (goodIn_of _ (by decide +kernel)) ggX1_addWord_X1_fail
theorem dX1_addWord_0 : decode cX1_addWord 0 = .ok (.aload_n 0, 1) := by decide +kernel
theorem dX1_addWord_1 : decode cX1_addWord 1 = .ok (.iconst 0, 1) := by decide +kernel
theorem dX1_addWord_2 : decode cX1_addWord 2 = .ok (.putfield 45, 3) := by decide +kernel
theorem dX1_addWord_5 : decode cX1_addWord 5 = .ok (.iload_n 1, 1) := by decide +kernel
theorem dX1_addWord_6 : decode cX1_addWord 6 = .ok (.iconst 1, 1) := by decide +kernel
theorem dX1_addWord_7 : decode cX1_addWord 7 = .ok (.bipush 30, 2) := by decide +kernel
theorem dX1_addWord_9 : decode cX1_addWord 9 = .ok (.invokestatic 51, 3) := by decide +kernel
theorem dX1_addWord_12 : decode cX1_addWord 12 = .ok (.ifCond .ne 9, 3) := by decide +kernel
theorem dX1_addWord_15 : decode cX1_addWord 15 = .ok (.aload_n 0, 1) := by decide +kernel
theorem dX1_addWord_16 : decode cX1_addWord 16 = .ok (.iconst 1, 1) := by decide +kernel
theorem dX1_addWord_17 : decode cX1_addWord 17 = .ok (.invokevirtual 100, 3) := by decide +kernel
theorem dX1_addWord_20 : decode cX1_addWord 20 = .ok (.ireturn, 1) := by decide +kernel
theorem dX1_addWord_21 : decode cX1_addWord 21 = .ok (.aload_n 0, 1) := by decide +kernel
theorem dX1_addWord_22 : decode cX1_addWord 22 = .ok (.getfield 48, 3) := by decide +kernel
theorem dX1_addWord_25 : decode cX1_addWord 25 = .ok (.bipush 12, 2) := by decide +kernel
theorem dX1_addWord_27 : decode cX1_addWord 27 = .ok (.if_icmp .ne 9, 3) := by decide +kernel
theorem dX1_addWord_30 : decode cX1_addWord 30 = .ok (.aload_n 0, 1) := by decide +kernel
theorem dX1_addWord_31 : decode cX1_addWord 31 = .ok (.iconst 2, 1) := by decide +kernel
theorem dX1_addWord_32 : decode cX1_addWord 32 = .ok (.invokevirtual 100, 3) := by decide +kernel
theorem dX1_addWord_35 : decode cX1_addWord 35 = .ok (.ireturn, 1) := by decide +kernel
theorem dX1_addWord_36 : decode cX1_addWord 36 = .ok (.aload_n 0, 1) := by decide +kernel
theorem dX1_addWord_37 : decode cX1_addWord 37 = .ok (.getfield 19, 3) := by decide +kernel
theorem dX1_addWord_40 : decode cX1_addWord 40 = .ok (.aload_n 0, 1) := by decide +kernel
theorem dX1_addWord_41 : decode cX1_addWord 41 = .ok (.getfield 48, 3) := by decide +kernel
theorem dX1_addWord_44 : decode cX1_addWord 44 = .ok (.iload_n 1, 1) := by decide +kernel
theorem dX1_addWord_45 : decode cX1_addWord 45 = .ok (.iastore, 1) := by decide +kernel
theorem dX1_addWord_46 : decode cX1_addWord 46 = .ok (.aload_n 0, 1) := by decide +kernel
theorem dX1_addWord_47 : decode cX1_addWord 47 = .ok (.getfield 23, 3) := by decide +kernel
theorem dX1_addWord_50 : decode cX1_addWord 50 = .ok (.aload_n 0, 1) := by decide +kernel
theorem dX1_addWord_51 : decode cX1_addWord 51 = .ok (.getfield 48, 3) := by decide +kernel
theorem dX1_addWord_54 : decode cX1_addWord 54 = .ok (.iconst 1, 1) := by decide +kernel
theorem dX1_addWord_55 : decode cX1_addWord 55 = .ok (.aload_n 0, 1) := by decide +kernel
theorem dX1_addWord_56 : decode cX1_addWord 56 = .ok (.getfield 48, 3) := by decide +kernel
theorem dX1_addWord_59 : decode cX1_addWord 59 = .ok (.ishl, 1) := by decide +kernel
theorem dX1_addWord_60 : decode cX1_addWord 60 = .ok (.iastore, 1) := by decide +kernel
theorem dX1_addWord_61 : decode cX1_addWord 61 = .ok (.aload_n 0, 1) := by decide +kernel
theorem dX1_addWord_62 : decode cX1_addWord 62 = .ok (.dup, 1) := by decide +kernel
theorem dX1_addWord_63 : decode cX1_addWord 63 = .ok (.getfield 48, 3) := by decide +kernel
theorem dX1_addWord_66 : decode cX1_addWord 66 = .ok (.iconst 1, 1) := by decide +kernel
theorem dX1_addWord_67 : decode cX1_addWord 67 = .ok (.iadd, 1) := by decide +kernel
theorem dX1_addWord_68 : decode cX1_addWord 68 = .ok (.putfield 48, 3) := by decide +kernel
theorem dX1_addWord_71 : decode cX1_addWord 71 = .ok (.aload_n 0, 1) := by decide +kernel
theorem dX1_addWord_72 : decode cX1_addWord 72 = .ok (.getfield 48, 3) := by decide +kernel
theorem dX1_addWord_75 : decode cX1_addWord 75 = .ok (.iconst 1, 1) := by decide +kernel
theorem dX1_addWord_76 : decode cX1_addWord 76 = .ok (.isub, 1) := by decide +kernel
theorem dX1_addWord_77 : decode cX1_addWord 77 = .ok (.ireturn, 1) := by decide +kernel
set_option maxRecDepth 20000 in
theorem ggX1_turnStandIn_X1_arePair : GoodIn wsX1_turnStandIn wsX1_arePair := goodIn_r _ [6, 7, 8, 9, 10, 5, 11, 12, 13, 14, 15, 23, 24, 25, 26, 27, 28, 29, 30, 31, 32, 33, 34, 35, 36, 37, 38] (by decide +kernel) (by decide +kernel)
set_option maxRecDepth 20000 in
theorem gX1_turnStandIn_X1_arePair : GoodIn wsX1_turnStandIn (wsV RX1 103 RX1 yX1_arePair wsX1_arePair) := goodIn_app (goodIn_of _ (by decide +kernel)) ggX1_turnStandIn_X1_arePair
set_option maxRecDepth 20000 in
theorem ggX1_turnStandIn_X1_failed : GoodIn wsX1_turnStandIn wsX1_failed := goodIn_r _ [19, 7, 23, 24, 25, 26, 27, 28, 29, 30, 31, 32, 33, 34, 35, 36, 37, 38] (by decide +kernel) (by decide +kernel)
set_option maxRecDepth 20000 in
theorem gX1_turnStandIn_X1_failed : GoodIn wsX1_turnStandIn (wsV RX1 106 RX1 yX1_failed wsX1_failed) := goodIn_app (goodIn_of _ (by decide +kernel)) ggX1_turnStandIn_X1_failed
set_option maxRecDepth 20000 in
theorem ggX1_turnStandIn_X1_has : GoodIn wsX1_turnStandIn wsX1_has := goodIn_r _ [22] (by decide +kernel) (by decide +kernel)
set_option maxRecDepth 20000 in
theorem gX1_turnStandIn_X1_has : GoodIn wsX1_turnStandIn (va_wsS RX1 76 yX1_has wsX1_has) := goodIn_app (goodIn_of _ (by decide +kernel)) ggX1_turnStandIn_X1_has
theorem dX1_turnStandIn_0 : decode cX1_turnStandIn 0 = .ok (.aload_n 0, 1) := by decide +kernel
theorem dX1_turnStandIn_1 : decode cX1_turnStandIn 1 = .ok (.iload_n 1, 1) := by decide +kernel
theorem dX1_turnStandIn_2 : decode cX1_turnStandIn 2 = .ok (.iload_n 2, 1) := by decide +kernel
theorem dX1_turnStandIn_3 : decode cX1_turnStandIn 3 = .ok (.invokevirtual 103, 3) := by decide +kernel
theorem dX1_turnStandIn_6 : decode cX1_turnStandIn 6 = .ok (.ifCond .ne 5, 3) := by decide +kernel
theorem dX1_turnStandIn_9 : decode cX1_turnStandIn 9 = .ok (.iconst 0, 1) := by decide +kernel
theorem dX1_turnStandIn_10 : decode cX1_turnStandIn 10 = .ok (.ireturn, 1) := by decide +kernel
theorem dX1_turnStandIn_11 : decode cX1_turnStandIn 11 = .ok (.iload_n 1, 1) := by decide +kernel
theorem dX1_turnStandIn_12 : decode cX1_turnStandIn 12 = .ok (.iload_n 2, 1) := by decide +kernel
theorem dX1_turnStandIn_13 : decode cX1_turnStandIn 13 = .ok (.if_icmp .ne 9, 3) := by decide +kernel
theorem dX1_turnStandIn_16 : decode cX1_turnStandIn 16 = .ok (.aload_n 0, 1) := by decide +kernel
theorem dX1_turnStandIn_17 : decode cX1_turnStandIn 17 = .ok (.iconst 2, 1) := by decide +kernel
theorem dX1_turnStandIn_18 : decode cX1_turnStandIn 18 = .ok (.invokevirtual 106, 3) := by decide +kernel
theorem dX1_turnStandIn_21 : decode cX1_turnStandIn 21 = .ok (.ireturn, 1) := by decide +kernel
theorem dX1_turnStandIn_22 : decode cX1_turnStandIn 22 = .ok (.aload_n 0, 1) := by decide +kernel
theorem dX1_turnStandIn_23 : decode cX1_turnStandIn 23 = .ok (.getfield 23, 3) := by decide +kernel
theorem dX1_turnStandIn_26 : decode cX1_turnStandIn 26 = .ok (.iload_n 1, 1) := by decide +kernel
theorem dX1_turnStandIn_27 : decode cX1_turnStandIn 27 = .ok (.dup2, 1) := by decide +kernel
theorem dX1_turnStandIn_28 : decode cX1_turnStandIn 28 = .ok (.iaload, 1) := by decide +kernel
theorem dX1_turnStandIn_29 : decode cX1_turnStandIn 29 = .ok (.iconst 1, 1) := by decide +kernel
theorem dX1_turnStandIn_30 : decode cX1_turnStandIn 30 = .ok (.iload_n 2, 1) := by decide +kernel
theorem dX1_turnStandIn_31 : decode cX1_turnStandIn 31 = .ok (.ishl, 1) := by decide +kernel
theorem dX1_turnStandIn_32 : decode cX1_turnStandIn 32 = .ok (.ixor, 1) := by decide +kernel
theorem dX1_turnStandIn_33 : decode cX1_turnStandIn 33 = .ok (.iastore, 1) := by decide +kernel
theorem dX1_turnStandIn_34 : decode cX1_turnStandIn 34 = .ok (.aload_n 0, 1) := by decide +kernel
theorem dX1_turnStandIn_35 : decode cX1_turnStandIn 35 = .ok (.getfield 23, 3) := by decide +kernel
theorem dX1_turnStandIn_38 : decode cX1_turnStandIn 38 = .ok (.iload_n 1, 1) := by decide +kernel
theorem dX1_turnStandIn_39 : decode cX1_turnStandIn 39 = .ok (.iaload, 1) := by decide +kernel
theorem dX1_turnStandIn_40 : decode cX1_turnStandIn 40 = .ok (.iload_n 2, 1) := by decide +kernel
theorem dX1_turnStandIn_41 : decode cX1_turnStandIn 41 = .ok (.invokestatic 76, 3) := by decide +kernel
theorem dX1_turnStandIn_44 : decode cX1_turnStandIn 44 = .ok (.ireturn, 1) := by decide +kernel
set_option maxRecDepth 20000 in
theorem ggX1_turnJoin_X1_arePair : GoodIn wsX1_turnJoin wsX1_arePair := goodIn_r _ [6, 7, 8, 9, 10, 5, 11, 12, 13, 14, 15, 19, 20, 21, 22, 23, 24, 25, 26, 27, 28, 29, 30, 31, 32, 33, 34] (by decide +kernel) (by decide +kernel)
set_option maxRecDepth 20000 in
theorem gX1_turnJoin_X1_arePair : GoodIn wsX1_turnJoin (wsV RX1 103 RX1 yX1_arePair wsX1_arePair) := goodIn_app (goodIn_of _ (by decide +kernel)) ggX1_turnJoin_X1_arePair
set_option maxRecDepth 20000 in
theorem ggX1_turnJoin_X1_has : GoodIn wsX1_turnJoin wsX1_has := goodIn_r _ [18] (by decide +kernel) (by decide +kernel)
set_option maxRecDepth 20000 in
theorem gX1_turnJoin_X1_has : GoodIn wsX1_turnJoin (va_wsS RX1 76 yX1_has wsX1_has) := goodIn_app (goodIn_of _ (by decide +kernel)) ggX1_turnJoin_X1_has
theorem dX1_turnJoin_0 : decode cX1_turnJoin 0 = .ok (.aload_n 0, 1) := by decide +kernel
theorem dX1_turnJoin_1 : decode cX1_turnJoin 1 = .ok (.iload_n 1, 1) := by decide +kernel
theorem dX1_turnJoin_2 : decode cX1_turnJoin 2 = .ok (.iload_n 2, 1) := by decide +kernel
theorem dX1_turnJoin_3 : decode cX1_turnJoin 3 = .ok (.invokevirtual 103, 3) := by decide +kernel
theorem dX1_turnJoin_6 : decode cX1_turnJoin 6 = .ok (.ifCond .ne 5, 3) := by decide +kernel
theorem dX1_turnJoin_9 : decode cX1_turnJoin 9 = .ok (.iconst 0, 1) := by decide +kernel
theorem dX1_turnJoin_10 : decode cX1_turnJoin 10 = .ok (.ireturn, 1) := by decide +kernel
theorem dX1_turnJoin_11 : decode cX1_turnJoin 11 = .ok (.aload_n 0, 1) := by decide +kernel
theorem dX1_turnJoin_12 : decode cX1_turnJoin 12 = .ok (.getfield 26, 3) := by decide +kernel
theorem dX1_turnJoin_15 : decode cX1_turnJoin 15 = .ok (.iload_n 1, 1) := by decide +kernel
theorem dX1_turnJoin_16 : decode cX1_turnJoin 16 = .ok (.dup2, 1) := by decide +kernel
theorem dX1_turnJoin_17 : decode cX1_turnJoin 17 = .ok (.iaload, 1) := by decide +kernel
theorem dX1_turnJoin_18 : decode cX1_turnJoin 18 = .ok (.iconst 1, 1) := by decide +kernel
theorem dX1_turnJoin_19 : decode cX1_turnJoin 19 = .ok (.iload_n 2, 1) := by decide +kernel
theorem dX1_turnJoin_20 : decode cX1_turnJoin 20 = .ok (.ishl, 1) := by decide +kernel
theorem dX1_turnJoin_21 : decode cX1_turnJoin 21 = .ok (.ixor, 1) := by decide +kernel
theorem dX1_turnJoin_22 : decode cX1_turnJoin 22 = .ok (.iastore, 1) := by decide +kernel
theorem dX1_turnJoin_23 : decode cX1_turnJoin 23 = .ok (.aload_n 0, 1) := by decide +kernel
theorem dX1_turnJoin_24 : decode cX1_turnJoin 24 = .ok (.getfield 26, 3) := by decide +kernel
theorem dX1_turnJoin_27 : decode cX1_turnJoin 27 = .ok (.iload_n 1, 1) := by decide +kernel
theorem dX1_turnJoin_28 : decode cX1_turnJoin 28 = .ok (.iaload, 1) := by decide +kernel
theorem dX1_turnJoin_29 : decode cX1_turnJoin 29 = .ok (.iload_n 2, 1) := by decide +kernel
theorem dX1_turnJoin_30 : decode cX1_turnJoin 30 = .ok (.invokestatic 76, 3) := by decide +kernel
theorem dX1_turnJoin_33 : decode cX1_turnJoin 33 = .ok (.ireturn, 1) := by decide +kernel
set_option maxRecDepth 20000 in
theorem ggX1_setLimit_X1_isIn : GoodIn wsX1_setLimit wsX1_isIn := goodIn_r _ [6] (by decide +kernel) (by decide +kernel)
set_option maxRecDepth 20000 in
theorem gX1_setLimit_X1_isIn : GoodIn wsX1_setLimit (va_wsS RX1 51 yX1_isIn wsX1_isIn) := goodIn_app (goodIn_of _ (by decide +kernel)) ggX1_setLimit_X1_isIn
set_option maxRecDepth 20000 in
theorem ggX1_setLimit_X1_fail : GoodIn wsX1_setLimit wsX1_fail := goodIn_r _ [10, 1, 11, 12, 13, 14, 15, 16, 17, 18, 19, 20, 21, 22, 23, 24, 25, 26] (by decide +kernel) (by decide +kernel)
set_option maxRecDepth 20000 in
theorem gX1_setLimit_X1_fail : GoodIn wsX1_setLimit (wsV RX1 100 RX1 yX1_fail wsX1_fail) := goodIn_app (goodIn_of _ (by decide +kernel)) ggX1_setLimit_X1_fail
theorem dX1_setLimit_0 : decode cX1_setLimit 0 = .ok (.aload_n 0, 1) := by decide +kernel
theorem dX1_setLimit_1 : decode cX1_setLimit 1 = .ok (.iconst 0, 1) := by decide +kernel
theorem dX1_setLimit_2 : decode cX1_setLimit 2 = .ok (.putfield 45, 3) := by decide +kernel
theorem dX1_setLimit_5 : decode cX1_setLimit 5 = .ok (.iload_n 1, 1) := by decide +kernel
theorem dX1_setLimit_6 : decode cX1_setLimit 6 = .ok (.iconst 3, 1) := by decide +kernel
theorem dX1_setLimit_7 : decode cX1_setLimit 7 = .ok (.bipush 15, 2) := by decide +kernel
theorem dX1_setLimit_9 : decode cX1_setLimit 9 = .ok (.invokestatic 51, 3) := by decide +kernel
theorem dX1_setLimit_12 : decode cX1_setLimit 12 = .ok (.ifCond .ne 9, 3) := by decide +kernel
theorem dX1_setLimit_15 : decode cX1_setLimit 15 = .ok (.aload_n 0, 1) := by decide +kernel
theorem dX1_setLimit_16 : decode cX1_setLimit 16 = .ok (.iconst 1, 1) := by decide +kernel
theorem dX1_setLimit_17 : decode cX1_setLimit 17 = .ok (.invokevirtual 100, 3) := by decide +kernel
theorem dX1_setLimit_20 : decode cX1_setLimit 20 = .ok (.ireturn, 1) := by decide +kernel
theorem dX1_setLimit_21 : decode cX1_setLimit 21 = .ok (.aload_n 0, 1) := by decide +kernel
theorem dX1_setLimit_22 : decode cX1_setLimit 22 = .ok (.getfield 7, 3) := by decide +kernel
theorem dX1_setLimit_25 : decode cX1_setLimit 25 = .ok (.istore_n 2, 1) := by decide +kernel
theorem dX1_setLimit_26 : decode cX1_setLimit 26 = .ok (.aload_n 0, 1) := by decide +kernel
theorem dX1_setLimit_27 : decode cX1_setLimit 27 = .ok (.iload_n 1, 1) := by decide +kernel
theorem dX1_setLimit_28 : decode cX1_setLimit 28 = .ok (.putfield 7, 3) := by decide +kernel
theorem dX1_setLimit_31 : decode cX1_setLimit 31 = .ok (.iload_n 2, 1) := by decide +kernel
theorem dX1_setLimit_32 : decode cX1_setLimit 32 = .ok (.ireturn, 1) := by decide +kernel
set_option maxRecDepth 20000 in
theorem ggX1_setLeastCount_X1_isIn : GoodIn wsX1_setLeastCount wsX1_isIn := goodIn_r _ [6] (by decide +kernel) (by decide +kernel)
set_option maxRecDepth 20000 in
theorem gX1_setLeastCount_X1_isIn : GoodIn wsX1_setLeastCount (va_wsS RX1 51 yX1_isIn wsX1_isIn) := goodIn_app (goodIn_of _ (by decide +kernel)) ggX1_setLeastCount_X1_isIn
set_option maxRecDepth 20000 in
theorem ggX1_setLeastCount_X1_fail : GoodIn wsX1_setLeastCount wsX1_fail := goodIn_r _ [10, 1, 11, 12, 13, 14, 15, 16, 17, 18, 19, 20, 21, 22, 23, 24, 25, 26] (by decide +kernel) (by decide +kernel)
set_option maxRecDepth 20000 in
theorem gX1_setLeastCount_X1_fail : GoodIn wsX1_setLeastCount (wsV RX1 100 RX1 yX1_fail wsX1_fail) := goodIn_app (goodIn_of _ (by decide +kernel)) ggX1_setLeastCount_X1_fail
theorem dX1_setLeastCount_0 : decode cX1_setLeastCount 0 = .ok (.aload_n 0, 1) := by decide +kernel
theorem dX1_setLeastCount_1 : decode cX1_setLeastCount 1 = .ok (.iconst 0, 1) := by decide +kernel
theorem dX1_setLeastCount_2 : decode cX1_setLeastCount 2 = .ok (.putfield 45, 3) := by decide +kernel
theorem dX1_setLeastCount_5 : decode cX1_setLeastCount 5 = .ok (.iload_n 1, 1) := by decide +kernel
theorem dX1_setLeastCount_6 : decode cX1_setLeastCount 6 = .ok (.iconst 0, 1) := by decide +kernel
theorem dX1_setLeastCount_7 : decode cX1_setLeastCount 7 = .ok (.bipush 20, 2) := by decide +kernel
theorem dX1_setLeastCount_9 : decode cX1_setLeastCount 9 = .ok (.invokestatic 51, 3) := by decide +kernel
theorem dX1_setLeastCount_12 : decode cX1_setLeastCount 12 = .ok (.ifCond .ne 9, 3) := by decide +kernel
theorem dX1_setLeastCount_15 : decode cX1_setLeastCount 15 = .ok (.aload_n 0, 1) := by decide +kernel
theorem dX1_setLeastCount_16 : decode cX1_setLeastCount 16 = .ok (.iconst 1, 1) := by decide +kernel
theorem dX1_setLeastCount_17 : decode cX1_setLeastCount 17 = .ok (.invokevirtual 100, 3) := by decide +kernel
theorem dX1_setLeastCount_20 : decode cX1_setLeastCount 20 = .ok (.ireturn, 1) := by decide +kernel
theorem dX1_setLeastCount_21 : decode cX1_setLeastCount 21 = .ok (.aload_n 0, 1) := by decide +kernel
theorem dX1_setLeastCount_22 : decode cX1_setLeastCount 22 = .ok (.getfield 13, 3) := by decide +kernel
theorem dX1_setLeastCount_25 : decode cX1_setLeastCount 25 = .ok (.istore_n 2, 1) := by decide +kernel
theorem dX1_setLeastCount_26 : decode cX1_setLeastCount 26 = .ok (.aload_n 0, 1) := by decide +kernel
theorem dX1_setLeastCount_27 : decode cX1_setLeastCount 27 = .ok (.iload_n 1, 1) := by decide +kernel
theorem dX1_setLeastCount_28 : decode cX1_setLeastCount 28 = .ok (.putfield 13, 3) := by decide +kernel
theorem dX1_setLeastCount_31 : decode cX1_setLeastCount 31 = .ok (.iload_n 2, 1) := by decide +kernel
theorem dX1_setLeastCount_32 : decode cX1_setLeastCount 32 = .ok (.ireturn, 1) := by decide +kernel
set_option maxRecDepth 20000 in
theorem ggX1_setCoins_X1_isIn : GoodIn wsX1_setCoins wsX1_isIn := goodIn_r _ [6] (by decide +kernel) (by decide +kernel)
set_option maxRecDepth 20000 in
theorem gX1_setCoins_X1_isIn : GoodIn wsX1_setCoins (va_wsS RX1 51 yX1_isIn wsX1_isIn) := goodIn_app (goodIn_of _ (by decide +kernel)) ggX1_setCoins_X1_isIn
set_option maxRecDepth 20000 in
theorem ggX1_setCoins_X1_fail : GoodIn wsX1_setCoins wsX1_fail := goodIn_r _ [10, 1, 11, 12, 13, 14, 15, 16, 17, 18, 19, 20, 21, 22, 23, 24, 25, 26] (by decide +kernel) (by decide +kernel)
set_option maxRecDepth 20000 in
theorem gX1_setCoins_X1_fail : GoodIn wsX1_setCoins (wsV RX1 100 RX1 yX1_fail wsX1_fail) := goodIn_app (goodIn_of _ (by decide +kernel)) ggX1_setCoins_X1_fail
theorem dX1_setCoins_0 : decode cX1_setCoins 0 = .ok (.aload_n 0, 1) := by decide +kernel
theorem dX1_setCoins_1 : decode cX1_setCoins 1 = .ok (.iconst 0, 1) := by decide +kernel
theorem dX1_setCoins_2 : decode cX1_setCoins 2 = .ok (.putfield 45, 3) := by decide +kernel
theorem dX1_setCoins_5 : decode cX1_setCoins 5 = .ok (.iload_n 1, 1) := by decide +kernel
theorem dX1_setCoins_6 : decode cX1_setCoins 6 = .ok (.iconst 1, 1) := by decide +kernel
theorem dX1_setCoins_7 : decode cX1_setCoins 7 = .ok (.bipush 50, 2) := by decide +kernel
theorem dX1_setCoins_9 : decode cX1_setCoins 9 = .ok (.invokestatic 51, 3) := by decide +kernel
theorem dX1_setCoins_12 : decode cX1_setCoins 12 = .ok (.ifCond .ne 9, 3) := by decide +kernel
theorem dX1_setCoins_15 : decode cX1_setCoins 15 = .ok (.aload_n 0, 1) := by decide +kernel
theorem dX1_setCoins_16 : decode cX1_setCoins 16 = .ok (.iconst 1, 1) := by decide +kernel
theorem dX1_setCoins_17 : decode cX1_setCoins 17 = .ok (.invokevirtual 100, 3) := by decide +kernel
theorem dX1_setCoins_20 : decode cX1_setCoins 20 = .ok (.ireturn, 1) := by decide +kernel
theorem dX1_setCoins_21 : decode cX1_setCoins 21 = .ok (.aload_n 0, 1) := by decide +kernel
theorem dX1_setCoins_22 : decode cX1_setCoins 22 = .ok (.getfield 16, 3) := by decide +kernel
theorem dX1_setCoins_25 : decode cX1_setCoins 25 = .ok (.istore_n 2, 1) := by decide +kernel
theorem dX1_setCoins_26 : decode cX1_setCoins 26 = .ok (.aload_n 0, 1) := by decide +kernel
theorem dX1_setCoins_27 : decode cX1_setCoins 27 = .ok (.iload_n 1, 1) := by decide +kernel
theorem dX1_setCoins_28 : decode cX1_setCoins 28 = .ok (.putfield 16, 3) := by decide +kernel
theorem dX1_setCoins_31 : decode cX1_setCoins 31 = .ok (.iload_n 2, 1) := by decide +kernel
theorem dX1_setCoins_32 : decode cX1_setCoins 32 = .ok (.ireturn, 1) := by decide +kernel
set_option maxRecDepth 20000 in
theorem ggX1_write_X1_isWord : GoodIn wsX1_write wsX1_isWord := goodIn_r _ [9, 10, 11, 12, 8, 13, 18, 19, 20, 21, 22, 23, 24, 25, 26, 27, 28, 29, 30, 31, 32, 33] (by decide +kernel) (by decide +kernel)
set_option maxRecDepth 20000 in
theorem gX1_write_X1_isWord : GoodIn wsX1_write (wsV RX1 58 RX1 yX1_isWord wsX1_isWord) := goodIn_app (goodIn_of _ (by decide +kernel)) ggX1_write_X1_isWord
set_option maxRecDepth 20000 in
theorem ggX1_write_X1_fail : GoodIn wsX1_write wsX1_fail := goodIn_r _ [17, 1, 18, 19, 20, 21, 22, 23, 24, 25, 26, 27, 28, 29, 30, 31, 32, 33] (by decide +kernel) (by decide +kernel)
set_option maxRecDepth 20000 in
theorem gX1_write_X1_fail : GoodIn wsX1_write (wsV RX1 100 RX1 yX1_fail wsX1_fail) := goodIn_app (goodIn_of _ (by decide +kernel)) ggX1_write_X1_fail
theorem dX1_write_0 : decode cX1_write 0 = .ok (.aload_n 0, 1) := by decide +kernel
theorem dX1_write_1 : decode cX1_write 1 = .ok (.iconst 0, 1) := by decide +kernel
theorem dX1_write_2 : decode cX1_write 2 = .ok (.putfield 45, 3) := by decide +kernel
theorem dX1_write_5 : decode cX1_write 5 = .ok (.aload_n 0, 1) := by decide +kernel
theorem dX1_write_6 : decode cX1_write 6 = .ok (.iload_n 1, 1) := by decide +kernel
theorem dX1_write_7 : decode cX1_write 7 = .ok (.invokevirtual 58, 3) := by decide +kernel
theorem dX1_write_10 : decode cX1_write 10 = .ok (.ifCond .ne 9, 3) := by decide +kernel
theorem dX1_write_13 : decode cX1_write 13 = .ok (.aload_n 0, 1) := by decide +kernel
theorem dX1_write_14 : decode cX1_write 14 = .ok (.iconst 1, 1) := by decide +kernel
theorem dX1_write_15 : decode cX1_write 15 = .ok (.invokevirtual 100, 3) := by decide +kernel
theorem dX1_write_18 : decode cX1_write 18 = .ok (.ireturn, 1) := by decide +kernel
theorem dX1_write_19 : decode cX1_write 19 = .ok (.aload_n 0, 1) := by decide +kernel
theorem dX1_write_20 : decode cX1_write 20 = .ok (.getfield 55, 3) := by decide +kernel
theorem dX1_write_23 : decode cX1_write 23 = .ok (.bipush 16, 2) := by decide +kernel
theorem dX1_write_25 : decode cX1_write 25 = .ok (.if_icmp .ne 9, 3) := by decide +kernel
theorem dX1_write_28 : decode cX1_write 28 = .ok (.aload_n 0, 1) := by decide +kernel
theorem dX1_write_29 : decode cX1_write 29 = .ok (.iconst 2, 1) := by decide +kernel
theorem dX1_write_30 : decode cX1_write 30 = .ok (.invokevirtual 100, 3) := by decide +kernel
theorem dX1_write_33 : decode cX1_write 33 = .ok (.ireturn, 1) := by decide +kernel
theorem dX1_write_34 : decode cX1_write 34 = .ok (.aload_n 0, 1) := by decide +kernel
theorem dX1_write_35 : decode cX1_write 35 = .ok (.getfield 29, 3) := by decide +kernel
theorem dX1_write_38 : decode cX1_write 38 = .ok (.aload_n 0, 1) := by decide +kernel
theorem dX1_write_39 : decode cX1_write 39 = .ok (.getfield 55, 3) := by decide +kernel
theorem dX1_write_42 : decode cX1_write 42 = .ok (.iload_n 1, 1) := by decide +kernel
theorem dX1_write_43 : decode cX1_write 43 = .ok (.iastore, 1) := by decide +kernel
theorem dX1_write_44 : decode cX1_write 44 = .ok (.aload_n 0, 1) := by decide +kernel
theorem dX1_write_45 : decode cX1_write 45 = .ok (.getfield 32, 3) := by decide +kernel
theorem dX1_write_48 : decode cX1_write 48 = .ok (.aload_n 0, 1) := by decide +kernel
theorem dX1_write_49 : decode cX1_write 49 = .ok (.getfield 55, 3) := by decide +kernel
theorem dX1_write_52 : decode cX1_write 52 = .ok (.iconst 0, 1) := by decide +kernel
theorem dX1_write_53 : decode cX1_write 53 = .ok (.bastore, 1) := by decide +kernel
theorem dX1_write_54 : decode cX1_write 54 = .ok (.aload_n 0, 1) := by decide +kernel
theorem dX1_write_55 : decode cX1_write 55 = .ok (.dup, 1) := by decide +kernel
theorem dX1_write_56 : decode cX1_write 56 = .ok (.getfield 55, 3) := by decide +kernel
theorem dX1_write_59 : decode cX1_write 59 = .ok (.iconst 1, 1) := by decide +kernel
theorem dX1_write_60 : decode cX1_write 60 = .ok (.iadd, 1) := by decide +kernel
theorem dX1_write_61 : decode cX1_write 61 = .ok (.putfield 55, 3) := by decide +kernel
theorem dX1_write_64 : decode cX1_write 64 = .ok (.aload_n 0, 1) := by decide +kernel
theorem dX1_write_65 : decode cX1_write 65 = .ok (.getfield 55, 3) := by decide +kernel
theorem dX1_write_68 : decode cX1_write 68 = .ok (.ireturn, 1) := by decide +kernel
set_option maxRecDepth 20000 in
theorem ggX1_strike_X1_isPlace : GoodIn wsX1_strike wsX1_isPlace := goodIn_r _ [9, 3, 10, 11, 8, 12, 17, 18, 19, 20, 21, 22, 23, 24, 25, 26, 27, 28, 29, 30, 31, 32] (by decide +kernel) (by decide +kernel)
set_option maxRecDepth 20000 in
theorem gX1_strike_X1_isPlace : GoodIn wsX1_strike (wsV RX1 109 RX1 yX1_isPlace wsX1_isPlace) := goodIn_app (goodIn_of _ (by decide +kernel)) ggX1_strike_X1_isPlace
set_option maxRecDepth 20000 in
theorem ggX1_strike_X1_fail : GoodIn wsX1_strike wsX1_fail := goodIn_r _ [16, 1, 17, 18, 19, 20, 21, 22, 23, 24, 25, 26, 27, 28, 29, 30, 31, 32] (by decide +kernel) (by decide +kernel)
set_option maxRecDepth 20000 in
theorem gX1_strike_X1_fail : GoodIn wsX1_strike (wsV RX1 100 RX1 yX1_fail wsX1_fail) := goodIn_app (goodIn_of _ (by decide +kernel)) ggX1_strike_X1_fail
theorem dX1_strike_0 : decode cX1_strike 0 = .ok (.aload_n 0, 1) := by decide +kernel
theorem dX1_strike_1 : decode cX1_strike 1 = .ok (.iconst 0, 1) := by decide +kernel
theorem dX1_strike_2 : decode cX1_strike 2 = .ok (.putfield 45, 3) := by decide +kernel
theorem dX1_strike_5 : decode cX1_strike 5 = .ok (.aload_n 0, 1) := by decide +kernel
theorem dX1_strike_6 : decode cX1_strike 6 = .ok (.iload_n 1, 1) := by decide +kernel
theorem dX1_strike_7 : decode cX1_strike 7 = .ok (.invokevirtual 109, 3) := by decide +kernel
theorem dX1_strike_10 : decode cX1_strike 10 = .ok (.ifCond .ne 9, 3) := by decide +kernel
theorem dX1_strike_13 : decode cX1_strike 13 = .ok (.aload_n 0, 1) := by decide +kernel
theorem dX1_strike_14 : decode cX1_strike 14 = .ok (.iconst 1, 1) := by decide +kernel
theorem dX1_strike_15 : decode cX1_strike 15 = .ok (.invokevirtual 100, 3) := by decide +kernel
theorem dX1_strike_18 : decode cX1_strike 18 = .ok (.ireturn, 1) := by decide +kernel
theorem dX1_strike_19 : decode cX1_strike 19 = .ok (.iload_n 1, 1) := by decide +kernel
theorem dX1_strike_20 : decode cX1_strike 20 = .ok (.ifCond .le 12, 3) := by decide +kernel
theorem dX1_strike_23 : decode cX1_strike 23 = .ok (.aload_n 0, 1) := by decide +kernel
theorem dX1_strike_24 : decode cX1_strike 24 = .ok (.getfield 32, 3) := by decide +kernel
theorem dX1_strike_27 : decode cX1_strike 27 = .ok (.iload_n 1, 1) := by decide +kernel
theorem dX1_strike_28 : decode cX1_strike 28 = .ok (.iconst 1, 1) := by decide +kernel
theorem dX1_strike_29 : decode cX1_strike 29 = .ok (.isub, 1) := by decide +kernel
theorem dX1_strike_30 : decode cX1_strike 30 = .ok (.iconst 0, 1) := by decide +kernel
theorem dX1_strike_31 : decode cX1_strike 31 = .ok (.bastore, 1) := by decide +kernel
theorem dX1_strike_32 : decode cX1_strike 32 = .ok (.iload_n 1, 1) := by decide +kernel
theorem dX1_strike_33 : decode cX1_strike 33 = .ok (.istore_n 2, 1) := by decide +kernel
theorem dX1_strike_34 : decode cX1_strike 34 = .ok (.iload_n 2, 1) := by decide +kernel
theorem dX1_strike_35 : decode cX1_strike 35 = .ok (.aload_n 0, 1) := by decide +kernel
theorem dX1_strike_36 : decode cX1_strike 36 = .ok (.getfield 55, 3) := by decide +kernel
theorem dX1_strike_39 : decode cX1_strike 39 = .ok (.iconst 1, 1) := by decide +kernel
theorem dX1_strike_40 : decode cX1_strike 40 = .ok (.isub, 1) := by decide +kernel
theorem dX1_strike_41 : decode cX1_strike 41 = .ok (.if_icmp .ge 37, 3) := by decide +kernel
theorem dX1_strike_44 : decode cX1_strike 44 = .ok (.aload_n 0, 1) := by decide +kernel
theorem dX1_strike_45 : decode cX1_strike 45 = .ok (.getfield 29, 3) := by decide +kernel
theorem dX1_strike_48 : decode cX1_strike 48 = .ok (.iload_n 2, 1) := by decide +kernel
theorem dX1_strike_49 : decode cX1_strike 49 = .ok (.aload_n 0, 1) := by decide +kernel
theorem dX1_strike_50 : decode cX1_strike 50 = .ok (.getfield 29, 3) := by decide +kernel
theorem dX1_strike_53 : decode cX1_strike 53 = .ok (.iload_n 2, 1) := by decide +kernel
theorem dX1_strike_54 : decode cX1_strike 54 = .ok (.iconst 1, 1) := by decide +kernel
theorem dX1_strike_55 : decode cX1_strike 55 = .ok (.iadd, 1) := by decide +kernel
theorem dX1_strike_56 : decode cX1_strike 56 = .ok (.iaload, 1) := by decide +kernel
theorem dX1_strike_57 : decode cX1_strike 57 = .ok (.iastore, 1) := by decide +kernel
theorem dX1_strike_58 : decode cX1_strike 58 = .ok (.aload_n 0, 1) := by decide +kernel
theorem dX1_strike_59 : decode cX1_strike 59 = .ok (.getfield 32, 3) := by decide +kernel
theorem dX1_strike_62 : decode cX1_strike 62 = .ok (.iload_n 2, 1) := by decide +kernel
theorem dX1_strike_63 : decode cX1_strike 63 = .ok (.aload_n 0, 1) := by decide +kernel
theorem dX1_strike_64 : decode cX1_strike 64 = .ok (.getfield 32, 3) := by decide +kernel
theorem dX1_strike_67 : decode cX1_strike 67 = .ok (.iload_n 2, 1) := by decide +kernel
theorem dX1_strike_68 : decode cX1_strike 68 = .ok (.iconst 1, 1) := by decide +kernel
theorem dX1_strike_69 : decode cX1_strike 69 = .ok (.iadd, 1) := by decide +kernel
theorem dX1_strike_70 : decode cX1_strike 70 = .ok (.baload, 1) := by decide +kernel
theorem dX1_strike_71 : decode cX1_strike 71 = .ok (.bastore, 1) := by decide +kernel
theorem dX1_strike_72 : decode cX1_strike 72 = .ok (.iinc 2 1, 3) := by decide +kernel
theorem dX1_strike_75 : decode cX1_strike 75 = .ok (.goto (-41), 3) := by decide +kernel
theorem dX1_strike_78 : decode cX1_strike 78 = .ok (.aload_n 0, 1) := by decide +kernel
theorem dX1_strike_79 : decode cX1_strike 79 = .ok (.dup, 1) := by decide +kernel
theorem dX1_strike_80 : decode cX1_strike 80 = .ok (.getfield 55, 3) := by decide +kernel
theorem dX1_strike_83 : decode cX1_strike 83 = .ok (.iconst 1, 1) := by decide +kernel
theorem dX1_strike_84 : decode cX1_strike 84 = .ok (.isub, 1) := by decide +kernel
theorem dX1_strike_85 : decode cX1_strike 85 = .ok (.putfield 55, 3) := by decide +kernel
theorem dX1_strike_88 : decode cX1_strike 88 = .ok (.aload_n 0, 1) := by decide +kernel
theorem dX1_strike_89 : decode cX1_strike 89 = .ok (.getfield 55, 3) := by decide +kernel
theorem dX1_strike_92 : decode cX1_strike 92 = .ok (.ireturn, 1) := by decide +kernel
set_option maxRecDepth 20000 in
theorem ggX1_turnJoined_X1_isIn : GoodIn wsX1_turnJoined wsX1_isIn := goodIn_r _ [9] (by decide +kernel) (by decide +kernel)
set_option maxRecDepth 20000 in
theorem gX1_turnJoined_X1_isIn : GoodIn wsX1_turnJoined (va_wsS RX1 51 yX1_isIn wsX1_isIn) := goodIn_app (goodIn_of _ (by decide +kernel)) ggX1_turnJoined_X1_isIn
set_option maxRecDepth 20000 in
theorem ggX1_turnJoined_X1_failed : GoodIn wsX1_turnJoined wsX1_failed := goodIn_r _ [13, 1, 17, 18, 19, 20, 21, 22, 23, 24, 25, 26, 27, 28, 29, 30, 31, 32] (by decide +kernel) (by decide +kernel)
set_option maxRecDepth 20000 in
theorem gX1_turnJoined_X1_failed : GoodIn wsX1_turnJoined (wsV RX1 106 RX1 yX1_failed wsX1_failed) := goodIn_app (goodIn_of _ (by decide +kernel)) ggX1_turnJoined_X1_failed
set_option maxRecDepth 20000 in
theorem ggX1_turnJoined_X1_has : GoodIn wsX1_turnJoined wsX1_has := goodIn_r _ [16] (by decide +kernel) (by decide +kernel)
set_option maxRecDepth 20000 in
theorem gX1_turnJoined_X1_has : GoodIn wsX1_turnJoined (va_wsS RX1 76 yX1_has wsX1_has) := goodIn_app (goodIn_of _ (by decide +kernel)) ggX1_turnJoined_X1_has
theorem dX1_turnJoined_0 : decode cX1_turnJoined 0 = .ok (.aload_n 0, 1) := by decide +kernel
theorem dX1_turnJoined_1 : decode cX1_turnJoined 1 = .ok (.iconst 0, 1) := by decide +kernel
theorem dX1_turnJoined_2 : decode cX1_turnJoined 2 = .ok (.putfield 45, 3) := by decide +kernel
theorem dX1_turnJoined_5 : decode cX1_turnJoined 5 = .ok (.iload_n 1, 1) := by decide +kernel
theorem dX1_turnJoined_6 : decode cX1_turnJoined 6 = .ok (.iconst 0, 1) := by decide +kernel
theorem dX1_turnJoined_7 : decode cX1_turnJoined 7 = .ok (.aload_n 0, 1) := by decide +kernel
theorem dX1_turnJoined_8 : decode cX1_turnJoined 8 = .ok (.getfield 55, 3) := by decide +kernel
theorem dX1_turnJoined_11 : decode cX1_turnJoined 11 = .ok (.iconst 2, 1) := by decide +kernel
theorem dX1_turnJoined_12 : decode cX1_turnJoined 12 = .ok (.isub, 1) := by decide +kernel
theorem dX1_turnJoined_13 : decode cX1_turnJoined 13 = .ok (.invokestatic 51, 3) := by decide +kernel
theorem dX1_turnJoined_16 : decode cX1_turnJoined 16 = .ok (.ifCond .ne 9, 3) := by decide +kernel
theorem dX1_turnJoined_19 : decode cX1_turnJoined 19 = .ok (.aload_n 0, 1) := by decide +kernel
theorem dX1_turnJoined_20 : decode cX1_turnJoined 20 = .ok (.iconst 1, 1) := by decide +kernel
theorem dX1_turnJoined_21 : decode cX1_turnJoined 21 = .ok (.invokevirtual 106, 3) := by decide +kernel
theorem dX1_turnJoined_24 : decode cX1_turnJoined 24 = .ok (.ireturn, 1) := by decide +kernel
theorem dX1_turnJoined_25 : decode cX1_turnJoined 25 = .ok (.aload_n 0, 1) := by decide +kernel
theorem dX1_turnJoined_26 : decode cX1_turnJoined 26 = .ok (.getfield 32, 3) := by decide +kernel
theorem dX1_turnJoined_29 : decode cX1_turnJoined 29 = .ok (.iload_n 1, 1) := by decide +kernel
theorem dX1_turnJoined_30 : decode cX1_turnJoined 30 = .ok (.baload, 1) := by decide +kernel
theorem dX1_turnJoined_31 : decode cX1_turnJoined 31 = .ok (.ifCond .ne 70, 3) := by decide +kernel
theorem dX1_turnJoined_34 : decode cX1_turnJoined 34 = .ok (.iload_n 1, 1) := by decide +kernel
theorem dX1_turnJoined_35 : decode cX1_turnJoined 35 = .ok (.ifCond .le 14, 3) := by decide +kernel
theorem dX1_turnJoined_38 : decode cX1_turnJoined 38 = .ok (.aload_n 0, 1) := by decide +kernel
theorem dX1_turnJoined_39 : decode cX1_turnJoined 39 = .ok (.getfield 32, 3) := by decide +kernel
theorem dX1_turnJoined_42 : decode cX1_turnJoined 42 = .ok (.iload_n 1, 1) := by decide +kernel
theorem dX1_turnJoined_43 : decode cX1_turnJoined 43 = .ok (.iconst 1, 1) := by decide +kernel
theorem dX1_turnJoined_44 : decode cX1_turnJoined 44 = .ok (.isub, 1) := by decide +kernel
theorem dX1_turnJoined_45 : decode cX1_turnJoined 45 = .ok (.baload, 1) := by decide +kernel
theorem dX1_turnJoined_46 : decode cX1_turnJoined 46 = .ok (.ifCond .ne 14, 3) := by decide +kernel
theorem dX1_turnJoined_49 : decode cX1_turnJoined 49 = .ok (.aload_n 0, 1) := by decide +kernel
theorem dX1_turnJoined_50 : decode cX1_turnJoined 50 = .ok (.getfield 32, 3) := by decide +kernel
theorem dX1_turnJoined_53 : decode cX1_turnJoined 53 = .ok (.iload_n 1, 1) := by decide +kernel
theorem dX1_turnJoined_54 : decode cX1_turnJoined 54 = .ok (.iconst 1, 1) := by decide +kernel
theorem dX1_turnJoined_55 : decode cX1_turnJoined 55 = .ok (.iadd, 1) := by decide +kernel
theorem dX1_turnJoined_56 : decode cX1_turnJoined 56 = .ok (.baload, 1) := by decide +kernel
theorem dX1_turnJoined_57 : decode cX1_turnJoined 57 = .ok (.ifCond .eq 7, 3) := by decide +kernel
theorem dX1_turnJoined_60 : decode cX1_turnJoined 60 = .ok (.iconst 1, 1) := by decide +kernel
theorem dX1_turnJoined_61 : decode cX1_turnJoined 61 = .ok (.goto 4, 3) := by decide +kernel
theorem dX1_turnJoined_64 : decode cX1_turnJoined 64 = .ok (.iconst 0, 1) := by decide +kernel
theorem dX1_turnJoined_65 : decode cX1_turnJoined 65 = .ok (.istore_n 2, 1) := by decide +kernel
theorem dX1_turnJoined_66 : decode cX1_turnJoined 66 = .ok (.iload_n 2, 1) := by decide +kernel
theorem dX1_turnJoined_67 : decode cX1_turnJoined 67 = .ok (.ifCond .ne 28, 3) := by decide +kernel
theorem dX1_turnJoined_70 : decode cX1_turnJoined 70 = .ok (.aload_n 0, 1) := by decide +kernel
theorem dX1_turnJoined_71 : decode cX1_turnJoined 71 = .ok (.getfield 26, 3) := by decide +kernel
theorem dX1_turnJoined_74 : decode cX1_turnJoined 74 = .ok (.aload_n 0, 1) := by decide +kernel
theorem dX1_turnJoined_75 : decode cX1_turnJoined 75 = .ok (.getfield 29, 3) := by decide +kernel
theorem dX1_turnJoined_78 : decode cX1_turnJoined 78 = .ok (.iload_n 1, 1) := by decide +kernel
theorem dX1_turnJoined_79 : decode cX1_turnJoined 79 = .ok (.iaload, 1) := by decide +kernel
theorem dX1_turnJoined_80 : decode cX1_turnJoined 80 = .ok (.iaload, 1) := by decide +kernel
theorem dX1_turnJoined_81 : decode cX1_turnJoined 81 = .ok (.aload_n 0, 1) := by decide +kernel
theorem dX1_turnJoined_82 : decode cX1_turnJoined 82 = .ok (.getfield 29, 3) := by decide +kernel
theorem dX1_turnJoined_85 : decode cX1_turnJoined 85 = .ok (.iload_n 1, 1) := by decide +kernel
theorem dX1_turnJoined_86 : decode cX1_turnJoined 86 = .ok (.iconst 1, 1) := by decide +kernel
theorem dX1_turnJoined_87 : decode cX1_turnJoined 87 = .ok (.iadd, 1) := by decide +kernel
theorem dX1_turnJoined_88 : decode cX1_turnJoined 88 = .ok (.iaload, 1) := by decide +kernel
theorem dX1_turnJoined_89 : decode cX1_turnJoined 89 = .ok (.invokestatic 76, 3) := by decide +kernel
theorem dX1_turnJoined_92 : decode cX1_turnJoined 92 = .ok (.ifCond .ne 9, 3) := by decide +kernel
theorem dX1_turnJoined_95 : decode cX1_turnJoined 95 = .ok (.aload_n 0, 1) := by decide +kernel
theorem dX1_turnJoined_96 : decode cX1_turnJoined 96 = .ok (.iconst 2, 1) := by decide +kernel
theorem dX1_turnJoined_97 : decode cX1_turnJoined 97 = .ok (.invokevirtual 106, 3) := by decide +kernel
theorem dX1_turnJoined_100 : decode cX1_turnJoined 100 = .ok (.ireturn, 1) := by decide +kernel
theorem dX1_turnJoined_101 : decode cX1_turnJoined 101 = .ok (.aload_n 0, 1) := by decide +kernel
theorem dX1_turnJoined_102 : decode cX1_turnJoined 102 = .ok (.getfield 32, 3) := by decide +kernel
theorem dX1_turnJoined_105 : decode cX1_turnJoined 105 = .ok (.iload_n 1, 1) := by decide +kernel
theorem dX1_turnJoined_106 : decode cX1_turnJoined 106 = .ok (.aload_n 0, 1) := by decide +kernel
theorem dX1_turnJoined_107 : decode cX1_turnJoined 107 = .ok (.getfield 32, 3) := by decide +kernel
theorem dX1_turnJoined_110 : decode cX1_turnJoined 110 = .ok (.iload_n 1, 1) := by decide +kernel
theorem dX1_turnJoined_111 : decode cX1_turnJoined 111 = .ok (.baload, 1) := by decide +kernel
theorem dX1_turnJoined_112 : decode cX1_turnJoined 112 = .ok (.ifCond .ne 7, 3) := by decide +kernel
theorem dX1_turnJoined_115 : decode cX1_turnJoined 115 = .ok (.iconst 1, 1) := by decide +kernel
theorem dX1_turnJoined_116 : decode cX1_turnJoined 116 = .ok (.goto 4, 3) := by decide +kernel
theorem dX1_turnJoined_119 : decode cX1_turnJoined 119 = .ok (.iconst 0, 1) := by decide +kernel
theorem dX1_turnJoined_120 : decode cX1_turnJoined 120 = .ok (.bastore, 1) := by decide +kernel
theorem dX1_turnJoined_121 : decode cX1_turnJoined 121 = .ok (.aload_n 0, 1) := by decide +kernel
theorem dX1_turnJoined_122 : decode cX1_turnJoined 122 = .ok (.getfield 32, 3) := by decide +kernel
theorem dX1_turnJoined_125 : decode cX1_turnJoined 125 = .ok (.iload_n 1, 1) := by decide +kernel
theorem dX1_turnJoined_126 : decode cX1_turnJoined 126 = .ok (.baload, 1) := by decide +kernel
theorem dX1_turnJoined_127 : decode cX1_turnJoined 127 = .ok (.ireturn, 1) := by decide +kernel
set_option maxRecDepth 20000 in
theorem ggX1_reword_X1_countNow : GoodIn wsX1_reword wsX1_countNow := goodIn_r _ [15, 4, 16, 3, 10, 17, 18, 19, 14, 20, 21, 22, 23, 24, 25, 26, 27, 28, 29, 30, 66, 67, 68, 69, 70, 71, 72, 73, 74, 75, 76, 77, 78, 79, 80, 81] (by decide +kernel) (by decide +kernel)
set_option maxRecDepth 20000 in
theorem gX1_reword_X1_countNow : GoodIn wsX1_reword (wsV RX1 112 RX1 yX1_countNow wsX1_countNow) := goodIn_app (goodIn_of _ (by decide +kernel)) ggX1_reword_X1_countNow
set_option maxRecDepth 20000 in
theorem ggX1_reword_X1_choose : GoodIn wsX1_reword wsX1_choose := goodIn_r _ [34, 4, 9, 2, 35, 36, 37, 14, 38, 39, 40, 41, 29, 42, 43, 44, 45, 46, 47, 48, 49, 3, 16, 50, 51, 52, 17, 18, 19, 20, 21, 53, 54, 55, 56, 57, 58, 59, 60, 61, 62, 63, 64, 65, 66, 67, 68, 69, 70, 71, 72, 73, 74, 75, 76, 77, 78, 79, 80, 81] (by decide +kernel) (by decide +kernel)
set_option maxRecDepth 20000 in
theorem gX1_reword_X1_choose : GoodIn wsX1_reword (wsV RX1 115 RX1 yX1_choose wsX1_choose) := goodIn_app (goodIn_of _ (by decide +kernel)) ggX1_reword_X1_choose
theorem dX1_reword_0 : decode cX1_reword 0 = .ok (.aload_n 0, 1) := by decide +kernel
theorem dX1_reword_1 : decode cX1_reword 1 = .ok (.iconst 0, 1) := by decide +kernel
theorem dX1_reword_2 : decode cX1_reword 2 = .ok (.putfield 45, 3) := by decide +kernel
theorem dX1_reword_5 : decode cX1_reword 5 = .ok (.aload_n 0, 1) := by decide +kernel
theorem dX1_reword_6 : decode cX1_reword 6 = .ok (.invokevirtual 112, 3) := by decide +kernel
theorem dX1_reword_9 : decode cX1_reword 9 = .ok (.istore_n 1, 1) := by decide +kernel
theorem dX1_reword_10 : decode cX1_reword 10 = .ok (.aload_n 0, 1) := by decide +kernel
theorem dX1_reword_11 : decode cX1_reword 11 = .ok (.invokevirtual 115, 3) := by decide +kernel
theorem dX1_reword_14 : decode cX1_reword 14 = .ok (.aload_n 0, 1) := by decide +kernel
theorem dX1_reword_15 : decode cX1_reword 15 = .ok (.getfield 39, 3) := by decide +kernel
theorem dX1_reword_18 : decode cX1_reword 18 = .ok (.iconst 0, 1) := by decide +kernel
theorem dX1_reword_19 : decode cX1_reword 19 = .ok (.aload_n 0, 1) := by decide +kernel
theorem dX1_reword_20 : decode cX1_reword 20 = .ok (.getfield 29, 3) := by decide +kernel
theorem dX1_reword_23 : decode cX1_reword 23 = .ok (.iconst 0, 1) := by decide +kernel
theorem dX1_reword_24 : decode cX1_reword 24 = .ok (.aload_n 0, 1) := by decide +kernel
theorem dX1_reword_25 : decode cX1_reword 25 = .ok (.getfield 55, 3) := by decide +kernel
theorem dX1_reword_28 : decode cX1_reword 28 = .ok (.invokestatic 118, 3) := by decide +kernel
theorem dX1_reword_31 : decode cX1_reword 31 = .ok (.aload_n 0, 1) := by decide +kernel
theorem dX1_reword_32 : decode cX1_reword 32 = .ok (.getfield 42, 3) := by decide +kernel
theorem dX1_reword_35 : decode cX1_reword 35 = .ok (.iconst 0, 1) := by decide +kernel
theorem dX1_reword_36 : decode cX1_reword 36 = .ok (.aload_n 0, 1) := by decide +kernel
theorem dX1_reword_37 : decode cX1_reword 37 = .ok (.getfield 32, 3) := by decide +kernel
theorem dX1_reword_40 : decode cX1_reword 40 = .ok (.iconst 0, 1) := by decide +kernel
theorem dX1_reword_41 : decode cX1_reword 41 = .ok (.aload_n 0, 1) := by decide +kernel
theorem dX1_reword_42 : decode cX1_reword 42 = .ok (.getfield 55, 3) := by decide +kernel
theorem dX1_reword_45 : decode cX1_reword 45 = .ok (.invokestatic 118, 3) := by decide +kernel
theorem dX1_reword_48 : decode cX1_reword 48 = .ok (.iload_n 1, 1) := by decide +kernel
theorem dX1_reword_49 : decode cX1_reword 49 = .ok (.aload_n 0, 1) := by decide +kernel
theorem dX1_reword_50 : decode cX1_reword 50 = .ok (.invokevirtual 112, 3) := by decide +kernel
theorem dX1_reword_53 : decode cX1_reword 53 = .ok (.isub, 1) := by decide +kernel
theorem dX1_reword_54 : decode cX1_reword 54 = .ok (.ireturn, 1) := by decide +kernel
set_option maxRecDepth 20000 in
theorem ggX1_costTo_X1_countNow : GoodIn wsX1_costTo wsX1_countNow := goodIn_r _ [6, 7, 8, 9, 10, 11, 12, 13, 5, 14, 15, 16, 17, 18, 19, 20, 21, 22, 23, 24, 25, 26, 27, 28, 29, 30, 31, 32, 33, 34, 35, 36, 37, 38, 39, 40] (by decide +kernel) (by decide +kernel)
set_option maxRecDepth 20000 in
theorem gX1_costTo_X1_countNow : GoodIn wsX1_costTo (wsV RX1 112 RX1 yX1_countNow wsX1_countNow) := goodIn_app (goodIn_of _ (by decide +kernel)) ggX1_costTo_X1_countNow
theorem dX1_costTo_0 : decode cX1_costTo 0 = .ok (.aload_n 0, 1) := by decide +kernel
theorem dX1_costTo_1 : decode cX1_costTo 1 = .ok (.invokevirtual 112, 3) := by decide +kernel
theorem dX1_costTo_4 : decode cX1_costTo 4 = .ok (.aload_n 0, 1) := by decide +kernel
theorem dX1_costTo_5 : decode cX1_costTo 5 = .ok (.getfield 16, 3) := by decide +kernel
theorem dX1_costTo_8 : decode cX1_costTo 8 = .ok (.imul, 1) := by decide +kernel
theorem dX1_costTo_9 : decode cX1_costTo 9 = .ok (.iload_n 1, 1) := by decide +kernel
theorem dX1_costTo_10 : decode cX1_costTo 10 = .ok (.iconst 2, 1) := by decide +kernel
theorem dX1_costTo_11 : decode cX1_costTo 11 = .ok (.iadd, 1) := by decide +kernel
theorem dX1_costTo_12 : decode cX1_costTo 12 = .ok (.imul, 1) := by decide +kernel
theorem dX1_costTo_13 : decode cX1_costTo 13 = .ok (.iconst 2, 1) := by decide +kernel
theorem dX1_costTo_14 : decode cX1_costTo 14 = .ok (.idiv, 1) := by decide +kernel
theorem dX1_costTo_15 : decode cX1_costTo 15 = .ok (.ireturn, 1) := by decide +kernel
set_option maxRecDepth 20000 in
theorem ggX1_send_X1_isIn : GoodIn wsX1_send wsX1_isIn := goodIn_r _ [8] (by decide +kernel) (by decide +kernel)
set_option maxRecDepth 20000 in
theorem gX1_send_X1_isIn : GoodIn wsX1_send (va_wsS RX1 51 yX1_isIn wsX1_isIn) := goodIn_app (goodIn_of _ (by decide +kernel)) ggX1_send_X1_isIn
set_option maxRecDepth 20000 in
theorem ggX1_send_X1_fail : GoodIn wsX1_send wsX1_fail := goodIn_r _ [12, 1, 39, 40, 41, 42, 43, 44, 45, 46, 47, 48, 49, 50, 51, 52, 53, 54] (by decide +kernel) (by decide +kernel)
set_option maxRecDepth 20000 in
theorem gX1_send_X1_fail : GoodIn wsX1_send (wsV RX1 100 RX1 yX1_fail wsX1_fail) := goodIn_app (goodIn_of _ (by decide +kernel)) ggX1_send_X1_fail
set_option maxRecDepth 20000 in
theorem ggX1_send_X1_costTo : GoodIn wsX1_send wsX1_costTo := goodIn_r _ [16, 17, 18, 19, 20, 7, 21, 2, 22, 23, 24, 25, 26, 27, 28, 29, 30, 31, 32, 33, 34, 35, 36, 37, 38, 39, 40, 41, 42, 43, 44, 45, 46, 47, 48, 49, 50, 51, 52, 53, 54] (by decide +kernel) (by decide +kernel)
set_option maxRecDepth 20000 in
theorem gX1_send_X1_costTo : GoodIn wsX1_send (wsV RX1 124 RX1 yX1_costTo wsX1_costTo) := goodIn_app (goodIn_of _ (by decide +kernel)) ggX1_send_X1_costTo
theorem dX1_send_0 : decode cX1_send 0 = .ok (.aload_n 0, 1) := by decide +kernel
theorem dX1_send_1 : decode cX1_send 1 = .ok (.iconst 0, 1) := by decide +kernel
theorem dX1_send_2 : decode cX1_send 2 = .ok (.putfield 45, 3) := by decide +kernel
theorem dX1_send_5 : decode cX1_send 5 = .ok (.iload_n 1, 1) := by decide +kernel
theorem dX1_send_6 : decode cX1_send 6 = .ok (.iconst 0, 1) := by decide +kernel
theorem dX1_send_7 : decode cX1_send 7 = .ok (.iconst 3, 1) := by decide +kernel
theorem dX1_send_8 : decode cX1_send 8 = .ok (.invokestatic 51, 3) := by decide +kernel
theorem dX1_send_11 : decode cX1_send 11 = .ok (.ifCond .ne 9, 3) := by decide +kernel
theorem dX1_send_14 : decode cX1_send 14 = .ok (.aload_n 0, 1) := by decide +kernel
theorem dX1_send_15 : decode cX1_send 15 = .ok (.iconst 1, 1) := by decide +kernel
theorem dX1_send_16 : decode cX1_send 16 = .ok (.invokevirtual 100, 3) := by decide +kernel
theorem dX1_send_19 : decode cX1_send 19 = .ok (.ireturn, 1) := by decide +kernel
theorem dX1_send_20 : decode cX1_send 20 = .ok (.aload_n 0, 1) := by decide +kernel
theorem dX1_send_21 : decode cX1_send 21 = .ok (.getfield 55, 3) := by decide +kernel
theorem dX1_send_24 : decode cX1_send 24 = .ok (.ifCond .ne 9, 3) := by decide +kernel
theorem dX1_send_27 : decode cX1_send 27 = .ok (.aload_n 0, 1) := by decide +kernel
theorem dX1_send_28 : decode cX1_send 28 = .ok (.iconst 2, 1) := by decide +kernel
theorem dX1_send_29 : decode cX1_send 29 = .ok (.invokevirtual 100, 3) := by decide +kernel
theorem dX1_send_32 : decode cX1_send 32 = .ok (.ireturn, 1) := by decide +kernel
theorem dX1_send_33 : decode cX1_send 33 = .ok (.aload_n 0, 1) := by decide +kernel
theorem dX1_send_34 : decode cX1_send 34 = .ok (.iload_n 1, 1) := by decide +kernel
theorem dX1_send_35 : decode cX1_send 35 = .ok (.invokevirtual 124, 3) := by decide +kernel
theorem dX1_send_38 : decode cX1_send 38 = .ok (.istore_n 2, 1) := by decide +kernel
theorem dX1_send_39 : decode cX1_send 39 = .ok (.aload_n 0, 1) := by decide +kernel
theorem dX1_send_40 : decode cX1_send 40 = .ok (.dup, 1) := by decide +kernel
theorem dX1_send_41 : decode cX1_send 41 = .ok (.getfield 127, 3) := by decide +kernel
theorem dX1_send_44 : decode cX1_send 44 = .ok (.iconst 1, 1) := by decide +kernel
theorem dX1_send_45 : decode cX1_send 45 = .ok (.iadd, 1) := by decide +kernel
theorem dX1_send_46 : decode cX1_send 46 = .ok (.putfield 127, 3) := by decide +kernel
theorem dX1_send_49 : decode cX1_send 49 = .ok (.aload_n 0, 1) := by decide +kernel
theorem dX1_send_50 : decode cX1_send 50 = .ok (.dup, 1) := by decide +kernel
theorem dX1_send_51 : decode cX1_send 51 = .ok (.getfield 130, 3) := by decide +kernel
theorem dX1_send_54 : decode cX1_send 54 = .ok (.iload_n 2, 1) := by decide +kernel
theorem dX1_send_55 : decode cX1_send 55 = .ok (.iadd, 1) := by decide +kernel
theorem dX1_send_56 : decode cX1_send 56 = .ok (.putfield 130, 3) := by decide +kernel
theorem dX1_send_59 : decode cX1_send 59 = .ok (.aload_n 0, 1) := by decide +kernel
theorem dX1_send_60 : decode cX1_send 60 = .ok (.iconst 0, 1) := by decide +kernel
theorem dX1_send_61 : decode cX1_send 61 = .ok (.putfield 55, 3) := by decide +kernel
theorem dX1_send_64 : decode cX1_send 64 = .ok (.iload_n 2, 1) := by decide +kernel
theorem dX1_send_65 : decode cX1_send 65 = .ok (.ireturn, 1) := by decide +kernel
set_option maxRecDepth 20000 in
theorem ggX1_words_X1_told : GoodIn wsX1_words wsX1_told := goodIn_r _ [6, 7, 8, 9, 10, 11, 12, 13, 14, 15, 16, 17, 18, 19, 20, 21, 22, 23] (by decide +kernel) (by decide +kernel)
set_option maxRecDepth 20000 in
theorem gX1_words_X1_told : GoodIn wsX1_words (wsV RX1 133 RX1 yX1_told wsX1_told) := goodIn_app (goodIn_of _ (by decide +kernel)) ggX1_words_X1_told
theorem dX1_words_0 : decode cX1_words 0 = .ok (.aload_n 0, 1) := by decide +kernel
theorem dX1_words_1 : decode cX1_words 1 = .ok (.aload_n 0, 1) := by decide +kernel
theorem dX1_words_2 : decode cX1_words 2 = .ok (.getfield 48, 3) := by decide +kernel
theorem dX1_words_5 : decode cX1_words 5 = .ok (.invokevirtual 133, 3) := by decide +kernel
theorem dX1_words_8 : decode cX1_words 8 = .ok (.ireturn, 1) := by decide +kernel
set_option maxRecDepth 20000 in
theorem ggX1_lettersOf_X1_isWord : GoodIn wsX1_lettersOf wsX1_isWord := goodIn_r _ [7, 8, 9, 10, 6, 11, 16, 17, 18, 19, 20, 21, 22, 23, 24, 25, 26, 27, 28, 29, 30, 31] (by decide +kernel) (by decide +kernel)
set_option maxRecDepth 20000 in
theorem gX1_lettersOf_X1_isWord : GoodIn wsX1_lettersOf (wsV RX1 58 RX1 yX1_isWord wsX1_isWord) := goodIn_app (goodIn_of _ (by decide +kernel)) ggX1_lettersOf_X1_isWord
set_option maxRecDepth 20000 in
theorem ggX1_lettersOf_X1_fail : GoodIn wsX1_lettersOf wsX1_fail := goodIn_r _ [15, 1, 16, 17, 18, 19, 20, 21, 22, 23, 24, 25, 26, 27, 28, 29, 30, 31] (by decide +kernel) (by decide +kernel)
set_option maxRecDepth 20000 in
theorem gX1_lettersOf_X1_fail : GoodIn wsX1_lettersOf (wsV RX1 100 RX1 yX1_fail wsX1_fail) := goodIn_app (goodIn_of _ (by decide +kernel)) ggX1_lettersOf_X1_fail
theorem dX1_lettersOf_0 : decode cX1_lettersOf 0 = .ok (.aload_n 0, 1) := by decide +kernel
theorem dX1_lettersOf_1 : decode cX1_lettersOf 1 = .ok (.iconst 0, 1) := by decide +kernel
theorem dX1_lettersOf_2 : decode cX1_lettersOf 2 = .ok (.putfield 45, 3) := by decide +kernel
theorem dX1_lettersOf_5 : decode cX1_lettersOf 5 = .ok (.aload_n 0, 1) := by decide +kernel
theorem dX1_lettersOf_6 : decode cX1_lettersOf 6 = .ok (.iload_n 1, 1) := by decide +kernel
theorem dX1_lettersOf_7 : decode cX1_lettersOf 7 = .ok (.invokevirtual 58, 3) := by decide +kernel
theorem dX1_lettersOf_10 : decode cX1_lettersOf 10 = .ok (.ifCond .eq 12, 3) := by decide +kernel
theorem dX1_lettersOf_13 : decode cX1_lettersOf 13 = .ok (.aload_n 0, 1) := by decide +kernel
theorem dX1_lettersOf_14 : decode cX1_lettersOf 14 = .ok (.getfield 19, 3) := by decide +kernel
theorem dX1_lettersOf_17 : decode cX1_lettersOf 17 = .ok (.iload_n 1, 1) := by decide +kernel
theorem dX1_lettersOf_18 : decode cX1_lettersOf 18 = .ok (.iaload, 1) := by decide +kernel
theorem dX1_lettersOf_19 : decode cX1_lettersOf 19 = .ok (.goto 8, 3) := by decide +kernel
theorem dX1_lettersOf_22 : decode cX1_lettersOf 22 = .ok (.aload_n 0, 1) := by decide +kernel
theorem dX1_lettersOf_23 : decode cX1_lettersOf 23 = .ok (.iconst 1, 1) := by decide +kernel
theorem dX1_lettersOf_24 : decode cX1_lettersOf 24 = .ok (.invokevirtual 100, 3) := by decide +kernel
theorem dX1_lettersOf_27 : decode cX1_lettersOf 27 = .ok (.ireturn, 1) := by decide +kernel
set_option maxRecDepth 20000 in
theorem ggX1_countOf_X1_isWord : GoodIn wsX1_countOf wsX1_isWord := goodIn_r _ [7, 8, 9, 10, 6, 11, 21, 22, 23, 24, 25, 26, 27, 28, 29, 30, 31, 32, 33, 34, 35, 36] (by decide +kernel) (by decide +kernel)
set_option maxRecDepth 20000 in
theorem gX1_countOf_X1_isWord : GoodIn wsX1_countOf (wsV RX1 58 RX1 yX1_isWord wsX1_isWord) := goodIn_app (goodIn_of _ (by decide +kernel)) ggX1_countOf_X1_isWord
set_option maxRecDepth 20000 in
theorem ggX1_countOf_X1_counts : GoodIn wsX1_countOf wsX1_counts := goodIn_r _ [15, 16, 21, 22, 23, 24, 25, 26, 27, 28, 29, 30, 31, 32, 33, 34, 35, 36] (by decide +kernel) (by decide +kernel)
set_option maxRecDepth 20000 in
theorem gX1_countOf_X1_counts : GoodIn wsX1_countOf (wsV RX1 68 RX1 yX1_counts wsX1_counts) := goodIn_app (goodIn_of _ (by decide +kernel)) ggX1_countOf_X1_counts
set_option maxRecDepth 20000 in
theorem ggX1_countOf_X1_fail : GoodIn wsX1_countOf wsX1_fail := goodIn_r _ [20, 1, 21, 22, 23, 24, 25, 26, 27, 28, 29, 30, 31, 32, 33, 34, 35, 36] (by decide +kernel) (by decide +kernel)
set_option maxRecDepth 20000 in
theorem gX1_countOf_X1_fail : GoodIn wsX1_countOf (wsV RX1 100 RX1 yX1_fail wsX1_fail) := goodIn_app (goodIn_of _ (by decide +kernel)) ggX1_countOf_X1_fail
theorem dX1_countOf_0 : decode cX1_countOf 0 = .ok (.aload_n 0, 1) := by decide +kernel
theorem dX1_countOf_1 : decode cX1_countOf 1 = .ok (.iconst 0, 1) := by decide +kernel
theorem dX1_countOf_2 : decode cX1_countOf 2 = .ok (.putfield 45, 3) := by decide +kernel
theorem dX1_countOf_5 : decode cX1_countOf 5 = .ok (.aload_n 0, 1) := by decide +kernel
theorem dX1_countOf_6 : decode cX1_countOf 6 = .ok (.iload_n 1, 1) := by decide +kernel
theorem dX1_countOf_7 : decode cX1_countOf 7 = .ok (.invokevirtual 58, 3) := by decide +kernel
theorem dX1_countOf_10 : decode cX1_countOf 10 = .ok (.ifCond .eq 16, 3) := by decide +kernel
theorem dX1_countOf_13 : decode cX1_countOf 13 = .ok (.aload_n 0, 1) := by decide +kernel
theorem dX1_countOf_14 : decode cX1_countOf 14 = .ok (.aload_n 0, 1) := by decide +kernel
theorem dX1_countOf_15 : decode cX1_countOf 15 = .ok (.getfield 19, 3) := by decide +kernel
theorem dX1_countOf_18 : decode cX1_countOf 18 = .ok (.iload_n 1, 1) := by decide +kernel
theorem dX1_countOf_19 : decode cX1_countOf 19 = .ok (.iaload, 1) := by decide +kernel
theorem dX1_countOf_20 : decode cX1_countOf 20 = .ok (.invokevirtual 68, 3) := by decide +kernel
theorem dX1_countOf_23 : decode cX1_countOf 23 = .ok (.goto 8, 3) := by decide +kernel
theorem dX1_countOf_26 : decode cX1_countOf 26 = .ok (.aload_n 0, 1) := by decide +kernel
theorem dX1_countOf_27 : decode cX1_countOf 27 = .ok (.iconst 1, 1) := by decide +kernel
theorem dX1_countOf_28 : decode cX1_countOf 28 = .ok (.invokevirtual 100, 3) := by decide +kernel
theorem dX1_countOf_31 : decode cX1_countOf 31 = .ok (.ireturn, 1) := by decide +kernel
set_option maxRecDepth 20000 in
theorem ggX1_mayStandFor_X1_arePair : GoodIn wsX1_mayStandFor wsX1_arePair := goodIn_r _ [6, 7, 8, 9, 10, 5, 11, 12, 13, 14, 15, 19, 20, 21, 22, 23, 24, 25, 26, 27, 28, 29, 30, 31, 32, 33, 34] (by decide +kernel) (by decide +kernel)
set_option maxRecDepth 20000 in
theorem gX1_mayStandFor_X1_arePair : GoodIn wsX1_mayStandFor (wsV RX1 103 RX1 yX1_arePair wsX1_arePair) := goodIn_app (goodIn_of _ (by decide +kernel)) ggX1_mayStandFor_X1_arePair
set_option maxRecDepth 20000 in
theorem ggX1_mayStandFor_X1_has : GoodIn wsX1_mayStandFor wsX1_has := goodIn_r _ [18] (by decide +kernel) (by decide +kernel)
set_option maxRecDepth 20000 in
theorem gX1_mayStandFor_X1_has : GoodIn wsX1_mayStandFor (va_wsS RX1 76 yX1_has wsX1_has) := goodIn_app (goodIn_of _ (by decide +kernel)) ggX1_mayStandFor_X1_has
theorem dX1_mayStandFor_0 : decode cX1_mayStandFor 0 = .ok (.aload_n 0, 1) := by decide +kernel
theorem dX1_mayStandFor_1 : decode cX1_mayStandFor 1 = .ok (.iload_n 1, 1) := by decide +kernel
theorem dX1_mayStandFor_2 : decode cX1_mayStandFor 2 = .ok (.iload_n 2, 1) := by decide +kernel
theorem dX1_mayStandFor_3 : decode cX1_mayStandFor 3 = .ok (.invokevirtual 103, 3) := by decide +kernel
theorem dX1_mayStandFor_6 : decode cX1_mayStandFor 6 = .ok (.ifCond .eq 20, 3) := by decide +kernel
theorem dX1_mayStandFor_9 : decode cX1_mayStandFor 9 = .ok (.aload_n 0, 1) := by decide +kernel
theorem dX1_mayStandFor_10 : decode cX1_mayStandFor 10 = .ok (.getfield 23, 3) := by decide +kernel
theorem dX1_mayStandFor_13 : decode cX1_mayStandFor 13 = .ok (.iload_n 1, 1) := by decide +kernel
theorem dX1_mayStandFor_14 : decode cX1_mayStandFor 14 = .ok (.iaload, 1) := by decide +kernel
theorem dX1_mayStandFor_15 : decode cX1_mayStandFor 15 = .ok (.iload_n 2, 1) := by decide +kernel
theorem dX1_mayStandFor_16 : decode cX1_mayStandFor 16 = .ok (.invokestatic 76, 3) := by decide +kernel
theorem dX1_mayStandFor_19 : decode cX1_mayStandFor 19 = .ok (.ifCond .eq 7, 3) := by decide +kernel
theorem dX1_mayStandFor_22 : decode cX1_mayStandFor 22 = .ok (.iconst 1, 1) := by decide +kernel
theorem dX1_mayStandFor_23 : decode cX1_mayStandFor 23 = .ok (.goto 4, 3) := by decide +kernel
theorem dX1_mayStandFor_26 : decode cX1_mayStandFor 26 = .ok (.iconst 0, 1) := by decide +kernel
theorem dX1_mayStandFor_27 : decode cX1_mayStandFor 27 = .ok (.ireturn, 1) := by decide +kernel
set_option maxRecDepth 20000 in
theorem ggX1_mayJoin_X1_arePair : GoodIn wsX1_mayJoin wsX1_arePair := goodIn_r _ [6, 7, 8, 9, 10, 5, 11, 12, 13, 14, 15, 19, 20, 21, 22, 23, 24, 25, 26, 27, 28, 29, 30, 31, 32, 33, 34] (by decide +kernel) (by decide +kernel)
set_option maxRecDepth 20000 in
theorem gX1_mayJoin_X1_arePair : GoodIn wsX1_mayJoin (wsV RX1 103 RX1 yX1_arePair wsX1_arePair) := goodIn_app (goodIn_of _ (by decide +kernel)) ggX1_mayJoin_X1_arePair
set_option maxRecDepth 20000 in
theorem ggX1_mayJoin_X1_has : GoodIn wsX1_mayJoin wsX1_has := goodIn_r _ [18] (by decide +kernel) (by decide +kernel)
set_option maxRecDepth 20000 in
theorem gX1_mayJoin_X1_has : GoodIn wsX1_mayJoin (va_wsS RX1 76 yX1_has wsX1_has) := goodIn_app (goodIn_of _ (by decide +kernel)) ggX1_mayJoin_X1_has
theorem dX1_mayJoin_0 : decode cX1_mayJoin 0 = .ok (.aload_n 0, 1) := by decide +kernel
theorem dX1_mayJoin_1 : decode cX1_mayJoin 1 = .ok (.iload_n 1, 1) := by decide +kernel
theorem dX1_mayJoin_2 : decode cX1_mayJoin 2 = .ok (.iload_n 2, 1) := by decide +kernel
theorem dX1_mayJoin_3 : decode cX1_mayJoin 3 = .ok (.invokevirtual 103, 3) := by decide +kernel
theorem dX1_mayJoin_6 : decode cX1_mayJoin 6 = .ok (.ifCond .eq 20, 3) := by decide +kernel
theorem dX1_mayJoin_9 : decode cX1_mayJoin 9 = .ok (.aload_n 0, 1) := by decide +kernel
theorem dX1_mayJoin_10 : decode cX1_mayJoin 10 = .ok (.getfield 26, 3) := by decide +kernel
theorem dX1_mayJoin_13 : decode cX1_mayJoin 13 = .ok (.iload_n 1, 1) := by decide +kernel
theorem dX1_mayJoin_14 : decode cX1_mayJoin 14 = .ok (.iaload, 1) := by decide +kernel
theorem dX1_mayJoin_15 : decode cX1_mayJoin 15 = .ok (.iload_n 2, 1) := by decide +kernel
theorem dX1_mayJoin_16 : decode cX1_mayJoin 16 = .ok (.invokestatic 76, 3) := by decide +kernel
theorem dX1_mayJoin_19 : decode cX1_mayJoin 19 = .ok (.ifCond .eq 7, 3) := by decide +kernel
theorem dX1_mayJoin_22 : decode cX1_mayJoin 22 = .ok (.iconst 1, 1) := by decide +kernel
theorem dX1_mayJoin_23 : decode cX1_mayJoin 23 = .ok (.goto 4, 3) := by decide +kernel
theorem dX1_mayJoin_26 : decode cX1_mayJoin 26 = .ok (.iconst 0, 1) := by decide +kernel
theorem dX1_mayJoin_27 : decode cX1_mayJoin 27 = .ok (.ireturn, 1) := by decide +kernel
theorem dX1_standIns_0 : decode cX1_standIns 0 = .ok (.iconst 0, 1) := by decide +kernel
theorem dX1_standIns_1 : decode cX1_standIns 1 = .ok (.istore_n 2, 1) := by decide +kernel
theorem dX1_standIns_2 : decode cX1_standIns 2 = .ok (.iconst 0, 1) := by decide +kernel
theorem dX1_standIns_3 : decode cX1_standIns 3 = .ok (.istore_n 3, 1) := by decide +kernel
theorem dX1_standIns_4 : decode cX1_standIns 4 = .ok (.iload_n 3, 1) := by decide +kernel
theorem dX1_standIns_5 : decode cX1_standIns 5 = .ok (.aload_n 0, 1) := by decide +kernel
theorem dX1_standIns_6 : decode cX1_standIns 6 = .ok (.getfield 48, 3) := by decide +kernel
theorem dX1_standIns_9 : decode cX1_standIns 9 = .ok (.if_icmp .ge 22, 3) := by decide +kernel
theorem dX1_standIns_12 : decode cX1_standIns 12 = .ok (.iload_n 2, 1) := by decide +kernel
theorem dX1_standIns_13 : decode cX1_standIns 13 = .ok (.aload_n 0, 1) := by decide +kernel
theorem dX1_standIns_14 : decode cX1_standIns 14 = .ok (.getfield 23, 3) := by decide +kernel
theorem dX1_standIns_17 : decode cX1_standIns 17 = .ok (.iload_n 1, 1) := by decide +kernel
theorem dX1_standIns_18 : decode cX1_standIns 18 = .ok (.iaload, 1) := by decide +kernel
theorem dX1_standIns_19 : decode cX1_standIns 19 = .ok (.iload_n 3, 1) := by decide +kernel
theorem dX1_standIns_20 : decode cX1_standIns 20 = .ok (.ishr, 1) := by decide +kernel
theorem dX1_standIns_21 : decode cX1_standIns 21 = .ok (.iconst 1, 1) := by decide +kernel
theorem dX1_standIns_22 : decode cX1_standIns 22 = .ok (.iand, 1) := by decide +kernel
theorem dX1_standIns_23 : decode cX1_standIns 23 = .ok (.iadd, 1) := by decide +kernel
theorem dX1_standIns_24 : decode cX1_standIns 24 = .ok (.istore_n 2, 1) := by decide +kernel
theorem dX1_standIns_25 : decode cX1_standIns 25 = .ok (.iinc 3 1, 3) := by decide +kernel
theorem dX1_standIns_28 : decode cX1_standIns 28 = .ok (.goto (-24), 3) := by decide +kernel
theorem dX1_standIns_31 : decode cX1_standIns 31 = .ok (.iload_n 2, 1) := by decide +kernel
theorem dX1_standIns_32 : decode cX1_standIns 32 = .ok (.ireturn, 1) := by decide +kernel
set_option maxRecDepth 20000 in
theorem ggX1_standInsOf_X1_isWord : GoodIn wsX1_standInsOf wsX1_isWord := goodIn_r _ [6, 7, 8, 9, 5, 10, 20, 21, 22, 23, 24, 25, 26, 27, 28, 29, 30, 31, 32, 33, 34, 35] (by decide +kernel) (by decide +kernel)
set_option maxRecDepth 20000 in
theorem gX1_standInsOf_X1_isWord : GoodIn wsX1_standInsOf (wsV RX1 58 RX1 yX1_isWord wsX1_isWord) := goodIn_app (goodIn_of _ (by decide +kernel)) ggX1_standInsOf_X1_isWord
set_option maxRecDepth 20000 in
theorem ggX1_standInsOf_X1_standIns : GoodIn wsX1_standInsOf wsX1_standIns := goodIn_r _ [14, 7, 15, 20, 21, 22, 23, 24, 25, 26, 27, 28, 29, 30, 31, 32, 33, 34, 35] (by decide +kernel) (by decide +kernel)
set_option maxRecDepth 20000 in
theorem gX1_standInsOf_X1_standIns : GoodIn wsX1_standInsOf (wsV RX1 136 RX1 yX1_standIns wsX1_standIns) := goodIn_app (goodIn_of _ (by decide +kernel)) ggX1_standInsOf_X1_standIns
set_option maxRecDepth 20000 in
theorem ggX1_standInsOf_X1_fail : GoodIn wsX1_standInsOf wsX1_fail := goodIn_r _ [19, 1, 20, 21, 22, 23, 24, 25, 26, 27, 28, 29, 30, 31, 32, 33, 34, 35] (by decide +kernel) (by decide +kernel)
set_option maxRecDepth 20000 in
theorem gX1_standInsOf_X1_fail : GoodIn wsX1_standInsOf (wsV RX1 100 RX1 yX1_fail wsX1_fail) := goodIn_app (goodIn_of _ (by decide +kernel)) ggX1_standInsOf_X1_fail
theorem dX1_standInsOf_0 : decode cX1_standInsOf 0 = .ok (.aload_n 0, 1) := by decide +kernel
theorem dX1_standInsOf_1 : decode cX1_standInsOf 1 = .ok (.iconst 0, 1) := by decide +kernel
theorem dX1_standInsOf_2 : decode cX1_standInsOf 2 = .ok (.putfield 45, 3) := by decide +kernel
theorem dX1_standInsOf_5 : decode cX1_standInsOf 5 = .ok (.aload_n 0, 1) := by decide +kernel
theorem dX1_standInsOf_6 : decode cX1_standInsOf 6 = .ok (.iload_n 1, 1) := by decide +kernel
theorem dX1_standInsOf_7 : decode cX1_standInsOf 7 = .ok (.invokevirtual 58, 3) := by decide +kernel
theorem dX1_standInsOf_10 : decode cX1_standInsOf 10 = .ok (.ifCond .eq 11, 3) := by decide +kernel
theorem dX1_standInsOf_13 : decode cX1_standInsOf 13 = .ok (.aload_n 0, 1) := by decide +kernel
theorem dX1_standInsOf_14 : decode cX1_standInsOf 14 = .ok (.iload_n 1, 1) := by decide +kernel
theorem dX1_standInsOf_15 : decode cX1_standInsOf 15 = .ok (.invokevirtual 136, 3) := by decide +kernel
theorem dX1_standInsOf_18 : decode cX1_standInsOf 18 = .ok (.goto 8, 3) := by decide +kernel
theorem dX1_standInsOf_21 : decode cX1_standInsOf 21 = .ok (.aload_n 0, 1) := by decide +kernel
theorem dX1_standInsOf_22 : decode cX1_standInsOf 22 = .ok (.iconst 1, 1) := by decide +kernel
theorem dX1_standInsOf_23 : decode cX1_standInsOf 23 = .ok (.invokevirtual 100, 3) := by decide +kernel
theorem dX1_standInsOf_26 : decode cX1_standInsOf 26 = .ok (.ireturn, 1) := by decide +kernel
set_option maxRecDepth 20000 in
theorem ggX1_limit_X1_told : GoodIn wsX1_limit wsX1_told := goodIn_r _ [6, 7, 8, 9, 10, 11, 12, 13, 14, 15, 16, 17, 18, 19, 20, 21, 22, 23] (by decide +kernel) (by decide +kernel)
set_option maxRecDepth 20000 in
theorem gX1_limit_X1_told : GoodIn wsX1_limit (wsV RX1 133 RX1 yX1_told wsX1_told) := goodIn_app (goodIn_of _ (by decide +kernel)) ggX1_limit_X1_told
theorem dX1_limit_0 : decode cX1_limit 0 = .ok (.aload_n 0, 1) := by decide +kernel
theorem dX1_limit_1 : decode cX1_limit 1 = .ok (.aload_n 0, 1) := by decide +kernel
theorem dX1_limit_2 : decode cX1_limit 2 = .ok (.getfield 7, 3) := by decide +kernel
theorem dX1_limit_5 : decode cX1_limit 5 = .ok (.invokevirtual 133, 3) := by decide +kernel
theorem dX1_limit_8 : decode cX1_limit 8 = .ok (.ireturn, 1) := by decide +kernel
set_option maxRecDepth 20000 in
theorem ggX1_leastCount_X1_told : GoodIn wsX1_leastCount wsX1_told := goodIn_r _ [6, 7, 8, 9, 10, 11, 12, 13, 14, 15, 16, 17, 18, 19, 20, 21, 22, 23] (by decide +kernel) (by decide +kernel)
set_option maxRecDepth 20000 in
theorem gX1_leastCount_X1_told : GoodIn wsX1_leastCount (wsV RX1 133 RX1 yX1_told wsX1_told) := goodIn_app (goodIn_of _ (by decide +kernel)) ggX1_leastCount_X1_told
theorem dX1_leastCount_0 : decode cX1_leastCount 0 = .ok (.aload_n 0, 1) := by decide +kernel
theorem dX1_leastCount_1 : decode cX1_leastCount 1 = .ok (.aload_n 0, 1) := by decide +kernel
theorem dX1_leastCount_2 : decode cX1_leastCount 2 = .ok (.getfield 13, 3) := by decide +kernel
theorem dX1_leastCount_5 : decode cX1_leastCount 5 = .ok (.invokevirtual 133, 3) := by decide +kernel
theorem dX1_leastCount_8 : decode cX1_leastCount 8 = .ok (.ireturn, 1) := by decide +kernel
set_option maxRecDepth 20000 in
theorem ggX1_coins_X1_told : GoodIn wsX1_coins wsX1_told := goodIn_r _ [6, 7, 8, 9, 10, 11, 12, 13, 14, 15, 16, 17, 18, 19, 20, 21, 22, 23] (by decide +kernel) (by decide +kernel)
set_option maxRecDepth 20000 in
theorem gX1_coins_X1_told : GoodIn wsX1_coins (wsV RX1 133 RX1 yX1_told wsX1_told) := goodIn_app (goodIn_of _ (by decide +kernel)) ggX1_coins_X1_told
theorem dX1_coins_0 : decode cX1_coins 0 = .ok (.aload_n 0, 1) := by decide +kernel
theorem dX1_coins_1 : decode cX1_coins 1 = .ok (.aload_n 0, 1) := by decide +kernel
theorem dX1_coins_2 : decode cX1_coins 2 = .ok (.getfield 16, 3) := by decide +kernel
theorem dX1_coins_5 : decode cX1_coins 5 = .ok (.invokevirtual 133, 3) := by decide +kernel
theorem dX1_coins_8 : decode cX1_coins 8 = .ok (.ireturn, 1) := by decide +kernel
set_option maxRecDepth 20000 in
theorem ggX1_length_X1_told : GoodIn wsX1_length wsX1_told := goodIn_r _ [6, 7, 8, 9, 10, 11, 12, 13, 14, 15, 16, 17, 18, 19, 20, 21, 22, 23] (by decide +kernel) (by decide +kernel)
set_option maxRecDepth 20000 in
theorem gX1_length_X1_told : GoodIn wsX1_length (wsV RX1 133 RX1 yX1_told wsX1_told) := goodIn_app (goodIn_of _ (by decide +kernel)) ggX1_length_X1_told
theorem dX1_length_0 : decode cX1_length 0 = .ok (.aload_n 0, 1) := by decide +kernel
theorem dX1_length_1 : decode cX1_length 1 = .ok (.aload_n 0, 1) := by decide +kernel
theorem dX1_length_2 : decode cX1_length 2 = .ok (.getfield 55, 3) := by decide +kernel
theorem dX1_length_5 : decode cX1_length 5 = .ok (.invokevirtual 133, 3) := by decide +kernel
theorem dX1_length_8 : decode cX1_length 8 = .ok (.ireturn, 1) := by decide +kernel
set_option maxRecDepth 20000 in
theorem ggX1_wordAt_X1_isPlace : GoodIn wsX1_wordAt wsX1_isPlace := goodIn_r _ [7, 8, 9, 10, 6, 11, 16, 17, 18, 19, 20, 21, 22, 23, 24, 25, 26, 27, 28, 29, 30, 31] (by decide +kernel) (by decide +kernel)
set_option maxRecDepth 20000 in
theorem gX1_wordAt_X1_isPlace : GoodIn wsX1_wordAt (wsV RX1 109 RX1 yX1_isPlace wsX1_isPlace) := goodIn_app (goodIn_of _ (by decide +kernel)) ggX1_wordAt_X1_isPlace
set_option maxRecDepth 20000 in
theorem ggX1_wordAt_X1_fail : GoodIn wsX1_wordAt wsX1_fail := goodIn_r _ [15, 1, 16, 17, 18, 19, 20, 21, 22, 23, 24, 25, 26, 27, 28, 29, 30, 31] (by decide +kernel) (by decide +kernel)
set_option maxRecDepth 20000 in
theorem gX1_wordAt_X1_fail : GoodIn wsX1_wordAt (wsV RX1 100 RX1 yX1_fail wsX1_fail) := goodIn_app (goodIn_of _ (by decide +kernel)) ggX1_wordAt_X1_fail
theorem dX1_wordAt_0 : decode cX1_wordAt 0 = .ok (.aload_n 0, 1) := by decide +kernel
theorem dX1_wordAt_1 : decode cX1_wordAt 1 = .ok (.iconst 0, 1) := by decide +kernel
theorem dX1_wordAt_2 : decode cX1_wordAt 2 = .ok (.putfield 45, 3) := by decide +kernel
theorem dX1_wordAt_5 : decode cX1_wordAt 5 = .ok (.aload_n 0, 1) := by decide +kernel
theorem dX1_wordAt_6 : decode cX1_wordAt 6 = .ok (.iload_n 1, 1) := by decide +kernel
theorem dX1_wordAt_7 : decode cX1_wordAt 7 = .ok (.invokevirtual 109, 3) := by decide +kernel
theorem dX1_wordAt_10 : decode cX1_wordAt 10 = .ok (.ifCond .eq 12, 3) := by decide +kernel
theorem dX1_wordAt_13 : decode cX1_wordAt 13 = .ok (.aload_n 0, 1) := by decide +kernel
theorem dX1_wordAt_14 : decode cX1_wordAt 14 = .ok (.getfield 29, 3) := by decide +kernel
theorem dX1_wordAt_17 : decode cX1_wordAt 17 = .ok (.iload_n 1, 1) := by decide +kernel
theorem dX1_wordAt_18 : decode cX1_wordAt 18 = .ok (.iaload, 1) := by decide +kernel
theorem dX1_wordAt_19 : decode cX1_wordAt 19 = .ok (.goto 8, 3) := by decide +kernel
theorem dX1_wordAt_22 : decode cX1_wordAt 22 = .ok (.aload_n 0, 1) := by decide +kernel
theorem dX1_wordAt_23 : decode cX1_wordAt 23 = .ok (.iconst 1, 1) := by decide +kernel
theorem dX1_wordAt_24 : decode cX1_wordAt 24 = .ok (.invokevirtual 100, 3) := by decide +kernel
theorem dX1_wordAt_27 : decode cX1_wordAt 27 = .ok (.ireturn, 1) := by decide +kernel
set_option maxRecDepth 20000 in
theorem ggX1_isJoined_X1_isPlace : GoodIn wsX1_isJoined wsX1_isPlace := goodIn_r _ [7, 8, 9, 10, 6, 11, 16, 17, 18, 19, 20, 21, 22, 23, 24, 25, 26, 27, 28, 29, 30, 31] (by decide +kernel) (by decide +kernel)
set_option maxRecDepth 20000 in
theorem gX1_isJoined_X1_isPlace : GoodIn wsX1_isJoined (wsV RX1 109 RX1 yX1_isPlace wsX1_isPlace) := goodIn_app (goodIn_of _ (by decide +kernel)) ggX1_isJoined_X1_isPlace
set_option maxRecDepth 20000 in
theorem ggX1_isJoined_X1_failed : GoodIn wsX1_isJoined wsX1_failed := goodIn_r _ [15, 1, 16, 17, 18, 19, 20, 21, 22, 23, 24, 25, 26, 27, 28, 29, 30, 31] (by decide +kernel) (by decide +kernel)
set_option maxRecDepth 20000 in
theorem gX1_isJoined_X1_failed : GoodIn wsX1_isJoined (wsV RX1 106 RX1 yX1_failed wsX1_failed) := goodIn_app (goodIn_of _ (by decide +kernel)) ggX1_isJoined_X1_failed
theorem dX1_isJoined_0 : decode cX1_isJoined 0 = .ok (.aload_n 0, 1) := by decide +kernel
theorem dX1_isJoined_1 : decode cX1_isJoined 1 = .ok (.iconst 0, 1) := by decide +kernel
theorem dX1_isJoined_2 : decode cX1_isJoined 2 = .ok (.putfield 45, 3) := by decide +kernel
theorem dX1_isJoined_5 : decode cX1_isJoined 5 = .ok (.aload_n 0, 1) := by decide +kernel
theorem dX1_isJoined_6 : decode cX1_isJoined 6 = .ok (.iload_n 1, 1) := by decide +kernel
theorem dX1_isJoined_7 : decode cX1_isJoined 7 = .ok (.invokevirtual 109, 3) := by decide +kernel
theorem dX1_isJoined_10 : decode cX1_isJoined 10 = .ok (.ifCond .eq 12, 3) := by decide +kernel
theorem dX1_isJoined_13 : decode cX1_isJoined 13 = .ok (.aload_n 0, 1) := by decide +kernel
theorem dX1_isJoined_14 : decode cX1_isJoined 14 = .ok (.getfield 32, 3) := by decide +kernel
theorem dX1_isJoined_17 : decode cX1_isJoined 17 = .ok (.iload_n 1, 1) := by decide +kernel
theorem dX1_isJoined_18 : decode cX1_isJoined 18 = .ok (.baload, 1) := by decide +kernel
theorem dX1_isJoined_19 : decode cX1_isJoined 19 = .ok (.goto 8, 3) := by decide +kernel
theorem dX1_isJoined_22 : decode cX1_isJoined 22 = .ok (.aload_n 0, 1) := by decide +kernel
theorem dX1_isJoined_23 : decode cX1_isJoined 23 = .ok (.iconst 1, 1) := by decide +kernel
theorem dX1_isJoined_24 : decode cX1_isJoined 24 = .ok (.invokevirtual 106, 3) := by decide +kernel
theorem dX1_isJoined_27 : decode cX1_isJoined 27 = .ok (.ireturn, 1) := by decide +kernel
set_option maxRecDepth 20000 in
theorem ggX1_count_X1_countNow : GoodIn wsX1_count wsX1_countNow := goodIn_r _ [5, 6, 7, 8, 9, 10, 11, 12, 4, 13, 14, 15, 16, 17, 18, 19, 20, 21, 22, 23, 29, 30, 31, 32, 33, 34, 35, 36, 37, 38, 39, 40, 41, 42, 43, 44] (by decide +kernel) (by decide +kernel)
set_option maxRecDepth 20000 in
theorem gX1_count_X1_countNow : GoodIn wsX1_count (wsV RX1 112 RX1 yX1_countNow wsX1_countNow) := goodIn_app (goodIn_of _ (by decide +kernel)) ggX1_count_X1_countNow
set_option maxRecDepth 20000 in
theorem ggX1_count_X1_told : GoodIn wsX1_count wsX1_told := goodIn_r _ [27, 28, 29, 30, 31, 32, 33, 34, 35, 36, 37, 38, 39, 40, 41, 42, 43, 44] (by decide +kernel) (by decide +kernel)
set_option maxRecDepth 20000 in
theorem gX1_count_X1_told : GoodIn wsX1_count (wsV RX1 133 RX1 yX1_told wsX1_told) := goodIn_app (goodIn_of _ (by decide +kernel)) ggX1_count_X1_told
theorem dX1_count_0 : decode cX1_count 0 = .ok (.aload_n 0, 1) := by decide +kernel
theorem dX1_count_1 : decode cX1_count 1 = .ok (.aload_n 0, 1) := by decide +kernel
theorem dX1_count_2 : decode cX1_count 2 = .ok (.invokevirtual 112, 3) := by decide +kernel
theorem dX1_count_5 : decode cX1_count 5 = .ok (.invokevirtual 133, 3) := by decide +kernel
theorem dX1_count_8 : decode cX1_count 8 = .ok (.ireturn, 1) := by decide +kernel
set_option maxRecDepth 20000 in
theorem ggX1_price_X1_countNow : GoodIn wsX1_price wsX1_countNow := goodIn_r _ [6, 7, 8, 9, 10, 11, 12, 13, 5, 14, 15, 16, 17, 18, 19, 20, 21, 22, 23, 24, 30, 31, 32, 33, 34, 35, 36, 37, 38, 39, 40, 41, 42, 43, 44, 45] (by decide +kernel) (by decide +kernel)
set_option maxRecDepth 20000 in
theorem gX1_price_X1_countNow : GoodIn wsX1_price (wsV RX1 112 RX1 yX1_countNow wsX1_countNow) := goodIn_app (goodIn_of _ (by decide +kernel)) ggX1_price_X1_countNow
set_option maxRecDepth 20000 in
theorem ggX1_price_X1_told : GoodIn wsX1_price wsX1_told := goodIn_r _ [28, 29, 30, 31, 32, 33, 34, 35, 36, 37, 38, 39, 40, 41, 42, 43, 44, 45] (by decide +kernel) (by decide +kernel)
set_option maxRecDepth 20000 in
theorem gX1_price_X1_told : GoodIn wsX1_price (wsV RX1 133 RX1 yX1_told wsX1_told) := goodIn_app (goodIn_of _ (by decide +kernel)) ggX1_price_X1_told
theorem dX1_price_0 : decode cX1_price 0 = .ok (.aload_n 0, 1) := by decide +kernel
theorem dX1_price_1 : decode cX1_price 1 = .ok (.aload_n 0, 1) := by decide +kernel
theorem dX1_price_2 : decode cX1_price 2 = .ok (.invokevirtual 112, 3) := by decide +kernel
theorem dX1_price_5 : decode cX1_price 5 = .ok (.aload_n 0, 1) := by decide +kernel
theorem dX1_price_6 : decode cX1_price 6 = .ok (.getfield 16, 3) := by decide +kernel
theorem dX1_price_9 : decode cX1_price 9 = .ok (.imul, 1) := by decide +kernel
theorem dX1_price_10 : decode cX1_price 10 = .ok (.invokevirtual 133, 3) := by decide +kernel
theorem dX1_price_13 : decode cX1_price 13 = .ok (.ireturn, 1) := by decide +kernel
set_option maxRecDepth 20000 in
theorem ggX1_priceTo_X1_isIn : GoodIn wsX1_priceTo wsX1_isIn := goodIn_r _ [5] (by decide +kernel) (by decide +kernel)
set_option maxRecDepth 20000 in
theorem gX1_priceTo_X1_isIn : GoodIn wsX1_priceTo (va_wsS RX1 51 yX1_isIn wsX1_isIn) := goodIn_app (goodIn_of _ (by decide +kernel)) ggX1_priceTo_X1_isIn
set_option maxRecDepth 20000 in
theorem ggX1_priceTo_X1_costTo : GoodIn wsX1_priceTo wsX1_costTo := goodIn_r _ [9, 10, 11, 12, 13, 4, 14, 15, 16, 17, 18, 19, 20, 21, 22, 23, 24, 25, 26, 27, 28, 29, 30, 31, 32, 37, 38, 39, 40, 41, 42, 43, 44, 45, 46, 47, 48, 49, 50, 51, 52] (by decide +kernel) (by decide +kernel)
set_option maxRecDepth 20000 in
theorem gX1_priceTo_X1_costTo : GoodIn wsX1_priceTo (wsV RX1 124 RX1 yX1_costTo wsX1_costTo) := goodIn_app (goodIn_of _ (by decide +kernel)) ggX1_priceTo_X1_costTo
set_option maxRecDepth 20000 in
theorem ggX1_priceTo_X1_fail : GoodIn wsX1_priceTo wsX1_fail := goodIn_r _ [36, 1, 37, 38, 39, 40, 41, 42, 43, 44, 45, 46, 47, 48, 49, 50, 51, 52] (by decide +kernel) (by decide +kernel)
set_option maxRecDepth 20000 in
theorem gX1_priceTo_X1_fail : GoodIn wsX1_priceTo (wsV RX1 100 RX1 yX1_fail wsX1_fail) := goodIn_app (goodIn_of _ (by decide +kernel)) ggX1_priceTo_X1_fail
theorem dX1_priceTo_0 : decode cX1_priceTo 0 = .ok (.aload_n 0, 1) := by decide +kernel
theorem dX1_priceTo_1 : decode cX1_priceTo 1 = .ok (.iconst 0, 1) := by decide +kernel
theorem dX1_priceTo_2 : decode cX1_priceTo 2 = .ok (.putfield 45, 3) := by decide +kernel
theorem dX1_priceTo_5 : decode cX1_priceTo 5 = .ok (.iload_n 1, 1) := by decide +kernel
theorem dX1_priceTo_6 : decode cX1_priceTo 6 = .ok (.iconst 0, 1) := by decide +kernel
theorem dX1_priceTo_7 : decode cX1_priceTo 7 = .ok (.iconst 3, 1) := by decide +kernel
theorem dX1_priceTo_8 : decode cX1_priceTo 8 = .ok (.invokestatic 51, 3) := by decide +kernel
theorem dX1_priceTo_11 : decode cX1_priceTo 11 = .ok (.ifCond .eq 11, 3) := by decide +kernel
theorem dX1_priceTo_14 : decode cX1_priceTo 14 = .ok (.aload_n 0, 1) := by decide +kernel
theorem dX1_priceTo_15 : decode cX1_priceTo 15 = .ok (.iload_n 1, 1) := by decide +kernel
theorem dX1_priceTo_16 : decode cX1_priceTo 16 = .ok (.invokevirtual 124, 3) := by decide +kernel
theorem dX1_priceTo_19 : decode cX1_priceTo 19 = .ok (.goto 8, 3) := by decide +kernel
theorem dX1_priceTo_22 : decode cX1_priceTo 22 = .ok (.aload_n 0, 1) := by decide +kernel
theorem dX1_priceTo_23 : decode cX1_priceTo 23 = .ok (.iconst 1, 1) := by decide +kernel
theorem dX1_priceTo_24 : decode cX1_priceTo 24 = .ok (.invokevirtual 100, 3) := by decide +kernel
theorem dX1_priceTo_27 : decode cX1_priceTo 27 = .ok (.ireturn, 1) := by decide +kernel
set_option maxRecDepth 20000 in
theorem ggX1_sent_X1_told : GoodIn wsX1_sent wsX1_told := goodIn_r _ [6, 7, 8, 9, 10, 11, 12, 13, 14, 15, 16, 17, 18, 19, 20, 21, 22, 23] (by decide +kernel) (by decide +kernel)
set_option maxRecDepth 20000 in
theorem gX1_sent_X1_told : GoodIn wsX1_sent (wsV RX1 133 RX1 yX1_told wsX1_told) := goodIn_app (goodIn_of _ (by decide +kernel)) ggX1_sent_X1_told
theorem dX1_sent_0 : decode cX1_sent 0 = .ok (.aload_n 0, 1) := by decide +kernel
theorem dX1_sent_1 : decode cX1_sent 1 = .ok (.aload_n 0, 1) := by decide +kernel
theorem dX1_sent_2 : decode cX1_sent 2 = .ok (.getfield 127, 3) := by decide +kernel
theorem dX1_sent_5 : decode cX1_sent 5 = .ok (.invokevirtual 133, 3) := by decide +kernel
theorem dX1_sent_8 : decode cX1_sent 8 = .ok (.ireturn, 1) := by decide +kernel
set_option maxRecDepth 20000 in
theorem ggX1_earned_X1_told : GoodIn wsX1_earned wsX1_told := goodIn_r _ [6, 7, 8, 9, 10, 11, 12, 13, 14, 15, 16, 17, 18, 19, 20, 21, 22, 23] (by decide +kernel) (by decide +kernel)
set_option maxRecDepth 20000 in
theorem gX1_earned_X1_told : GoodIn wsX1_earned (wsV RX1 133 RX1 yX1_told wsX1_told) := goodIn_app (goodIn_of _ (by decide +kernel)) ggX1_earned_X1_told
theorem dX1_earned_0 : decode cX1_earned 0 = .ok (.aload_n 0, 1) := by decide +kernel
theorem dX1_earned_1 : decode cX1_earned 1 = .ok (.aload_n 0, 1) := by decide +kernel
theorem dX1_earned_2 : decode cX1_earned 2 = .ok (.getfield 130, 3) := by decide +kernel
theorem dX1_earned_5 : decode cX1_earned 5 = .ok (.invokevirtual 133, 3) := by decide +kernel
theorem dX1_earned_8 : decode cX1_earned 8 = .ok (.ireturn, 1) := by decide +kernel
set_option maxRecDepth 20000 in
theorem ggX1_cheapestCount_X1_reckon : GoodIn wsX1_cheapestCount wsX1_reckon := goodIn_r _ [5, 6, 7, 8, 9, 10, 11, 12, 13, 14, 4, 15, 16, 17, 18, 19, 20, 21, 22, 23, 24, 25, 26, 27, 28, 29, 30, 31, 32, 33, 47, 48, 49, 50, 51, 52, 53, 54, 55, 56, 57, 58, 59, 60, 61, 62] (by decide +kernel) (by decide +kernel)
set_option maxRecDepth 20000 in
theorem gX1_cheapestCount_X1_reckon : GoodIn wsX1_cheapestCount (wsV RX1 89 RX1 yX1_reckon wsX1_reckon) := goodIn_app (goodIn_of _ (by decide +kernel)) ggX1_cheapestCount_X1_reckon
set_option maxRecDepth 20000 in
theorem ggX1_cheapestCount_X1_lifted : GoodIn wsX1_cheapestCount wsX1_lifted := goodIn_r _ [37, 7, 38, 39, 40, 10, 41, 47, 48, 49, 50, 51, 52, 53, 54, 55, 56, 57, 58, 59, 60, 61, 62] (by decide +kernel) (by decide +kernel)
set_option maxRecDepth 20000 in
theorem gX1_cheapestCount_X1_lifted : GoodIn wsX1_cheapestCount (wsV RX1 72 RX1 yX1_lifted wsX1_lifted) := goodIn_app (goodIn_of _ (by decide +kernel)) ggX1_cheapestCount_X1_lifted
set_option maxRecDepth 20000 in
theorem ggX1_cheapestCount_X1_told : GoodIn wsX1_cheapestCount wsX1_told := goodIn_r _ [45, 46, 47, 48, 49, 50, 51, 52, 53, 54, 55, 56, 57, 58, 59, 60, 61, 62] (by decide +kernel) (by decide +kernel)
set_option maxRecDepth 20000 in
theorem gX1_cheapestCount_X1_told : GoodIn wsX1_cheapestCount (wsV RX1 133 RX1 yX1_told wsX1_told) := goodIn_app (goodIn_of _ (by decide +kernel)) ggX1_cheapestCount_X1_told
theorem dX1_cheapestCount_0 : decode cX1_cheapestCount 0 = .ok (.aload_n 0, 1) := by decide +kernel
theorem dX1_cheapestCount_1 : decode cX1_cheapestCount 1 = .ok (.aload_n 0, 1) := by decide +kernel
theorem dX1_cheapestCount_2 : decode cX1_cheapestCount 2 = .ok (.aload_n 0, 1) := by decide +kernel
theorem dX1_cheapestCount_3 : decode cX1_cheapestCount 3 = .ok (.invokevirtual 89, 3) := by decide +kernel
theorem dX1_cheapestCount_6 : decode cX1_cheapestCount 6 = .ok (.invokevirtual 72, 3) := by decide +kernel
theorem dX1_cheapestCount_9 : decode cX1_cheapestCount 9 = .ok (.invokevirtual 133, 3) := by decide +kernel
theorem dX1_cheapestCount_12 : decode cX1_cheapestCount 12 = .ok (.ireturn, 1) := by decide +kernel
set_option maxRecDepth 20000 in
theorem ggX1_cheapestWordAt_X1_isPlace : GoodIn wsX1_cheapestWordAt wsX1_isPlace := goodIn_r _ [7, 8, 9, 10, 6, 11, 60, 61, 62, 63, 64, 65, 66, 67, 68, 69, 70, 71, 72, 73, 74, 75] (by decide +kernel) (by decide +kernel)
set_option maxRecDepth 20000 in
theorem gX1_cheapestWordAt_X1_isPlace : GoodIn wsX1_cheapestWordAt (wsV RX1 109 RX1 yX1_isPlace wsX1_isPlace) := goodIn_app (goodIn_of _ (by decide +kernel)) ggX1_cheapestWordAt_X1_isPlace
set_option maxRecDepth 20000 in
theorem ggX1_cheapestWordAt_X1_fail : GoodIn wsX1_cheapestWordAt wsX1_fail := goodIn_r _ [15, 1, 60, 61, 62, 63, 64, 65, 66, 67, 68, 69, 70, 71, 72, 73, 74, 75] (by decide +kernel) (by decide +kernel)
set_option maxRecDepth 20000 in
theorem gX1_cheapestWordAt_X1_fail : GoodIn wsX1_cheapestWordAt (wsV RX1 100 RX1 yX1_fail wsX1_fail) := goodIn_app (goodIn_of _ (by decide +kernel)) ggX1_cheapestWordAt_X1_fail
set_option maxRecDepth 20000 in
theorem ggX1_cheapestWordAt_X1_choose : GoodIn wsX1_cheapestWordAt wsX1_choose := goodIn_r _ [19, 8, 20, 2, 21, 22, 23, 6, 24, 25, 26, 27, 28, 29, 30, 31, 32, 33, 34, 35, 36, 37, 38, 39, 40, 41, 42, 43, 44, 45, 46, 47, 48, 49, 50, 51, 52, 53, 54, 55, 56, 57, 58, 59, 60, 61, 62, 63, 64, 65, 66, 67, 68, 69, 70, 71, 72, 73, 74, 75] (by decide +kernel) (by decide +kernel)
set_option maxRecDepth 20000 in
theorem gX1_cheapestWordAt_X1_choose : GoodIn wsX1_cheapestWordAt (wsV RX1 115 RX1 yX1_choose wsX1_choose) := goodIn_app (goodIn_of _ (by decide +kernel)) ggX1_cheapestWordAt_X1_choose
theorem dX1_cheapestWordAt_0 : decode cX1_cheapestWordAt 0 = .ok (.aload_n 0, 1) := by decide +kernel
theorem dX1_cheapestWordAt_1 : decode cX1_cheapestWordAt 1 = .ok (.iconst 0, 1) := by decide +kernel
theorem dX1_cheapestWordAt_2 : decode cX1_cheapestWordAt 2 = .ok (.putfield 45, 3) := by decide +kernel
theorem dX1_cheapestWordAt_5 : decode cX1_cheapestWordAt 5 = .ok (.aload_n 0, 1) := by decide +kernel
theorem dX1_cheapestWordAt_6 : decode cX1_cheapestWordAt 6 = .ok (.iload_n 1, 1) := by decide +kernel
theorem dX1_cheapestWordAt_7 : decode cX1_cheapestWordAt 7 = .ok (.invokevirtual 109, 3) := by decide +kernel
theorem dX1_cheapestWordAt_10 : decode cX1_cheapestWordAt 10 = .ok (.ifCond .ne 9, 3) := by decide +kernel
theorem dX1_cheapestWordAt_13 : decode cX1_cheapestWordAt 13 = .ok (.aload_n 0, 1) := by decide +kernel
theorem dX1_cheapestWordAt_14 : decode cX1_cheapestWordAt 14 = .ok (.iconst 1, 1) := by decide +kernel
theorem dX1_cheapestWordAt_15 : decode cX1_cheapestWordAt 15 = .ok (.invokevirtual 100, 3) := by decide +kernel
theorem dX1_cheapestWordAt_18 : decode cX1_cheapestWordAt 18 = .ok (.ireturn, 1) := by decide +kernel
theorem dX1_cheapestWordAt_19 : decode cX1_cheapestWordAt 19 = .ok (.aload_n 0, 1) := by decide +kernel
theorem dX1_cheapestWordAt_20 : decode cX1_cheapestWordAt 20 = .ok (.invokevirtual 115, 3) := by decide +kernel
theorem dX1_cheapestWordAt_23 : decode cX1_cheapestWordAt 23 = .ok (.aload_n 0, 1) := by decide +kernel
theorem dX1_cheapestWordAt_24 : decode cX1_cheapestWordAt 24 = .ok (.getfield 39, 3) := by decide +kernel
theorem dX1_cheapestWordAt_27 : decode cX1_cheapestWordAt 27 = .ok (.iload_n 1, 1) := by decide +kernel
theorem dX1_cheapestWordAt_28 : decode cX1_cheapestWordAt 28 = .ok (.iaload, 1) := by decide +kernel
theorem dX1_cheapestWordAt_29 : decode cX1_cheapestWordAt 29 = .ok (.ireturn, 1) := by decide +kernel
set_option maxRecDepth 20000 in
theorem ggX1_isJoinedInCheapest_X1_isPlace : GoodIn wsX1_isJoinedInCheapest wsX1_isPlace := goodIn_r _ [7, 8, 9, 10, 6, 11, 60, 61, 62, 63, 64, 65, 66, 67, 68, 69, 70, 71, 72, 73, 74, 75] (by decide +kernel) (by decide +kernel)
set_option maxRecDepth 20000 in
theorem gX1_isJoinedInCheapest_X1_isPlace : GoodIn wsX1_isJoinedInCheapest (wsV RX1 109 RX1 yX1_isPlace wsX1_isPlace) := goodIn_app (goodIn_of _ (by decide +kernel)) ggX1_isJoinedInCheapest_X1_isPlace
set_option maxRecDepth 20000 in
theorem ggX1_isJoinedInCheapest_X1_failed : GoodIn wsX1_isJoinedInCheapest wsX1_failed := goodIn_r _ [15, 1, 60, 61, 62, 63, 64, 65, 66, 67, 68, 69, 70, 71, 72, 73, 74, 75] (by decide +kernel) (by decide +kernel)
set_option maxRecDepth 20000 in
theorem gX1_isJoinedInCheapest_X1_failed : GoodIn wsX1_isJoinedInCheapest (wsV RX1 106 RX1 yX1_failed wsX1_failed) := goodIn_app (goodIn_of _ (by decide +kernel)) ggX1_isJoinedInCheapest_X1_failed
set_option maxRecDepth 20000 in
theorem ggX1_isJoinedInCheapest_X1_choose : GoodIn wsX1_isJoinedInCheapest wsX1_choose := goodIn_r _ [19, 8, 2, 20, 21, 22, 23, 6, 24, 25, 26, 27, 28, 29, 30, 31, 32, 33, 34, 35, 36, 37, 38, 39, 40, 41, 42, 43, 44, 45, 46, 47, 48, 49, 50, 51, 52, 53, 54, 55, 56, 57, 58, 59, 60, 61, 62, 63, 64, 65, 66, 67, 68, 69, 70, 71, 72, 73, 74, 75] (by decide +kernel) (by decide +kernel)
set_option maxRecDepth 20000 in
theorem gX1_isJoinedInCheapest_X1_choose : GoodIn wsX1_isJoinedInCheapest (wsV RX1 115 RX1 yX1_choose wsX1_choose) := goodIn_app (goodIn_of _ (by decide +kernel)) ggX1_isJoinedInCheapest_X1_choose
theorem dX1_isJoinedInCheapest_0 : decode cX1_isJoinedInCheapest 0 = .ok (.aload_n 0, 1) := by decide +kernel
theorem dX1_isJoinedInCheapest_1 : decode cX1_isJoinedInCheapest 1 = .ok (.iconst 0, 1) := by decide +kernel
theorem dX1_isJoinedInCheapest_2 : decode cX1_isJoinedInCheapest 2 = .ok (.putfield 45, 3) := by decide +kernel
theorem dX1_isJoinedInCheapest_5 : decode cX1_isJoinedInCheapest 5 = .ok (.aload_n 0, 1) := by decide +kernel
theorem dX1_isJoinedInCheapest_6 : decode cX1_isJoinedInCheapest 6 = .ok (.iload_n 1, 1) := by decide +kernel
theorem dX1_isJoinedInCheapest_7 : decode cX1_isJoinedInCheapest 7 = .ok (.invokevirtual 109, 3) := by decide +kernel
theorem dX1_isJoinedInCheapest_10 : decode cX1_isJoinedInCheapest 10 = .ok (.ifCond .ne 9, 3) := by decide +kernel
theorem dX1_isJoinedInCheapest_13 : decode cX1_isJoinedInCheapest 13 = .ok (.aload_n 0, 1) := by decide +kernel
theorem dX1_isJoinedInCheapest_14 : decode cX1_isJoinedInCheapest 14 = .ok (.iconst 1, 1) := by decide +kernel
theorem dX1_isJoinedInCheapest_15 : decode cX1_isJoinedInCheapest 15 = .ok (.invokevirtual 106, 3) := by decide +kernel
theorem dX1_isJoinedInCheapest_18 : decode cX1_isJoinedInCheapest 18 = .ok (.ireturn, 1) := by decide +kernel
theorem dX1_isJoinedInCheapest_19 : decode cX1_isJoinedInCheapest 19 = .ok (.aload_n 0, 1) := by decide +kernel
theorem dX1_isJoinedInCheapest_20 : decode cX1_isJoinedInCheapest 20 = .ok (.invokevirtual 115, 3) := by decide +kernel
theorem dX1_isJoinedInCheapest_23 : decode cX1_isJoinedInCheapest 23 = .ok (.aload_n 0, 1) := by decide +kernel
theorem dX1_isJoinedInCheapest_24 : decode cX1_isJoinedInCheapest 24 = .ok (.getfield 42, 3) := by decide +kernel
theorem dX1_isJoinedInCheapest_27 : decode cX1_isJoinedInCheapest 27 = .ok (.iload_n 1, 1) := by decide +kernel
theorem dX1_isJoinedInCheapest_28 : decode cX1_isJoinedInCheapest 28 = .ok (.baload, 1) := by decide +kernel
theorem dX1_isJoinedInCheapest_29 : decode cX1_isJoinedInCheapest 29 = .ok (.ireturn, 1) := by decide +kernel
set_option maxRecDepth 20000 in
theorem ggX1_saves_X1_countNow : GoodIn wsX1_saves wsX1_countNow := goodIn_r _ [6, 7, 8, 9, 10, 11, 12, 13, 5, 14, 15, 16, 17, 18, 19, 20, 21, 22, 23, 24, 53, 54, 55, 56, 57, 58, 59, 60, 61, 62, 63, 64, 65, 66, 67, 68] (by decide +kernel) (by decide +kernel)
set_option maxRecDepth 20000 in
theorem gX1_saves_X1_countNow : GoodIn wsX1_saves (wsV RX1 112 RX1 yX1_countNow wsX1_countNow) := goodIn_app (goodIn_of _ (by decide +kernel)) ggX1_saves_X1_countNow
set_option maxRecDepth 20000 in
theorem ggX1_saves_X1_reckon : GoodIn wsX1_saves wsX1_reckon := goodIn_r _ [28, 29, 7, 30, 31, 23, 32, 33, 34, 35, 5, 36, 37, 38, 39, 9, 8, 40, 41, 42, 11, 12, 13, 14, 15, 43, 44, 45, 46, 47, 53, 54, 55, 56, 57, 58, 59, 60, 61, 62, 63, 64, 65, 66, 67, 68] (by decide +kernel) (by decide +kernel)
set_option maxRecDepth 20000 in
theorem gX1_saves_X1_reckon : GoodIn wsX1_saves (wsV RX1 89 RX1 yX1_reckon wsX1_reckon) := goodIn_app (goodIn_of _ (by decide +kernel)) ggX1_saves_X1_reckon
set_option maxRecDepth 20000 in
theorem ggX1_saves_X1_lifted : GoodIn wsX1_saves wsX1_lifted := goodIn_r _ [19, 7, 20, 21, 22, 23, 24, 53, 54, 55, 56, 57, 58, 59, 60, 61, 62, 63, 64, 65, 66, 67, 68] (by decide +kernel) (by decide +kernel)
set_option maxRecDepth 20000 in
theorem gX1_saves_X1_lifted : GoodIn wsX1_saves (wsV RX1 72 RX1 yX1_lifted wsX1_lifted) := goodIn_app (goodIn_of _ (by decide +kernel)) ggX1_saves_X1_lifted
set_option maxRecDepth 20000 in
theorem ggX1_saves_X1_told : GoodIn wsX1_saves wsX1_told := goodIn_r _ [51, 52, 53, 54, 55, 56, 57, 58, 59, 60, 61, 62, 63, 64, 65, 66, 67, 68] (by decide +kernel) (by decide +kernel)
set_option maxRecDepth 20000 in
theorem gX1_saves_X1_told : GoodIn wsX1_saves (wsV RX1 133 RX1 yX1_told wsX1_told) := goodIn_app (goodIn_of _ (by decide +kernel)) ggX1_saves_X1_told
theorem dX1_saves_0 : decode cX1_saves 0 = .ok (.aload_n 0, 1) := by decide +kernel
theorem dX1_saves_1 : decode cX1_saves 1 = .ok (.aload_n 0, 1) := by decide +kernel
theorem dX1_saves_2 : decode cX1_saves 2 = .ok (.invokevirtual 112, 3) := by decide +kernel
theorem dX1_saves_5 : decode cX1_saves 5 = .ok (.aload_n 0, 1) := by decide +kernel
theorem dX1_saves_6 : decode cX1_saves 6 = .ok (.aload_n 0, 1) := by decide +kernel
theorem dX1_saves_7 : decode cX1_saves 7 = .ok (.invokevirtual 89, 3) := by decide +kernel
theorem dX1_saves_10 : decode cX1_saves 10 = .ok (.invokevirtual 72, 3) := by decide +kernel
theorem dX1_saves_13 : decode cX1_saves 13 = .ok (.isub, 1) := by decide +kernel
theorem dX1_saves_14 : decode cX1_saves 14 = .ok (.aload_n 0, 1) := by decide +kernel
theorem dX1_saves_15 : decode cX1_saves 15 = .ok (.getfield 16, 3) := by decide +kernel
theorem dX1_saves_18 : decode cX1_saves 18 = .ok (.imul, 1) := by decide +kernel
theorem dX1_saves_19 : decode cX1_saves 19 = .ok (.invokevirtual 133, 3) := by decide +kernel
theorem dX1_saves_22 : decode cX1_saves 22 = .ok (.ireturn, 1) := by decide +kernel
set_option maxRecDepth 20000 in
theorem ggX1_wordings_X1_standIns : GoodIn wsX1_wordings wsX1_standIns := goodIn_r _ [13, 14, 15, 16, 17, 18, 19, 20, 21, 22, 23, 24, 25, 26, 27, 28, 29, 30, 31] (by decide +kernel) (by decide +kernel)
set_option maxRecDepth 20000 in
theorem gX1_wordings_X1_standIns : GoodIn wsX1_wordings (wsV RX1 136 RX1 yX1_standIns wsX1_standIns) := goodIn_app (goodIn_of _ (by decide +kernel)) ggX1_wordings_X1_standIns
theorem dX1_wordings_0 : decode cX1_wordings 0 = .ok (.aload_n 0, 1) := by decide +kernel
theorem dX1_wordings_1 : decode cX1_wordings 1 = .ok (.iconst 0, 1) := by decide +kernel
theorem dX1_wordings_2 : decode cX1_wordings 2 = .ok (.putfield 45, 3) := by decide +kernel
theorem dX1_wordings_5 : decode cX1_wordings 5 = .ok (.iconst 1, 1) := by decide +kernel
theorem dX1_wordings_6 : decode cX1_wordings 6 = .ok (.istore_n 1, 1) := by decide +kernel
theorem dX1_wordings_7 : decode cX1_wordings 7 = .ok (.iconst 0, 1) := by decide +kernel
theorem dX1_wordings_8 : decode cX1_wordings 8 = .ok (.istore_n 2, 1) := by decide +kernel
theorem dX1_wordings_9 : decode cX1_wordings 9 = .ok (.iload_n 2, 1) := by decide +kernel
theorem dX1_wordings_10 : decode cX1_wordings 10 = .ok (.aload_n 0, 1) := by decide +kernel
theorem dX1_wordings_11 : decode cX1_wordings 11 = .ok (.getfield 55, 3) := by decide +kernel
theorem dX1_wordings_14 : decode cX1_wordings 14 = .ok (.if_icmp .ge 27, 3) := by decide +kernel
theorem dX1_wordings_17 : decode cX1_wordings 17 = .ok (.ldc 75, 2) := by decide +kernel
theorem dX1_wordings_19 : decode cX1_wordings 19 = .ok (.iload_n 1, 1) := by decide +kernel
theorem dX1_wordings_20 : decode cX1_wordings 20 = .ok (.aload_n 0, 1) := by decide +kernel
theorem dX1_wordings_21 : decode cX1_wordings 21 = .ok (.aload_n 0, 1) := by decide +kernel
theorem dX1_wordings_22 : decode cX1_wordings 22 = .ok (.getfield 29, 3) := by decide +kernel
theorem dX1_wordings_25 : decode cX1_wordings 25 = .ok (.iload_n 2, 1) := by decide +kernel
theorem dX1_wordings_26 : decode cX1_wordings 26 = .ok (.iaload, 1) := by decide +kernel
theorem dX1_wordings_27 : decode cX1_wordings 27 = .ok (.invokevirtual 136, 3) := by decide +kernel
theorem dX1_wordings_30 : decode cX1_wordings 30 = .ok (.imul, 1) := by decide +kernel
theorem dX1_wordings_31 : decode cX1_wordings 31 = .ok (.invokestatic 80, 3) := by decide +kernel
theorem dX1_wordings_34 : decode cX1_wordings 34 = .ok (.istore_n 1, 1) := by decide +kernel
theorem dX1_wordings_35 : decode cX1_wordings 35 = .ok (.iinc 2 1, 3) := by decide +kernel
theorem dX1_wordings_38 : decode cX1_wordings 38 = .ok (.goto (-29), 3) := by decide +kernel
theorem dX1_wordings_41 : decode cX1_wordings 41 = .ok (.iload_n 1, 1) := by decide +kernel
theorem dX1_wordings_42 : decode cX1_wordings 42 = .ok (.ireturn, 1) := by decide +kernel
set_option maxRecDepth 20000 in
theorem ggX1_bestJoin_X1_reckon : GoodIn wsX1_bestJoin wsX1_reckon := goodIn_r _ [8, 9, 10, 11, 12, 13, 14, 15, 16, 17, 7, 18, 19, 2, 20, 21, 22, 23, 24, 25, 26, 27, 28, 29, 30, 31, 32, 33, 34, 3, 43, 44, 45, 46, 47, 48, 49, 50, 51, 52, 53, 54, 55, 56, 57, 58] (by decide +kernel) (by decide +kernel)
set_option maxRecDepth 20000 in
theorem gX1_bestJoin_X1_reckon : GoodIn wsX1_bestJoin (wsV RX1 89 RX1 yX1_reckon wsX1_reckon) := goodIn_app (goodIn_of _ (by decide +kernel)) ggX1_bestJoin_X1_reckon
set_option maxRecDepth 20000 in
theorem ggX1_bestJoin_X1_lifted : GoodIn wsX1_bestJoin wsX1_lifted := goodIn_r _ [38, 10, 39, 40, 41, 13, 42, 43, 44, 45, 46, 47, 48, 49, 50, 51, 52, 53, 54, 55, 56, 57, 58] (by decide +kernel) (by decide +kernel)
set_option maxRecDepth 20000 in
theorem gX1_bestJoin_X1_lifted : GoodIn wsX1_bestJoin (wsV RX1 72 RX1 yX1_lifted wsX1_lifted) := goodIn_app (goodIn_of _ (by decide +kernel)) ggX1_bestJoin_X1_lifted
set_option maxRecDepth 20000 in
theorem ggX1_bestJoin_X1_has : GoodIn wsX1_bestJoin wsX1_has := goodIn_r _ [25] (by decide +kernel) (by decide +kernel)
set_option maxRecDepth 20000 in
theorem gX1_bestJoin_X1_has : GoodIn wsX1_bestJoin (va_wsS RX1 76 yX1_has wsX1_has) := goodIn_app (goodIn_of _ (by decide +kernel)) ggX1_bestJoin_X1_has
theorem dX1_bestJoin_0 : decode cX1_bestJoin 0 = .ok (.aload_n 0, 1) := by decide +kernel
theorem dX1_bestJoin_1 : decode cX1_bestJoin 1 = .ok (.iconst 0, 1) := by decide +kernel
theorem dX1_bestJoin_2 : decode cX1_bestJoin 2 = .ok (.putfield 45, 3) := by decide +kernel
theorem dX1_bestJoin_5 : decode cX1_bestJoin 5 = .ok (.iconst (-1), 1) := by decide +kernel
theorem dX1_bestJoin_6 : decode cX1_bestJoin 6 = .ok (.istore_n 1, 1) := by decide +kernel
theorem dX1_bestJoin_7 : decode cX1_bestJoin 7 = .ok (.aload_n 0, 1) := by decide +kernel
theorem dX1_bestJoin_8 : decode cX1_bestJoin 8 = .ok (.aload_n 0, 1) := by decide +kernel
theorem dX1_bestJoin_9 : decode cX1_bestJoin 9 = .ok (.invokevirtual 89, 3) := by decide +kernel
theorem dX1_bestJoin_12 : decode cX1_bestJoin 12 = .ok (.invokevirtual 72, 3) := by decide +kernel
theorem dX1_bestJoin_15 : decode cX1_bestJoin 15 = .ok (.istore_n 2, 1) := by decide +kernel
theorem dX1_bestJoin_16 : decode cX1_bestJoin 16 = .ok (.iconst 0, 1) := by decide +kernel
theorem dX1_bestJoin_17 : decode cX1_bestJoin 17 = .ok (.istore_n 3, 1) := by decide +kernel
theorem dX1_bestJoin_18 : decode cX1_bestJoin 18 = .ok (.iload_n 3, 1) := by decide +kernel
theorem dX1_bestJoin_19 : decode cX1_bestJoin 19 = .ok (.aload_n 0, 1) := by decide +kernel
theorem dX1_bestJoin_20 : decode cX1_bestJoin 20 = .ok (.getfield 48, 3) := by decide +kernel
theorem dX1_bestJoin_23 : decode cX1_bestJoin 23 = .ok (.if_icmp .ge 102, 3) := by decide +kernel
theorem dX1_bestJoin_26 : decode cX1_bestJoin 26 = .ok (.iconst 0, 1) := by decide +kernel
theorem dX1_bestJoin_27 : decode cX1_bestJoin 27 = .ok (.istore 4, 2) := by decide +kernel
theorem dX1_bestJoin_29 : decode cX1_bestJoin 29 = .ok (.iload 4, 2) := by decide +kernel
theorem dX1_bestJoin_31 : decode cX1_bestJoin 31 = .ok (.aload_n 0, 1) := by decide +kernel
theorem dX1_bestJoin_32 : decode cX1_bestJoin 32 = .ok (.getfield 48, 3) := by decide +kernel
theorem dX1_bestJoin_35 : decode cX1_bestJoin 35 = .ok (.if_icmp .ge 84, 3) := by decide +kernel
theorem dX1_bestJoin_38 : decode cX1_bestJoin 38 = .ok (.aload_n 0, 1) := by decide +kernel
theorem dX1_bestJoin_39 : decode cX1_bestJoin 39 = .ok (.getfield 26, 3) := by decide +kernel
theorem dX1_bestJoin_42 : decode cX1_bestJoin 42 = .ok (.iload_n 3, 1) := by decide +kernel
theorem dX1_bestJoin_43 : decode cX1_bestJoin 43 = .ok (.iaload, 1) := by decide +kernel
theorem dX1_bestJoin_44 : decode cX1_bestJoin 44 = .ok (.iload 4, 2) := by decide +kernel
theorem dX1_bestJoin_46 : decode cX1_bestJoin 46 = .ok (.invokestatic 76, 3) := by decide +kernel
theorem dX1_bestJoin_49 : decode cX1_bestJoin 49 = .ok (.ifCond .eq 6, 3) := by decide +kernel
theorem dX1_bestJoin_52 : decode cX1_bestJoin 52 = .ok (.goto 61, 3) := by decide +kernel
theorem dX1_bestJoin_55 : decode cX1_bestJoin 55 = .ok (.aload_n 0, 1) := by decide +kernel
theorem dX1_bestJoin_56 : decode cX1_bestJoin 56 = .ok (.getfield 26, 3) := by decide +kernel
theorem dX1_bestJoin_59 : decode cX1_bestJoin 59 = .ok (.iload_n 3, 1) := by decide +kernel
theorem dX1_bestJoin_60 : decode cX1_bestJoin 60 = .ok (.dup2, 1) := by decide +kernel
theorem dX1_bestJoin_61 : decode cX1_bestJoin 61 = .ok (.iaload, 1) := by decide +kernel
theorem dX1_bestJoin_62 : decode cX1_bestJoin 62 = .ok (.iconst 1, 1) := by decide +kernel
theorem dX1_bestJoin_63 : decode cX1_bestJoin 63 = .ok (.iload 4, 2) := by decide +kernel
theorem dX1_bestJoin_65 : decode cX1_bestJoin 65 = .ok (.ishl, 1) := by decide +kernel
theorem dX1_bestJoin_66 : decode cX1_bestJoin 66 = .ok (.ior, 1) := by decide +kernel
theorem dX1_bestJoin_67 : decode cX1_bestJoin 67 = .ok (.iastore, 1) := by decide +kernel
theorem dX1_bestJoin_68 : decode cX1_bestJoin 68 = .ok (.aload_n 0, 1) := by decide +kernel
theorem dX1_bestJoin_69 : decode cX1_bestJoin 69 = .ok (.aload_n 0, 1) := by decide +kernel
theorem dX1_bestJoin_70 : decode cX1_bestJoin 70 = .ok (.invokevirtual 89, 3) := by decide +kernel
theorem dX1_bestJoin_73 : decode cX1_bestJoin 73 = .ok (.invokevirtual 72, 3) := by decide +kernel
theorem dX1_bestJoin_76 : decode cX1_bestJoin 76 = .ok (.istore 5, 2) := by decide +kernel
theorem dX1_bestJoin_78 : decode cX1_bestJoin 78 = .ok (.aload_n 0, 1) := by decide +kernel
theorem dX1_bestJoin_79 : decode cX1_bestJoin 79 = .ok (.getfield 26, 3) := by decide +kernel
theorem dX1_bestJoin_82 : decode cX1_bestJoin 82 = .ok (.iload_n 3, 1) := by decide +kernel
theorem dX1_bestJoin_83 : decode cX1_bestJoin 83 = .ok (.dup2, 1) := by decide +kernel
theorem dX1_bestJoin_84 : decode cX1_bestJoin 84 = .ok (.iaload, 1) := by decide +kernel
theorem dX1_bestJoin_85 : decode cX1_bestJoin 85 = .ok (.iconst 1, 1) := by decide +kernel
theorem dX1_bestJoin_86 : decode cX1_bestJoin 86 = .ok (.iload 4, 2) := by decide +kernel
theorem dX1_bestJoin_88 : decode cX1_bestJoin 88 = .ok (.ishl, 1) := by decide +kernel
theorem dX1_bestJoin_89 : decode cX1_bestJoin 89 = .ok (.iconst (-1), 1) := by decide +kernel
theorem dX1_bestJoin_90 : decode cX1_bestJoin 90 = .ok (.ixor, 1) := by decide +kernel
theorem dX1_bestJoin_91 : decode cX1_bestJoin 91 = .ok (.iand, 1) := by decide +kernel
theorem dX1_bestJoin_92 : decode cX1_bestJoin 92 = .ok (.iastore, 1) := by decide +kernel
theorem dX1_bestJoin_93 : decode cX1_bestJoin 93 = .ok (.iload 5, 2) := by decide +kernel
theorem dX1_bestJoin_95 : decode cX1_bestJoin 95 = .ok (.iload_n 2, 1) := by decide +kernel
theorem dX1_bestJoin_96 : decode cX1_bestJoin 96 = .ok (.if_icmp .lt 6, 3) := by decide +kernel
theorem dX1_bestJoin_99 : decode cX1_bestJoin 99 = .ok (.goto 14, 3) := by decide +kernel
theorem dX1_bestJoin_102 : decode cX1_bestJoin 102 = .ok (.bipush 100, 2) := by decide +kernel
theorem dX1_bestJoin_104 : decode cX1_bestJoin 104 = .ok (.iload_n 3, 1) := by decide +kernel
theorem dX1_bestJoin_105 : decode cX1_bestJoin 105 = .ok (.imul, 1) := by decide +kernel
theorem dX1_bestJoin_106 : decode cX1_bestJoin 106 = .ok (.iload 4, 2) := by decide +kernel
theorem dX1_bestJoin_108 : decode cX1_bestJoin 108 = .ok (.iadd, 1) := by decide +kernel
theorem dX1_bestJoin_109 : decode cX1_bestJoin 109 = .ok (.istore_n 1, 1) := by decide +kernel
theorem dX1_bestJoin_110 : decode cX1_bestJoin 110 = .ok (.iload 5, 2) := by decide +kernel
theorem dX1_bestJoin_112 : decode cX1_bestJoin 112 = .ok (.istore_n 2, 1) := by decide +kernel
theorem dX1_bestJoin_113 : decode cX1_bestJoin 113 = .ok (.iinc 4 1, 3) := by decide +kernel
theorem dX1_bestJoin_116 : decode cX1_bestJoin 116 = .ok (.goto (-87), 3) := by decide +kernel
theorem dX1_bestJoin_119 : decode cX1_bestJoin 119 = .ok (.iinc 3 1, 3) := by decide +kernel
theorem dX1_bestJoin_122 : decode cX1_bestJoin 122 = .ok (.goto (-104), 3) := by decide +kernel
theorem dX1_bestJoin_125 : decode cX1_bestJoin 125 = .ok (.iload_n 1, 1) := by decide +kernel
theorem dX1_bestJoin_126 : decode cX1_bestJoin 126 = .ok (.ireturn, 1) := by decide +kernel
theorem dX1_meanCost_0 : decode cX1_meanCost 0 = .ok (.aload_n 0, 1) := by decide +kernel
theorem dX1_meanCost_1 : decode cX1_meanCost 1 = .ok (.iconst 0, 1) := by decide +kernel
theorem dX1_meanCost_2 : decode cX1_meanCost 2 = .ok (.putfield 45, 3) := by decide +kernel
theorem dX1_meanCost_5 : decode cX1_meanCost 5 = .ok (.aload_n 0, 1) := by decide +kernel
theorem dX1_meanCost_6 : decode cX1_meanCost 6 = .ok (.getfield 127, 3) := by decide +kernel
theorem dX1_meanCost_9 : decode cX1_meanCost 9 = .ok (.ifCond .ne 7, 3) := by decide +kernel
theorem dX1_meanCost_12 : decode cX1_meanCost 12 = .ok (.dconst 0, 1) := by decide +kernel
theorem dX1_meanCost_13 : decode cX1_meanCost 13 = .ok (.goto 14, 3) := by decide +kernel
theorem dX1_meanCost_16 : decode cX1_meanCost 16 = .ok (.aload_n 0, 1) := by decide +kernel
theorem dX1_meanCost_17 : decode cX1_meanCost 17 = .ok (.getfield 130, 3) := by decide +kernel
theorem dX1_meanCost_20 : decode cX1_meanCost 20 = .ok (.i2d, 1) := by decide +kernel
theorem dX1_meanCost_21 : decode cX1_meanCost 21 = .ok (.aload_n 0, 1) := by decide +kernel
theorem dX1_meanCost_22 : decode cX1_meanCost 22 = .ok (.getfield 127, 3) := by decide +kernel
theorem dX1_meanCost_25 : decode cX1_meanCost 25 = .ok (.i2d, 1) := by decide +kernel
theorem dX1_meanCost_26 : decode cX1_meanCost 26 = .ok (.ddiv, 1) := by decide +kernel
theorem dX1_meanCost_27 : decode cX1_meanCost 27 = .ok (.dreturn, 1) := by decide +kernel
set_option maxRecDepth 20000 in
theorem ggX1_digest_X1_choose : GoodIn wsX1_digest wsX1_choose := goodIn_r _ [22, 7, 17, 16, 23, 24, 25, 21, 26, 8, 27, 28, 29, 30, 31, 32, 33, 34, 35, 3, 36, 14, 13, 37, 38, 39, 40, 41, 42, 43, 4, 44, 45, 46, 47, 48, 49, 50, 51, 52, 53, 54, 55, 56, 72, 73, 74, 75, 76, 77, 78, 79, 80, 81, 82, 83, 84, 85, 86, 87] (by decide +kernel) (by decide +kernel)
set_option maxRecDepth 20000 in
theorem gX1_digest_X1_choose : GoodIn wsX1_digest (wsV RX1 115 RX1 yX1_choose wsX1_choose) := goodIn_app (goodIn_of _ (by decide +kernel)) ggX1_digest_X1_choose
set_option maxRecDepth 20000 in
theorem ggX1_digest_X1_countNow : GoodIn wsX1_digest wsX1_countNow := goodIn_r _ [60, 7, 13, 14, 15, 40, 41, 42, 21, 43, 4, 61, 62, 63, 64, 5, 65, 66, 29, 67, 72, 73, 74, 75, 76, 77, 78, 79, 80, 81, 82, 83, 84, 85, 86, 87] (by decide +kernel) (by decide +kernel)
set_option maxRecDepth 20000 in
theorem gX1_digest_X1_countNow : GoodIn wsX1_digest (wsV RX1 112 RX1 yX1_countNow wsX1_countNow) := goodIn_app (goodIn_of _ (by decide +kernel)) ggX1_digest_X1_countNow
set_option maxRecDepth 20000 in
theorem ggX1_digest_X1_lifted : GoodIn wsX1_digest wsX1_lifted := goodIn_r _ [64, 7, 5, 65, 66, 29, 67, 72, 73, 74, 75, 76, 77, 78, 79, 80, 81, 82, 83, 84, 85, 86, 87] (by decide +kernel) (by decide +kernel)
set_option maxRecDepth 20000 in
theorem gX1_digest_X1_lifted : GoodIn wsX1_digest (wsV RX1 72 RX1 yX1_lifted wsX1_lifted) := goodIn_app (goodIn_of _ (by decide +kernel)) ggX1_digest_X1_lifted
set_option maxRecDepth 20000 in
theorem ggX1_digest_X1_counts : GoodIn wsX1_digest wsX1_counts := goodIn_r _ [43, 4, 72, 73, 74, 75, 76, 77, 78, 79, 80, 81, 82, 83, 84, 85, 86, 87] (by decide +kernel) (by decide +kernel)
set_option maxRecDepth 20000 in
theorem gX1_digest_X1_counts : GoodIn wsX1_digest (wsV RX1 68 RX1 yX1_counts wsX1_counts) := goodIn_app (goodIn_of _ (by decide +kernel)) ggX1_digest_X1_counts
set_option maxRecDepth 20000 in
theorem ggX1_digest_X1_standIns : GoodIn wsX1_digest wsX1_standIns := goodIn_r _ [71, 3, 36, 72, 73, 74, 75, 76, 77, 78, 79, 80, 81, 82, 83, 84, 85, 86, 87] (by decide +kernel) (by decide +kernel)
set_option maxRecDepth 20000 in
theorem gX1_digest_X1_standIns : GoodIn wsX1_digest (wsV RX1 136 RX1 yX1_standIns wsX1_standIns) := goodIn_app (goodIn_of _ (by decide +kernel)) ggX1_digest_X1_standIns
theorem dX1_digest_0 : decode cX1_digest 0 = .ok (.aload_n 0, 1) := by decide +kernel
theorem dX1_digest_1 : decode cX1_digest 1 = .ok (.iconst 0, 1) := by decide +kernel
theorem dX1_digest_2 : decode cX1_digest 2 = .ok (.putfield 45, 3) := by decide +kernel
theorem dX1_digest_5 : decode cX1_digest 5 = .ok (.aload_n 0, 1) := by decide +kernel
theorem dX1_digest_6 : decode cX1_digest 6 = .ok (.invokevirtual 115, 3) := by decide +kernel
theorem dX1_digest_9 : decode cX1_digest 9 = .ok (.bipush 10, 2) := by decide +kernel
theorem dX1_digest_11 : decode cX1_digest 11 = .ok (.newarray .int, 2) := by decide +kernel
theorem dX1_digest_13 : decode cX1_digest 13 = .ok (.dup, 1) := by decide +kernel
theorem dX1_digest_14 : decode cX1_digest 14 = .ok (.iconst 0, 1) := by decide +kernel
theorem dX1_digest_15 : decode cX1_digest 15 = .ok (.aload_n 0, 1) := by decide +kernel
theorem dX1_digest_16 : decode cX1_digest 16 = .ok (.getfield 48, 3) := by decide +kernel
theorem dX1_digest_19 : decode cX1_digest 19 = .ok (.iastore, 1) := by decide +kernel
theorem dX1_digest_20 : decode cX1_digest 20 = .ok (.dup, 1) := by decide +kernel
theorem dX1_digest_21 : decode cX1_digest 21 = .ok (.iconst 1, 1) := by decide +kernel
theorem dX1_digest_22 : decode cX1_digest 22 = .ok (.aload_n 0, 1) := by decide +kernel
theorem dX1_digest_23 : decode cX1_digest 23 = .ok (.getfield 7, 3) := by decide +kernel
theorem dX1_digest_26 : decode cX1_digest 26 = .ok (.iastore, 1) := by decide +kernel
theorem dX1_digest_27 : decode cX1_digest 27 = .ok (.dup, 1) := by decide +kernel
theorem dX1_digest_28 : decode cX1_digest 28 = .ok (.iconst 2, 1) := by decide +kernel
theorem dX1_digest_29 : decode cX1_digest 29 = .ok (.aload_n 0, 1) := by decide +kernel
theorem dX1_digest_30 : decode cX1_digest 30 = .ok (.getfield 13, 3) := by decide +kernel
theorem dX1_digest_33 : decode cX1_digest 33 = .ok (.iastore, 1) := by decide +kernel
theorem dX1_digest_34 : decode cX1_digest 34 = .ok (.dup, 1) := by decide +kernel
theorem dX1_digest_35 : decode cX1_digest 35 = .ok (.iconst 3, 1) := by decide +kernel
theorem dX1_digest_36 : decode cX1_digest 36 = .ok (.aload_n 0, 1) := by decide +kernel
theorem dX1_digest_37 : decode cX1_digest 37 = .ok (.getfield 16, 3) := by decide +kernel
theorem dX1_digest_40 : decode cX1_digest 40 = .ok (.iastore, 1) := by decide +kernel
theorem dX1_digest_41 : decode cX1_digest 41 = .ok (.dup, 1) := by decide +kernel
theorem dX1_digest_42 : decode cX1_digest 42 = .ok (.iconst 4, 1) := by decide +kernel
theorem dX1_digest_43 : decode cX1_digest 43 = .ok (.aload_n 0, 1) := by decide +kernel
theorem dX1_digest_44 : decode cX1_digest 44 = .ok (.getfield 55, 3) := by decide +kernel
theorem dX1_digest_47 : decode cX1_digest 47 = .ok (.iastore, 1) := by decide +kernel
theorem dX1_digest_48 : decode cX1_digest 48 = .ok (.dup, 1) := by decide +kernel
theorem dX1_digest_49 : decode cX1_digest 49 = .ok (.iconst 5, 1) := by decide +kernel
theorem dX1_digest_50 : decode cX1_digest 50 = .ok (.aload_n 0, 1) := by decide +kernel
theorem dX1_digest_51 : decode cX1_digest 51 = .ok (.invokevirtual 112, 3) := by decide +kernel
theorem dX1_digest_54 : decode cX1_digest 54 = .ok (.iastore, 1) := by decide +kernel
theorem dX1_digest_55 : decode cX1_digest 55 = .ok (.dup, 1) := by decide +kernel
theorem dX1_digest_56 : decode cX1_digest 56 = .ok (.bipush 6, 2) := by decide +kernel
theorem dX1_digest_58 : decode cX1_digest 58 = .ok (.aload_n 0, 1) := by decide +kernel
theorem dX1_digest_59 : decode cX1_digest 59 = .ok (.invokevirtual 112, 3) := by decide +kernel
theorem dX1_digest_62 : decode cX1_digest 62 = .ok (.aload_n 0, 1) := by decide +kernel
theorem dX1_digest_63 : decode cX1_digest 63 = .ok (.getfield 16, 3) := by decide +kernel
theorem dX1_digest_66 : decode cX1_digest 66 = .ok (.imul, 1) := by decide +kernel
theorem dX1_digest_67 : decode cX1_digest 67 = .ok (.iastore, 1) := by decide +kernel
theorem dX1_digest_68 : decode cX1_digest 68 = .ok (.dup, 1) := by decide +kernel
theorem dX1_digest_69 : decode cX1_digest 69 = .ok (.bipush 7, 2) := by decide +kernel
theorem dX1_digest_71 : decode cX1_digest 71 = .ok (.aload_n 0, 1) := by decide +kernel
theorem dX1_digest_72 : decode cX1_digest 72 = .ok (.aload_n 0, 1) := by decide +kernel
theorem dX1_digest_73 : decode cX1_digest 73 = .ok (.getfield 36, 3) := by decide +kernel
theorem dX1_digest_76 : decode cX1_digest 76 = .ok (.iconst 0, 1) := by decide +kernel
theorem dX1_digest_77 : decode cX1_digest 77 = .ok (.iaload, 1) := by decide +kernel
theorem dX1_digest_78 : decode cX1_digest 78 = .ok (.invokevirtual 72, 3) := by decide +kernel
theorem dX1_digest_81 : decode cX1_digest 81 = .ok (.iastore, 1) := by decide +kernel
theorem dX1_digest_82 : decode cX1_digest 82 = .ok (.dup, 1) := by decide +kernel
theorem dX1_digest_83 : decode cX1_digest 83 = .ok (.bipush 8, 2) := by decide +kernel
theorem dX1_digest_85 : decode cX1_digest 85 = .ok (.aload_n 0, 1) := by decide +kernel
theorem dX1_digest_86 : decode cX1_digest 86 = .ok (.getfield 127, 3) := by decide +kernel
theorem dX1_digest_89 : decode cX1_digest 89 = .ok (.iastore, 1) := by decide +kernel
theorem dX1_digest_90 : decode cX1_digest 90 = .ok (.dup, 1) := by decide +kernel
theorem dX1_digest_91 : decode cX1_digest 91 = .ok (.bipush 9, 2) := by decide +kernel
theorem dX1_digest_93 : decode cX1_digest 93 = .ok (.aload_n 0, 1) := by decide +kernel
theorem dX1_digest_94 : decode cX1_digest 94 = .ok (.getfield 130, 3) := by decide +kernel
theorem dX1_digest_97 : decode cX1_digest 97 = .ok (.iastore, 1) := by decide +kernel
theorem dX1_digest_98 : decode cX1_digest 98 = .ok (.astore_n 1, 1) := by decide +kernel
theorem dX1_digest_99 : decode cX1_digest 99 = .ok (.ldc2_w 139, 3) := by decide +kernel
theorem dX1_digest_102 : decode cX1_digest 102 = .ok (.lstore_n 2, 1) := by decide +kernel
theorem dX1_digest_103 : decode cX1_digest 103 = .ok (.aload_n 1, 1) := by decide +kernel
theorem dX1_digest_104 : decode cX1_digest 104 = .ok (.astore 4, 2) := by decide +kernel
theorem dX1_digest_106 : decode cX1_digest 106 = .ok (.aload 4, 2) := by decide +kernel
theorem dX1_digest_108 : decode cX1_digest 108 = .ok (.arraylength, 1) := by decide +kernel
theorem dX1_digest_109 : decode cX1_digest 109 = .ok (.istore 5, 2) := by decide +kernel
theorem dX1_digest_111 : decode cX1_digest 111 = .ok (.iconst 0, 1) := by decide +kernel
theorem dX1_digest_112 : decode cX1_digest 112 = .ok (.istore 6, 2) := by decide +kernel
theorem dX1_digest_114 : decode cX1_digest 114 = .ok (.iload 6, 2) := by decide +kernel
theorem dX1_digest_116 : decode cX1_digest 116 = .ok (.iload 5, 2) := by decide +kernel
theorem dX1_digest_118 : decode cX1_digest 118 = .ok (.if_icmp .ge 26, 3) := by decide +kernel
theorem dX1_digest_121 : decode cX1_digest 121 = .ok (.aload 4, 2) := by decide +kernel
theorem dX1_digest_123 : decode cX1_digest 123 = .ok (.iload 6, 2) := by decide +kernel
theorem dX1_digest_125 : decode cX1_digest 125 = .ok (.iaload, 1) := by decide +kernel
theorem dX1_digest_126 : decode cX1_digest 126 = .ok (.istore 7, 2) := by decide +kernel
theorem dX1_digest_128 : decode cX1_digest 128 = .ok (.lload_n 2, 1) := by decide +kernel
theorem dX1_digest_129 : decode cX1_digest 129 = .ok (.ldc2_w 141, 3) := by decide +kernel
theorem dX1_digest_132 : decode cX1_digest 132 = .ok (.lmul, 1) := by decide +kernel
theorem dX1_digest_133 : decode cX1_digest 133 = .ok (.iload 7, 2) := by decide +kernel
theorem dX1_digest_135 : decode cX1_digest 135 = .ok (.i2l, 1) := by decide +kernel
theorem dX1_digest_136 : decode cX1_digest 136 = .ok (.ladd, 1) := by decide +kernel
theorem dX1_digest_137 : decode cX1_digest 137 = .ok (.lstore_n 2, 1) := by decide +kernel
theorem dX1_digest_138 : decode cX1_digest 138 = .ok (.iinc 6 1, 3) := by decide +kernel
theorem dX1_digest_141 : decode cX1_digest 141 = .ok (.goto (-27), 3) := by decide +kernel
theorem dX1_digest_144 : decode cX1_digest 144 = .ok (.iconst 0, 1) := by decide +kernel
theorem dX1_digest_145 : decode cX1_digest 145 = .ok (.istore 4, 2) := by decide +kernel
theorem dX1_digest_147 : decode cX1_digest 147 = .ok (.iload 4, 2) := by decide +kernel
theorem dX1_digest_149 : decode cX1_digest 149 = .ok (.aload_n 0, 1) := by decide +kernel
theorem dX1_digest_150 : decode cX1_digest 150 = .ok (.getfield 48, 3) := by decide +kernel
theorem dX1_digest_153 : decode cX1_digest 153 = .ok (.if_icmp .ge 57, 3) := by decide +kernel
theorem dX1_digest_156 : decode cX1_digest 156 = .ok (.lload_n 2, 1) := by decide +kernel
theorem dX1_digest_157 : decode cX1_digest 157 = .ok (.ldc2_w 141, 3) := by decide +kernel
theorem dX1_digest_160 : decode cX1_digest 160 = .ok (.lmul, 1) := by decide +kernel
theorem dX1_digest_161 : decode cX1_digest 161 = .ok (.aload_n 0, 1) := by decide +kernel
theorem dX1_digest_162 : decode cX1_digest 162 = .ok (.getfield 19, 3) := by decide +kernel
theorem dX1_digest_165 : decode cX1_digest 165 = .ok (.iload 4, 2) := by decide +kernel
theorem dX1_digest_167 : decode cX1_digest 167 = .ok (.iaload, 1) := by decide +kernel
theorem dX1_digest_168 : decode cX1_digest 168 = .ok (.i2l, 1) := by decide +kernel
theorem dX1_digest_169 : decode cX1_digest 169 = .ok (.ladd, 1) := by decide +kernel
theorem dX1_digest_170 : decode cX1_digest 170 = .ok (.lstore_n 2, 1) := by decide +kernel
theorem dX1_digest_171 : decode cX1_digest 171 = .ok (.lload_n 2, 1) := by decide +kernel
theorem dX1_digest_172 : decode cX1_digest 172 = .ok (.ldc2_w 141, 3) := by decide +kernel
theorem dX1_digest_175 : decode cX1_digest 175 = .ok (.lmul, 1) := by decide +kernel
theorem dX1_digest_176 : decode cX1_digest 176 = .ok (.aload_n 0, 1) := by decide +kernel
theorem dX1_digest_177 : decode cX1_digest 177 = .ok (.aload_n 0, 1) := by decide +kernel
theorem dX1_digest_178 : decode cX1_digest 178 = .ok (.getfield 19, 3) := by decide +kernel
theorem dX1_digest_181 : decode cX1_digest 181 = .ok (.iload 4, 2) := by decide +kernel
theorem dX1_digest_183 : decode cX1_digest 183 = .ok (.iaload, 1) := by decide +kernel
theorem dX1_digest_184 : decode cX1_digest 184 = .ok (.invokevirtual 68, 3) := by decide +kernel
theorem dX1_digest_187 : decode cX1_digest 187 = .ok (.i2l, 1) := by decide +kernel
theorem dX1_digest_188 : decode cX1_digest 188 = .ok (.ladd, 1) := by decide +kernel
theorem dX1_digest_189 : decode cX1_digest 189 = .ok (.lstore_n 2, 1) := by decide +kernel
theorem dX1_digest_190 : decode cX1_digest 190 = .ok (.lload_n 2, 1) := by decide +kernel
theorem dX1_digest_191 : decode cX1_digest 191 = .ok (.ldc2_w 141, 3) := by decide +kernel
theorem dX1_digest_194 : decode cX1_digest 194 = .ok (.lmul, 1) := by decide +kernel
theorem dX1_digest_195 : decode cX1_digest 195 = .ok (.aload_n 0, 1) := by decide +kernel
theorem dX1_digest_196 : decode cX1_digest 196 = .ok (.iload 4, 2) := by decide +kernel
theorem dX1_digest_198 : decode cX1_digest 198 = .ok (.invokevirtual 136, 3) := by decide +kernel
theorem dX1_digest_201 : decode cX1_digest 201 = .ok (.i2l, 1) := by decide +kernel
theorem dX1_digest_202 : decode cX1_digest 202 = .ok (.ladd, 1) := by decide +kernel
theorem dX1_digest_203 : decode cX1_digest 203 = .ok (.lstore_n 2, 1) := by decide +kernel
theorem dX1_digest_204 : decode cX1_digest 204 = .ok (.iinc 4 1, 3) := by decide +kernel
theorem dX1_digest_207 : decode cX1_digest 207 = .ok (.goto (-60), 3) := by decide +kernel
theorem dX1_digest_210 : decode cX1_digest 210 = .ok (.iconst 0, 1) := by decide +kernel
theorem dX1_digest_211 : decode cX1_digest 211 = .ok (.istore 4, 2) := by decide +kernel
theorem dX1_digest_213 : decode cX1_digest 213 = .ok (.iload 4, 2) := by decide +kernel
theorem dX1_digest_215 : decode cX1_digest 215 = .ok (.aload_n 0, 1) := by decide +kernel
theorem dX1_digest_216 : decode cX1_digest 216 = .ok (.getfield 55, 3) := by decide +kernel
theorem dX1_digest_219 : decode cX1_digest 219 = .ok (.if_icmp .ge 85, 3) := by decide +kernel
theorem dX1_digest_222 : decode cX1_digest 222 = .ok (.lload_n 2, 1) := by decide +kernel
theorem dX1_digest_223 : decode cX1_digest 223 = .ok (.ldc2_w 141, 3) := by decide +kernel
theorem dX1_digest_226 : decode cX1_digest 226 = .ok (.lmul, 1) := by decide +kernel
theorem dX1_digest_227 : decode cX1_digest 227 = .ok (.aload_n 0, 1) := by decide +kernel
theorem dX1_digest_228 : decode cX1_digest 228 = .ok (.getfield 29, 3) := by decide +kernel
theorem dX1_digest_231 : decode cX1_digest 231 = .ok (.iload 4, 2) := by decide +kernel
theorem dX1_digest_233 : decode cX1_digest 233 = .ok (.iaload, 1) := by decide +kernel
theorem dX1_digest_234 : decode cX1_digest 234 = .ok (.i2l, 1) := by decide +kernel
theorem dX1_digest_235 : decode cX1_digest 235 = .ok (.ladd, 1) := by decide +kernel
theorem dX1_digest_236 : decode cX1_digest 236 = .ok (.lstore_n 2, 1) := by decide +kernel
theorem dX1_digest_237 : decode cX1_digest 237 = .ok (.lload_n 2, 1) := by decide +kernel
theorem dX1_digest_238 : decode cX1_digest 238 = .ok (.ldc2_w 141, 3) := by decide +kernel
theorem dX1_digest_241 : decode cX1_digest 241 = .ok (.lmul, 1) := by decide +kernel
theorem dX1_digest_242 : decode cX1_digest 242 = .ok (.aload_n 0, 1) := by decide +kernel
theorem dX1_digest_243 : decode cX1_digest 243 = .ok (.getfield 32, 3) := by decide +kernel
theorem dX1_digest_246 : decode cX1_digest 246 = .ok (.iload 4, 2) := by decide +kernel
theorem dX1_digest_248 : decode cX1_digest 248 = .ok (.baload, 1) := by decide +kernel
theorem dX1_digest_249 : decode cX1_digest 249 = .ok (.ifCond .eq 7, 3) := by decide +kernel
theorem dX1_digest_252 : decode cX1_digest 252 = .ok (.iconst 1, 1) := by decide +kernel
theorem dX1_digest_253 : decode cX1_digest 253 = .ok (.goto 4, 3) := by decide +kernel
theorem dX1_digest_256 : decode cX1_digest 256 = .ok (.iconst 0, 1) := by decide +kernel
theorem dX1_digest_257 : decode cX1_digest 257 = .ok (.i2l, 1) := by decide +kernel
theorem dX1_digest_258 : decode cX1_digest 258 = .ok (.ladd, 1) := by decide +kernel
theorem dX1_digest_259 : decode cX1_digest 259 = .ok (.lstore_n 2, 1) := by decide +kernel
theorem dX1_digest_260 : decode cX1_digest 260 = .ok (.lload_n 2, 1) := by decide +kernel
theorem dX1_digest_261 : decode cX1_digest 261 = .ok (.ldc2_w 141, 3) := by decide +kernel
theorem dX1_digest_264 : decode cX1_digest 264 = .ok (.lmul, 1) := by decide +kernel
theorem dX1_digest_265 : decode cX1_digest 265 = .ok (.aload_n 0, 1) := by decide +kernel
theorem dX1_digest_266 : decode cX1_digest 266 = .ok (.getfield 39, 3) := by decide +kernel
theorem dX1_digest_269 : decode cX1_digest 269 = .ok (.iload 4, 2) := by decide +kernel
theorem dX1_digest_271 : decode cX1_digest 271 = .ok (.iaload, 1) := by decide +kernel
theorem dX1_digest_272 : decode cX1_digest 272 = .ok (.i2l, 1) := by decide +kernel
theorem dX1_digest_273 : decode cX1_digest 273 = .ok (.ladd, 1) := by decide +kernel
theorem dX1_digest_274 : decode cX1_digest 274 = .ok (.lstore_n 2, 1) := by decide +kernel
theorem dX1_digest_275 : decode cX1_digest 275 = .ok (.lload_n 2, 1) := by decide +kernel
theorem dX1_digest_276 : decode cX1_digest 276 = .ok (.ldc2_w 141, 3) := by decide +kernel
theorem dX1_digest_279 : decode cX1_digest 279 = .ok (.lmul, 1) := by decide +kernel
theorem dX1_digest_280 : decode cX1_digest 280 = .ok (.aload_n 0, 1) := by decide +kernel
theorem dX1_digest_281 : decode cX1_digest 281 = .ok (.getfield 42, 3) := by decide +kernel
theorem dX1_digest_284 : decode cX1_digest 284 = .ok (.iload 4, 2) := by decide +kernel
theorem dX1_digest_286 : decode cX1_digest 286 = .ok (.baload, 1) := by decide +kernel
theorem dX1_digest_287 : decode cX1_digest 287 = .ok (.ifCond .eq 7, 3) := by decide +kernel
theorem dX1_digest_290 : decode cX1_digest 290 = .ok (.iconst 1, 1) := by decide +kernel
theorem dX1_digest_291 : decode cX1_digest 291 = .ok (.goto 4, 3) := by decide +kernel
theorem dX1_digest_294 : decode cX1_digest 294 = .ok (.iconst 0, 1) := by decide +kernel
theorem dX1_digest_295 : decode cX1_digest 295 = .ok (.i2l, 1) := by decide +kernel
theorem dX1_digest_296 : decode cX1_digest 296 = .ok (.ladd, 1) := by decide +kernel
theorem dX1_digest_297 : decode cX1_digest 297 = .ok (.lstore_n 2, 1) := by decide +kernel
theorem dX1_digest_298 : decode cX1_digest 298 = .ok (.iinc 4 1, 3) := by decide +kernel
theorem dX1_digest_301 : decode cX1_digest 301 = .ok (.goto (-88), 3) := by decide +kernel
theorem dX1_digest_304 : decode cX1_digest 304 = .ok (.lload_n 2, 1) := by decide +kernel
theorem dX1_digest_305 : decode cX1_digest 305 = .ok (.lreturn, 1) := by decide +kernel
end
section
abbrev vwCl : List vw_C := [(RX0, TX0, 18), (RX1, TX1, 16)]
/-! ONE WORLD: the class's object and arrays, the reference's, the law's out; the context of a walk as one tuple E; the kit's rows over them. σ: the objects' numbers by code (class: slot, reference: 20 + slot), τ: the arrays by code, o: out; ad 100, 101, 102: object, reference, out. -/
abbrev gS : Type := Nat → Int32
abbrev gT : Type := Nat → Nat → Int32
abbrev gO : Type := Nat → Int64
/-- D, addresses, class of int[], boolean[], long[] -/
abbrev gG : Type := va_G × (Nat → Nat) × Nat × Nat × Nat
def z0 : gS := fun _ => 0
def zT : gT := fun _ _ => 0
def zO : gO := fun _ => 0
/-- an array's entry put anew -/
def uT (τ : gT) (c i : Nat) (x : Int32) : gT := fun a => if a = c then upd (τ a) i x else τ a
/-- an array put anew -/
def uA1 (τ : gT) (c : Nat) (f : Nat → Int32) : gT := fun a => if a = c then f else τ a
def uS (σ : gS) (c : Nat) (x : Int32) : gS := fun a => if a = c then x else σ a
def wW (Γ : gG) (σ : gS) (τ : gT) (o : gO) : va_W := [(Γ.2.1 100, .inr (0, [.ref (Γ.2.1 0), .ref (Γ.2.1 1), .ref (Γ.2.1 2), .int (σ 3), .int (σ 4), .int (σ 5), .int (σ 6), .ref (Γ.2.1 7), .ref (Γ.2.1 8), .int (σ 9), .int (σ 10), .int (σ 11), .ref (Γ.2.1 12), .ref (Γ.2.1 13), .ref (Γ.2.1 14), .ref (Γ.2.1 15), .ref (Γ.2.1 16), .ref (Γ.2.1 17)])), (Γ.2.1 0, .inl (Γ.2.2.1, 12, .inl (τ 0))), (Γ.2.1 1, .inl (Γ.2.2.1, 12, .inl (τ 1))), (Γ.2.1 2, .inl (Γ.2.2.1, 12, .inl (τ 2))), (Γ.2.1 7, .inl (Γ.2.2.1, 16, .inl (τ 7))), (Γ.2.1 8, .inl (Γ.2.2.2.1, 16, .inl (τ 8))), (Γ.2.1 12, .inl (Γ.2.2.1, 16, .inl (τ 12))), (Γ.2.1 13, .inl (Γ.2.2.1, 16, .inl (τ 13))), (Γ.2.1 14, .inl (Γ.2.2.1, 16, .inl (τ 14))), (Γ.2.1 15, .inl (Γ.2.2.1, 18, .inl (τ 15))), (Γ.2.1 16, .inl (Γ.2.2.1, 16, .inl (τ 16))), (Γ.2.1 17, .inl (Γ.2.2.2.1, 16, .inl (τ 17))), (Γ.2.1 101, .inr (1, [.int (σ 20), .int (σ 21), .int (σ 22), .int (σ 23), .int (σ 24), .int (σ 25), .int (σ 26), .ref (Γ.2.1 27), .ref (Γ.2.1 28), .ref (Γ.2.1 29), .int (σ 30), .ref (Γ.2.1 31), .ref (Γ.2.1 32), .ref (Γ.2.1 33), .ref (Γ.2.1 34), .ref (Γ.2.1 35)])), (Γ.2.1 27, .inl (Γ.2.2.1, 12, .inl (τ 27))), (Γ.2.1 28, .inl (Γ.2.2.1, 12, .inl (τ 28))), (Γ.2.1 29, .inl (Γ.2.2.1, 12, .inl (τ 29))), (Γ.2.1 31, .inl (Γ.2.2.1, 16, .inl (τ 31))), (Γ.2.1 32, .inl (Γ.2.2.2.1, 16, .inl (τ 32))), (Γ.2.1 33, .inl (Γ.2.2.1, 18, .inl (τ 33))), (Γ.2.1 34, .inl (Γ.2.2.1, 16, .inl (τ 34))), (Γ.2.1 35, .inl (Γ.2.2.2.1, 16, .inl (τ 35))), (Γ.2.1 102, .inl (Γ.2.2.2.2, 1, .inr (.inl o)))]
/-- the place of an array in the world, its length -/
def gAp : Nat → Nat
  | 0 => 1
  | 1 => 2
  | 2 => 3
  | 7 => 4
  | 8 => 5
  | 12 => 6
  | 13 => 7
  | 14 => 8
  | 15 => 9
  | 16 => 10
  | 17 => 11
  | 27 => 13
  | 28 => 14
  | 29 => 15
  | 31 => 16
  | 32 => 17
  | 33 => 18
  | 34 => 19
  | 35 => 20
  | _ => 99
def gAl : Nat → Nat
  | 0 => 12
  | 1 => 12
  | 2 => 12
  | 7 => 16
  | 8 => 16
  | 12 => 16
  | 13 => 16
  | 14 => 16
  | 15 => 18
  | 16 => 16
  | 17 => 16
  | 27 => 12
  | 28 => 12
  | 29 => 12
  | 31 => 16
  | 32 => 16
  | 33 => 18
  | 34 => 16
  | 35 => 16
  | _ => 0
abbrev gTy (Γ : gG) : List (ClassId × FieldType) := [(Γ.2.2.1, .int), (Γ.2.2.2.1, .boolean), (Γ.2.2.2.2, .long)]
def BW (Γ : gG) (σ : gS) (τ : gT) (o : gO) (t : State) : Prop := va_P Γ.1 vwCl (wW Γ σ τ o) t.heap ∧ va_K Γ.1 vwCl (gTy Γ) t
/-- what a method may change: the world, and what is new -/
def uAd (Γ : gG) (sz : Nat) : Nat → Prop := va_A (wW Γ z0 zT zO) sz
theorem uD_map {A : Nat → Prop} {w1 w2 : va_W} (h : va_D A w1) (e : w1.map Prod.fst = w2.map Prod.fst) : va_D A w2 := by
  have key : ∀ (k : Nat) (q : Nat × va_E), w2[k]? = some q → ∃ q0, w1[k]? = some q0 ∧ q0.1 = q.1 := by
    intro k q hk
    have h1 : (w2.map Prod.fst)[k]? = some q.1 := by rw [List.getElem?_map, hk]; rfl
    rw [← e, List.getElem?_map] at h1
    cases h2 : w1[k]? with
    | none => rw [h2] at h1; cases h1
    | some q0 => rw [h2] at h1; exact ⟨q0, rfl, Option.some.inj h1⟩
  refine ⟨fun i j p q hi hj hpq => ?_, fun k q hk => ?_⟩
  · obtain ⟨p0, h1, h2⟩ := key i p hi
    obtain ⟨q0, h3, h4⟩ := key j q hj
    exact h.1 i j p0 q0 h1 h3 (h2.trans (hpq.trans h4.symm))
  · obtain ⟨q0, h1, h2⟩ := key k q hk
    rw [← h2]
    exact h.2 k q0 h1
theorem uD_any {A : Nat → Prop} {Γ : gG} {σ σ' : gS} {τ τ' : gT} {o o' : gO} (h : va_D A (wW Γ σ τ o)) : va_D A (wW Γ σ' τ' o') := uD_map h rfl
theorem uA_any {Γ : gG} {σ σ' : gS} {τ τ' : gT} {o o' : gO} {sz q : Nat} (h : va_A (wW Γ σ τ o) sz q) : va_A (wW Γ σ' τ' o') sz q := by
  rcases h with ⟨k, e, h⟩ | h
  · have h1 : ((wW Γ σ τ o).map Prod.fst)[k]? = some q := by rw [List.getElem?_map, h]; rfl
    have h2 : (wW Γ σ τ o).map Prod.fst = (wW Γ σ' τ' o').map Prod.fst := rfl
    rw [h2, List.getElem?_map] at h1
    cases h3 : (wW Γ σ' τ' o')[k]? with
    | none => rw [h3] at h1; cases h1
    | some q0 =>
      rw [h3] at h1
      obtain ⟨q1, e1⟩ := q0
      cases h1
      exact Or.inl ⟨k, e1, h3⟩
  · exact Or.inr h
/-- the class's String constants -/
abbrev gK : List (Nat × String) := [(171, "there is no such word"), (68, "a word has 1 to 30 letters"), (75, "there are 12 words"), (82, "a word stands for itself anyway"), (88, "the limit is 3 to 15 letters"), (90, "the least count is 0 to 20"), (92, "the coins for each are 1 to 50"), (94, "the telegram has 16 words"), (173, "there is no such place"), (103, "these places may not be joined"), (135, "the zones are 0 to 3"), (116, "the telegram has no word")]
/-- what is thrown, and whose constructors the chain of supers declares -/
abbrev gXc : List String := ["java/lang/IndexOutOfBoundsException", "java/lang/IllegalArgumentException", "java/lang/IllegalStateException"]
abbrev gDc : List MethodName := [Bundle.initS "java/lang/RuntimeException", Bundle.initS "java/lang/Exception", Bundle.initS Bundle.tN]
/-- what a throw asks of the start: two statics of Throwable outside the world, the String constants -/
def uZ (A : Nat → Prop) (U : State) (H : Heap) : Prop := vx_Zq Bundle.tN "UNASSIGNED_STACK" Bundle.steD A U H ∧ vx_Zq Bundle.tN "SUPPRESSED_SENTINEL" Bundle.listD A U H ∧ (∀ q ∈ gK, ∃ sa, vk_R RX0 q.1 q.2 sa U) ∧ (∀ X ∈ gXc, va_Nw (.castable X X) U) ∧ ∀ x ∈ gDc, va_Nw (.declares x) U
/-- the context: program, launch, env, room, start, method, arguments, frames below, method, code, Γ, A, Q -/
abbrev gE : Type := Program × Launch × Env × Room × State × MethodId × Array Value × List Frame × Method × Code × gG × (Nat → Prop) × (State → Prop)
abbrev eP (E : gE) : Program := E.1
abbrev eL (E : gE) : Launch := E.2.1
abbrev eE (E : gE) : Env := E.2.2.1
abbrev eR (E : gE) : Room := E.2.2.2.1
abbrev eS (E : gE) : State := E.2.2.2.2.1
abbrev eM (E : gE) : MethodId := E.2.2.2.2.2.1
abbrev eV (E : gE) : Array Value := E.2.2.2.2.2.2.1
abbrev eB (E : gE) : List Frame := E.2.2.2.2.2.2.2.1
abbrev eMt (E : gE) : Method := E.2.2.2.2.2.2.2.2.1
abbrev eC (E : gE) : Code := E.2.2.2.2.2.2.2.2.2.1
abbrev eG (E : gE) : gG := E.2.2.2.2.2.2.2.2.2.2.1
abbrev eA (E : gE) : Nat → Prop := E.2.2.2.2.2.2.2.2.2.2.2.1
abbrev eQ (E : gE) : State → Prop := E.2.2.2.2.2.2.2.2.2.2.2.2
def G (E : gE) (k n pc : Nat) (lv : List (Nat × Value)) (st : List Value) (σ : gS) (τ : gT) (o : gO) : Prop :=
  ∀ (H : Heap) (locs : List Loc) (ls : Array Slot), va_P (eG E).1 vwCl (wW (eG E) σ τ o) H → va_S (eA E) (eS E).heap H locs → lv_has ls (eC E).maxLocals lv →
    W (eP E) (eL E) (eE E) (eR E) (eS E) (eM E) (eV E) (eB E) (eMt E) (eC E) H locs k n (eQ E) (F0 (eM E) pc ls st)
/-- an exception of class X flies here -/
def GX (E : gE) (k n pc : Nat) (lv : List (Nat × Value)) (st : List Value) (σ : gS) (τ : gT) (o : gO) (X : String) : Prop :=
  ∀ (H : Heap) (locs : List Loc) (ls : Array Slot) (q : Addr) (ce : Cell), va_P (eG E).1 vwCl (wW (eG E) σ τ o) H → va_S (eA E) (eS E).heap H locs → lv_has ls (eC E).maxLocals lv → H[q]? = some ce → ce.vm = .none → (eS E).vm.findClass X = some ce.cls →
    vx_W (eP E) (eL E) (eE E) (eR E) (eS E) (eM E) (eV E) (eB E) (eMt E) (eC E) H locs k n (eQ E) (F0 (eM E) pc ls st) q
/-- what stands all along a method -/
def gC (E : gE) (cc : ByteArray) (nL : Nat) (own : String) (ws : List Cond) : Prop :=
  (eP E).tables.exec = Jvm.exec ∧ (eC E).code = cc ∧ (eC E).maxLocals = nL ∧ (eS E).vm.findClass own = some (eM E).cls ∧ (∀ w ∈ ws, w.before (eV E) (eS E) = true) ∧
  va_K (eG E).1 vwCl (gTy (eG E)) (eS E) ∧ (∀ q : Nat, (eS E).heap.size ≤ q → eA E q) ∧ va_D (eA E) (wW (eG E) z0 zT zO) ∧ uZ (eA E) (eS E) (eS E).heap ∧ (eL E).stackTraces = false
abbrev gPost : Type := Option Value → gS → gT → gO → Prop
abbrev gPX : Type := String → gS → gT → gO → Prop
def uQ (Γ : gG) (A : Nat → Prop) (post : gPost) : Array Value → State → Outcome → State → Prop := fun _ st oc t => (∃ (v : Option Value) (σ : gS) (τ : gT) (o : gO), oc = .returned v ∧ post v σ τ o ∧ BW Γ σ τ o t) ∧ va_F A st t
def uX (Γ : gG) (A : Nat → Prop) (px : gPX) : String → State → State → Prop := fun X st t => (∃ (σ : gS) (τ : gT) (o : gO), px X σ τ o ∧ BW Γ σ τ o t) ∧ va_F A st t
def noX : gPX := fun _ _ _ _ => False
/-- the end of a method: what it owes -/
def gF (E : gE) (post : gPost) (px : gPX) (mc ms : Nat) (ret : Option FieldType) : Prop :=
  eQ E = vx_MQ (eB E) (uQ (eG E) (eA E) post) (uX (eG E) (eA E) px) (eV E) (eS E) mc ms (eA E) ∧ (eMt E).locks = false ∧ (eMt E).sig.returnType = ret
def pI (P : Int32 → gS → gT → gO → Prop) : gPost := fun v σ τ o => ∃ r, v = some (.int r) ∧ P r σ τ o
def pJ (P : Int64 → gS → gT → gO → Prop) : gPost := fun v σ τ o => ∃ r, v = some (.long r) ∧ P r σ τ o
def pD (P : UInt64 → gS → gT → gO → Prop) : gPost := fun v σ τ o => ∃ r, v = some (.double r) ∧ P r σ τ o
def pV (P : gS → gT → gO → Prop) : gPost := fun v σ τ o => v = none ∧ P σ τ o
def uP (Γ : gG) (sz : Nat) (σ : gS) (τ : gT) (o : gO) (U : State) : Prop := U.heap.size = sz ∧ BW Γ σ τ o U ∧ va_D (fun _ => True) (wW Γ z0 zT zO) ∧ uZ (uAd Γ sz) U U.heap
/-- a method's contract: from the world σ τ o, with the arguments As, it returns as post says, or throws as px says -/
def Ct (l : Launch) (y : MethodName) (ws : List Cond) (fr lo mc ms : Nat) (As : List Value) (Γ : gG) (σ : gS) (τ : gT) (o : gO) (post : gPost) (px : gPX) : Prop :=
  ∀ sz : Nat, vx_Met l y ws { frames := fr, cells := mc, slots := ms, locals := lo } (va_Pc As (uP Γ sz σ τ o)) (uQ Γ (uAd Γ sz) post) (uX Γ (uAd Γ sz) px) mc ms (uAd Γ sz)
/-- a local by its number -/
def lvg : List (Nat × Value) → Nat → Option Value
  | [], _ => none
  | (j, v) :: l, i => bif Nat.beq j i then some v else lvg l i
theorem lvg_at {ls : Array Slot} {nL : Nat} : ∀ {lv : List (Nat × Value)} {i : Nat} {v : Value}, lv_has ls nL lv → lvg lv i = some v → ls[i]? = some (.val v)
  | [], _, _, _, h => by cases h
  | (j, u) :: l, i, v, hl, h => by
    cases hb : Nat.beq j i with
    | true =>
      have e : j = i := Nat.eq_of_beq_eq_true hb
      subst e
      simp only [lvg, hb, cond_true] at h
      cases h
      exact hl.2.2 (j, _) List.mem_cons_self
    | false =>
      simp only [lvg, hb, cond_false] at h
      exact lvg_at ⟨hl.1, hl.2.1, fun q hq => hl.2.2 q (List.mem_cons_of_mem _ hq)⟩ h
theorem lvg_mem : ∀ {lv : List (Nat × Value)} {i : Nat} {v : Value}, lvg lv i = some v → (i, v) ∈ lv
  | [], _, _, h => by cases h
  | (j, u) :: l, i, v, h => by
    cases hb : Nat.beq j i with
    | true =>
      have e : j = i := Nat.eq_of_beq_eq_true hb
      subst e
      simp only [lvg, hb, cond_true] at h
      cases h
      exact List.mem_cons_self
    | false =>
      simp only [lvg, hb, cond_false] at h
      exact List.mem_cons_of_mem _ (lvg_mem h)
section GR
variable {E : gE} {cc : ByteArray} {nL : Nat} {own : String} {ws : List Cond} {k n pc : Nat} {lv : List (Nat × Value)} {st : List Value} {σ : gS} {τ : gT} {o : gO}
theorem g_iconst (C : gC E cc nL own ws) {m : Int} {v : Int32} (d : decode cc pc = .ok (.iconst m, 1)) (hv : Int32.ofInt m = v) (kk : G E k n (pc + 1) lv (.int v :: st) σ τ o) : G E k n pc lv (st) σ τ o := fun H locs ls hP hS hl => lv_iconst C.1 C.2.1 d hv (kk H locs ls hP hS hl)
theorem g_bipush (C : gC E cc nL own ws) {m : Int} {v : Int32} (d : decode cc pc = .ok (.bipush m, 2)) (hv : (Int8.ofInt m).toInt32 = v) (kk : G E k n (pc + 2) lv (.int v :: st) σ τ o) : G E k n pc lv (st) σ τ o := fun H locs ls hP hS hl => lv_bipush C.1 C.2.1 d hv (kk H locs ls hP hS hl)
theorem g_lconst (C : gC E cc nL own ws) {m : Fin 2} {v : Int64} (d : decode cc pc = .ok (.lconst m, 1)) (hv : Int64.ofNat (m : Nat) = v) (kk : G E k n (pc + 1) lv (.long v :: st) σ τ o) : G E k n pc lv (st) σ τ o := fun H locs ls hP hS hl => lv_lconst C.1 C.2.1 d hv (kk H locs ls hP hS hl)
theorem g_dconst0 (C : gC E cc nL own ws)  (d : decode cc pc = .ok (.dconst 0, 1)) (kk : G E k n (pc + 1) lv (.double FP.dconst0 :: st) σ τ o) : G E k n pc lv (st) σ τ o := fun H locs ls hP hS hl => lv_dconst0 C.1 C.2.1 d (kk H locs ls hP hS hl)
theorem g_ldc (C : gC E cc nL own ws) {idx : Nat} {v : Int32} (d : decode cc pc = .ok (.ldc idx, 2)) (hw : Cond.constant own idx v ∈ ws) (kk : G E k n (pc + 2) lv (.int v :: st) σ τ o) : G E k n pc lv (st) σ τ o := fun H locs ls hP hS hl => lv_ldc C.1 C.2.1 C.2.2.2.1 (C.2.2.2.2.1 _ hw) d (kk H locs ls hP hS hl)
theorem g_ldcw (C : gC E cc nL own ws) {idx : Nat} {v : Int32} (d : decode cc pc = .ok (.ldc_w idx, 3)) (hw : Cond.constant own idx v ∈ ws) (kk : G E k n (pc + 3) lv (.int v :: st) σ τ o) : G E k n pc lv (st) σ τ o := fun H locs ls hP hS hl => lv_ldcw C.1 C.2.1 C.2.2.2.1 (C.2.2.2.2.1 _ hw) d (kk H locs ls hP hS hl)
theorem g_ldc2 (C : gC E cc nL own ws) {idx : Nat} {v : Int64} (d : decode cc pc = .ok (.ldc2_w idx, 3)) (hw : Cond.constantLong own idx v ∈ ws) (kk : G E k n (pc + 3) lv (.long v :: st) σ τ o) : G E k n pc lv (st) σ τ o := fun H locs ls hP hS hl => lv_ldc2 C.1 C.2.1 C.2.2.2.1 (C.2.2.2.2.1 _ hw) d (kk H locs ls hP hS hl)
theorem g_iload_n (C : gC E cc nL own ws) {j : Fin 4} {i : Nat} {x : Int32} (d : decode cc pc = .ok (.iload_n j, 1)) (hi : (j : Nat) = i) (h : lvg lv i = some (.int x)) (kk : G E k n (pc + 1) lv (.int x :: st) σ τ o) : G E k n pc lv (st) σ τ o := fun H locs ls hP hS hl => lv_iload_n C.1 C.2.1 d hi (lvg_at hl h) (kk H locs ls hP hS hl)
theorem g_iload (C : gC E cc nL own ws) {i : Nat} {x : Int32} (d : decode cc pc = .ok (.iload i, 2)) (h : lvg lv i = some (.int x)) (kk : G E k n (pc + 2) lv (.int x :: st) σ τ o) : G E k n pc lv (st) σ τ o := fun H locs ls hP hS hl => lv_iload C.1 C.2.1 d (lvg_at hl h) (kk H locs ls hP hS hl)
theorem g_istore_n (C : gC E cc nL own ws) {j : Fin 4} {i : Nat} {x : Int32} (lv' : List (Nat × Value)) (d : decode cc pc = .ok (.istore_n j, 1)) (hi : (j : Nat) = i) (hn : i < nL) (he : (i, Value.int x) :: lv.filter (fun q => !(q.1 == i) && !(q.1 + 1 == i && q.2.category == 2)) = lv') (kk : G E k n (pc + 1) lv' st σ τ o) : G E k n pc lv (.int x :: st) σ τ o := fun H locs ls hP hS hl => lv_istore_n C.1 C.2.1 d hi hl (by rw [C.2.2.1]; exact hn) he (fun ls' hl' => kk H locs ls' hP hS hl')
theorem g_istore (C : gC E cc nL own ws) {i : Nat} {x : Int32} (lv' : List (Nat × Value)) (d : decode cc pc = .ok (.istore i, 2)) (hn : i < nL) (he : (i, Value.int x) :: lv.filter (fun q => !(q.1 == i) && !(q.1 + 1 == i && q.2.category == 2)) = lv') (kk : G E k n (pc + 2) lv' st σ τ o) : G E k n pc lv (.int x :: st) σ τ o := fun H locs ls hP hS hl => lv_istore C.1 C.2.1 d hl (by rw [C.2.2.1]; exact hn) he (fun ls' hl' => kk H locs ls' hP hS hl')
theorem g_lload_n (C : gC E cc nL own ws) {j : Fin 4} {i : Nat} {x : Int64} (d : decode cc pc = .ok (.lload_n j, 1)) (hi : (j : Nat) = i) (h : lvg lv i = some (.long x)) (kk : G E k n (pc + 1) lv (.long x :: st) σ τ o) : G E k n pc lv (st) σ τ o := fun H locs ls hP hS hl => lv_lload_n C.1 C.2.1 d hi (lvg_at hl h) (kk H locs ls hP hS hl)
theorem g_lload (C : gC E cc nL own ws) {i : Nat} {x : Int64} (d : decode cc pc = .ok (.lload i, 2)) (h : lvg lv i = some (.long x)) (kk : G E k n (pc + 2) lv (.long x :: st) σ τ o) : G E k n pc lv (st) σ τ o := fun H locs ls hP hS hl => lv_lload C.1 C.2.1 d (lvg_at hl h) (kk H locs ls hP hS hl)
theorem g_lstore_n (C : gC E cc nL own ws) {j : Fin 4} {i : Nat} {x : Int64} (lv' : List (Nat × Value)) (d : decode cc pc = .ok (.lstore_n j, 1)) (hi : (j : Nat) = i) (hn : i + 1 < nL) (he : (i, Value.long x) :: lv.filter (fun q => !(q.1 == i) && (!(q.1 == i + 1) && !(q.1 + 1 == i && q.2.category == 2))) = lv') (kk : G E k n (pc + 1) lv' st σ τ o) : G E k n pc lv (.long x :: st) σ τ o := fun H locs ls hP hS hl => lv_lstore_n C.1 C.2.1 d hi hl (by rw [C.2.2.1]; exact hn) he (fun ls' hl' => kk H locs ls' hP hS hl')
theorem g_lstore (C : gC E cc nL own ws) {i : Nat} {x : Int64} (lv' : List (Nat × Value)) (d : decode cc pc = .ok (.lstore i, 2)) (hn : i + 1 < nL) (he : (i, Value.long x) :: lv.filter (fun q => !(q.1 == i) && (!(q.1 == i + 1) && !(q.1 + 1 == i && q.2.category == 2))) = lv') (kk : G E k n (pc + 2) lv' st σ τ o) : G E k n pc lv (.long x :: st) σ τ o := fun H locs ls hP hS hl => lv_lstore C.1 C.2.1 d hl (by rw [C.2.2.1]; exact hn) he (fun ls' hl' => kk H locs ls' hP hS hl')
theorem g_aload_n (C : gC E cc nL own ws) {j : Fin 4} {i : Nat} {x : Nat} (d : decode cc pc = .ok (.aload_n j, 1)) (hi : (j : Nat) = i) (h : lvg lv i = some (.ref x)) (kk : G E k n (pc + 1) lv (.ref x :: st) σ τ o) : G E k n pc lv (st) σ τ o := fun H locs ls hP hS hl => lv_aload_n C.1 C.2.1 d hi (lvg_at hl h) (kk H locs ls hP hS hl)
theorem g_aload (C : gC E cc nL own ws) {i : Nat} {x : Nat} (d : decode cc pc = .ok (.aload i, 2)) (h : lvg lv i = some (.ref x)) (kk : G E k n (pc + 2) lv (.ref x :: st) σ τ o) : G E k n pc lv (st) σ τ o := fun H locs ls hP hS hl => lv_aload C.1 C.2.1 d (lvg_at hl h) (kk H locs ls hP hS hl)
theorem g_astore_n (C : gC E cc nL own ws) {j : Fin 4} {i : Nat} {x : Nat} (lv' : List (Nat × Value)) (d : decode cc pc = .ok (.astore_n j, 1)) (hi : (j : Nat) = i) (hn : i < nL) (he : (i, Value.ref x) :: lv.filter (fun q => !(q.1 == i) && !(q.1 + 1 == i && q.2.category == 2)) = lv') (kk : G E k n (pc + 1) lv' st σ τ o) : G E k n pc lv (.ref x :: st) σ τ o := fun H locs ls hP hS hl => lv_astore_n C.1 C.2.1 d hi hl (by rw [C.2.2.1]; exact hn) he (fun ls' hl' => kk H locs ls' hP hS hl')
theorem g_astore (C : gC E cc nL own ws) {i : Nat} {x : Nat} (lv' : List (Nat × Value)) (d : decode cc pc = .ok (.astore i, 2)) (hn : i < nL) (he : (i, Value.ref x) :: lv.filter (fun q => !(q.1 == i) && !(q.1 + 1 == i && q.2.category == 2)) = lv') (kk : G E k n (pc + 2) lv' st σ τ o) : G E k n pc lv (.ref x :: st) σ τ o := fun H locs ls hP hS hl => lv_astore C.1 C.2.1 d hl (by rw [C.2.2.1]; exact hn) he (fun ls' hl' => kk H locs ls' hP hS hl')
theorem g_dload_n (C : gC E cc nL own ws) {j : Fin 4} {i : Nat} {x : UInt64} (d : decode cc pc = .ok (.dload_n j, 1)) (hi : (j : Nat) = i) (h : lvg lv i = some (.double x)) (kk : G E k n (pc + 1) lv (.double x :: st) σ τ o) : G E k n pc lv (st) σ τ o := fun H locs ls hP hS hl => lv_dload_n C.1 C.2.1 d hi (lvg_at hl h) (kk H locs ls hP hS hl)
theorem g_dload (C : gC E cc nL own ws) {i : Nat} {x : UInt64} (d : decode cc pc = .ok (.dload i, 2)) (h : lvg lv i = some (.double x)) (kk : G E k n (pc + 2) lv (.double x :: st) σ τ o) : G E k n pc lv (st) σ τ o := fun H locs ls hP hS hl => lv_dload C.1 C.2.1 d (lvg_at hl h) (kk H locs ls hP hS hl)
theorem g_dstore_n (C : gC E cc nL own ws) {j : Fin 4} {i : Nat} {x : UInt64} (lv' : List (Nat × Value)) (d : decode cc pc = .ok (.dstore_n j, 1)) (hi : (j : Nat) = i) (hn : i + 1 < nL) (he : (i, Value.double x) :: lv.filter (fun q => !(q.1 == i) && (!(q.1 == i + 1) && !(q.1 + 1 == i && q.2.category == 2))) = lv') (kk : G E k n (pc + 1) lv' st σ τ o) : G E k n pc lv (.double x :: st) σ τ o := fun H locs ls hP hS hl => lv_dstore_n C.1 C.2.1 d hi hl (by rw [C.2.2.1]; exact hn) he (fun ls' hl' => kk H locs ls' hP hS hl')
theorem g_dstore (C : gC E cc nL own ws) {i : Nat} {x : UInt64} (lv' : List (Nat × Value)) (d : decode cc pc = .ok (.dstore i, 2)) (hn : i + 1 < nL) (he : (i, Value.double x) :: lv.filter (fun q => !(q.1 == i) && (!(q.1 == i + 1) && !(q.1 + 1 == i && q.2.category == 2))) = lv') (kk : G E k n (pc + 2) lv' st σ τ o) : G E k n pc lv (.double x :: st) σ τ o := fun H locs ls hP hS hl => lv_dstore C.1 C.2.1 d hl (by rw [C.2.2.1]; exact hn) he (fun ls' hl' => kk H locs ls' hP hS hl')
theorem g_iinc (C : gC E cc nL own ws) {i : Nat} {m : Int} {x v : Int32} (j : Nat) (lv' : List (Nat × Value)) (d : decode cc pc = .ok (.iinc i m, 3)) (hj : lv[j]? = some (i, .int x)) (hv : x + Int32.ofInt m = v) (hn : i < nL) (he : (i, Value.int v) :: lv.filter (fun q => !(q.1 == i) && !(q.1 + 1 == i && q.2.category == 2)) = lv') (kk : G E k n (pc + 3) lv' st σ τ o) : G E k n pc lv st σ τ o := fun H locs ls hP hS hl => lv_iinc C.1 C.2.1 d hl hj hv (by rw [C.2.2.1]; exact hn) he (fun ls' hl' => kk H locs ls' hP hS hl')
/-- fewer locals, in another order -/
theorem g_lv (ks : List Nat) (lv' : List (Nat × Value)) (he : lv_pick lv ks = lv') (kk : G E k n pc lv' st σ τ o) : G E k n pc lv st σ τ o := fun H locs ls hP hS hl => kk H locs ls hP hS (lv_sub hl ks he)
theorem g_wide (k' n' : Nat) (h1 : k ≤ k') (h2 : n ≤ n') (kk : G E k' n' pc lv st σ τ o) : G E k n pc lv st σ τ o := fun H locs ls hP hS hl => W.widen h1 h2 (kk H locs ls hP hS hl)
theorem g_iadd (C : gC E cc nL own ws) {x y : Int32} (d : decode cc pc = .ok (.iadd, 1)) (kk : G E k n (pc + 1) lv (.int (x + y) :: st) σ τ o) : G E k n pc lv (.int y :: .int x :: st) σ τ o := fun H locs ls hP hS hl => lv_iadd C.1 C.2.1 d (kk H locs ls hP hS hl)
theorem g_isub (C : gC E cc nL own ws) {x y : Int32} (d : decode cc pc = .ok (.isub, 1)) (kk : G E k n (pc + 1) lv (.int (x - y) :: st) σ τ o) : G E k n pc lv (.int y :: .int x :: st) σ τ o := fun H locs ls hP hS hl => lv_isub C.1 C.2.1 d (kk H locs ls hP hS hl)
theorem g_imul (C : gC E cc nL own ws) {x y : Int32} (d : decode cc pc = .ok (.imul, 1)) (kk : G E k n (pc + 1) lv (.int (x * y) :: st) σ τ o) : G E k n pc lv (.int y :: .int x :: st) σ τ o := fun H locs ls hP hS hl => lv_imul C.1 C.2.1 d (kk H locs ls hP hS hl)
theorem g_iand (C : gC E cc nL own ws) {x y : Int32} (d : decode cc pc = .ok (.iand, 1)) (kk : G E k n (pc + 1) lv (.int (x &&& y) :: st) σ τ o) : G E k n pc lv (.int y :: .int x :: st) σ τ o := fun H locs ls hP hS hl => lv_iand C.1 C.2.1 d (kk H locs ls hP hS hl)
theorem g_ior (C : gC E cc nL own ws) {x y : Int32} (d : decode cc pc = .ok (.ior, 1)) (kk : G E k n (pc + 1) lv (.int (x ||| y) :: st) σ τ o) : G E k n pc lv (.int y :: .int x :: st) σ τ o := fun H locs ls hP hS hl => lv_ior C.1 C.2.1 d (kk H locs ls hP hS hl)
theorem g_ixor (C : gC E cc nL own ws) {x y : Int32} (d : decode cc pc = .ok (.ixor, 1)) (kk : G E k n (pc + 1) lv (.int (x ^^^ y) :: st) σ τ o) : G E k n pc lv (.int y :: .int x :: st) σ τ o := fun H locs ls hP hS hl => lv_ixor C.1 C.2.1 d (kk H locs ls hP hS hl)
theorem g_ishl (C : gC E cc nL own ws) {x y : Int32} (d : decode cc pc = .ok (.ishl, 1)) (kk : G E k n (pc + 1) lv (.int (x <<< (y &&& 31)) :: st) σ τ o) : G E k n pc lv (.int y :: .int x :: st) σ τ o := fun H locs ls hP hS hl => lv_ishl C.1 C.2.1 d (kk H locs ls hP hS hl)
theorem g_ishr (C : gC E cc nL own ws) {x y : Int32} (d : decode cc pc = .ok (.ishr, 1)) (kk : G E k n (pc + 1) lv (.int (x >>> (y &&& 31)) :: st) σ τ o) : G E k n pc lv (.int y :: .int x :: st) σ τ o := fun H locs ls hP hS hl => lv_ishr C.1 C.2.1 d (kk H locs ls hP hS hl)
theorem g_idiv (C : gC E cc nL own ws) {x y : Int32} (d : decode cc pc = .ok (.idiv, 1)) (hne : ¬ y = 0) (kk : G E k n (pc + 1) lv (.int (x / y) :: st) σ τ o) : G E k n pc lv (.int y :: .int x :: st) σ τ o := fun H locs ls hP hS hl => lv_idiv C.1 C.2.1 d hne (kk H locs ls hP hS hl)
theorem g_irem (C : gC E cc nL own ws) {x y : Int32} (d : decode cc pc = .ok (.irem, 1)) (hne : ¬ y = 0) (kk : G E k n (pc + 1) lv (.int (x - x / y * y) :: st) σ τ o) : G E k n pc lv (.int y :: .int x :: st) σ τ o := fun H locs ls hP hS hl => lv_irem C.1 C.2.1 d hne (kk H locs ls hP hS hl)
theorem g_iushr (C : gC E cc nL own ws) {x y v : Int32} (d : decode cc pc = .ok (.iushr, 1)) (hv : (x.toUInt32 >>> (y.toUInt32 &&& Int32.toUInt32 31)).toInt32 = v) (kk : G E k n (pc + 1) lv (.int v :: st) σ τ o) : G E k n pc lv (.int y :: .int x :: st) σ τ o := fun H locs ls hP hS hl => lv_iushr C.1 C.2.1 d hv (kk H locs ls hP hS hl)
theorem g_ladd (C : gC E cc nL own ws) {x y : Int64} (d : decode cc pc = .ok (.ladd, 1)) (kk : G E k n (pc + 1) lv (.long (x + y) :: st) σ τ o) : G E k n pc lv (.long y :: .long x :: st) σ τ o := fun H locs ls hP hS hl => lv_ladd C.1 C.2.1 d (kk H locs ls hP hS hl)
theorem g_lmul (C : gC E cc nL own ws) {x y : Int64} (d : decode cc pc = .ok (.lmul, 1)) (kk : G E k n (pc + 1) lv (.long (x * y) :: st) σ τ o) : G E k n pc lv (.long y :: .long x :: st) σ τ o := fun H locs ls hP hS hl => lv_lmul C.1 C.2.1 d (kk H locs ls hP hS hl)
theorem g_i2l (C : gC E cc nL own ws) {x : Int32} (d : decode cc pc = .ok (.i2l, 1)) (kk : G E k n (pc + 1) lv (.long x.toInt64 :: st) σ τ o) : G E k n pc lv (.int x :: st) σ τ o := fun H locs ls hP hS hl => lv_i2l C.1 C.2.1 d rfl (kk H locs ls hP hS hl)
theorem g_i2d (C : gC E cc nL own ws) {x : Int32} (d : decode cc pc = .ok (.i2d, 1)) (kk : G E k n (pc + 1) lv (.double (FP.i2d x) :: st) σ τ o) : G E k n pc lv (.int x :: st) σ τ o := fun H locs ls hP hS hl => lv_i2d C.1 C.2.1 d (kk H locs ls hP hS hl)
theorem g_ddiv (C : gC E cc nL own ws) {x y : UInt64} (d : decode cc pc = .ok (.ddiv, 1)) (hne : vf_n64 (FP.ddiv x y)) (kk : G E k n (pc + 1) lv (.double (FP.ddiv x y) :: st) σ τ o) : G E k n pc lv (.double y :: .double x :: st) σ τ o := fun H locs ls hP hS hl => lv_ddiv C.1 C.2.1 d hne (kk H locs ls hP hS hl)
theorem g_dcmp (C : gC E cc nL own ws) {x y : UInt64} {op : CmpOp} (d : decode cc pc = .ok (.dcmp op, 1)) (kk : G E k n (pc + 1) lv (.int (Op.cmpValue (FP.dcmp x y) op) :: st) σ τ o) : G E k n pc lv (.double y :: .double x :: st) σ τ o := fun H locs ls hP hS hl => lv_dcmp C.1 C.2.1 d (kk H locs ls hP hS hl)
theorem g_dup (C : gC E cc nL own ws) {v : Value} (d : decode cc pc = .ok (.dup, 1)) (hc : v.category = 1) (kk : G E k n (pc + 1) lv (v :: v :: st) σ τ o) : G E k n pc lv (v :: st) σ τ o := fun H locs ls hP hS hl => lv_dup C.1 C.2.1 d hc (kk H locs ls hP hS hl)
theorem g_pop (C : gC E cc nL own ws) {v : Value} (d : decode cc pc = .ok (.pop, 1)) (hc : v.category = 1) (kk : G E k n (pc + 1) lv (st) σ τ o) : G E k n pc lv (v :: st) σ τ o := fun H locs ls hP hS hl => lv_pop C.1 C.2.1 d hc (kk H locs ls hP hS hl)
theorem g_dup2 (C : gC E cc nL own ws) {u v : Value} (d : decode cc pc = .ok (.dup2, 1)) (hu : u.category = 1) (hc : v.category = 1) (kk : G E k n (pc + 1) lv (u :: v :: u :: v :: st) σ τ o) : G E k n pc lv (u :: v :: st) σ τ o := fun H locs ls hP hS hl => lv_dup2_11 C.1 C.2.1 d hu hc (kk H locs ls hP hS hl)
theorem g_if_eq (C : gC E cc nL own ws) {x : Int32} {off : Int} {tgt : Nat} (d : decode cc pc = .ok (.ifCond .eq off, 3)) (ht : (pc : Int) + off = (tgt : Int)) (kt : x = 0 → G E k n tgt lv st σ τ o) (kf : ¬ x = 0 → G E k n (pc + 3) lv st σ τ o) : G E k n pc lv (.int x :: st) σ τ o := fun H locs ls hP hS hl => lv_if_eq C.1 C.2.1 d ht (fun h => kt h H locs ls hP hS hl) (fun h => kf h H locs ls hP hS hl)
theorem g_if_ne (C : gC E cc nL own ws) {x : Int32} {off : Int} {tgt : Nat} (d : decode cc pc = .ok (.ifCond .ne off, 3)) (ht : (pc : Int) + off = (tgt : Int)) (kt : ¬ x = 0 → G E k n tgt lv st σ τ o) (kf : x = 0 → G E k n (pc + 3) lv st σ τ o) : G E k n pc lv (.int x :: st) σ τ o := fun H locs ls hP hS hl => lv_if_ne C.1 C.2.1 d ht (fun h => kt h H locs ls hP hS hl) (fun h => kf h H locs ls hP hS hl)
theorem g_if_lt (C : gC E cc nL own ws) {x : Int32} {off : Int} {tgt : Nat} (d : decode cc pc = .ok (.ifCond .lt off, 3)) (ht : (pc : Int) + off = (tgt : Int)) (kt : x < 0 → G E k n tgt lv st σ τ o) (kf : ¬ x < 0 → G E k n (pc + 3) lv st σ τ o) : G E k n pc lv (.int x :: st) σ τ o := fun H locs ls hP hS hl => lv_if_lt C.1 C.2.1 d ht (fun h => kt h H locs ls hP hS hl) (fun h => kf h H locs ls hP hS hl)
theorem g_if_ge (C : gC E cc nL own ws) {x : Int32} {off : Int} {tgt : Nat} (d : decode cc pc = .ok (.ifCond .ge off, 3)) (ht : (pc : Int) + off = (tgt : Int)) (kt : 0 ≤ x → G E k n tgt lv st σ τ o) (kf : ¬ 0 ≤ x → G E k n (pc + 3) lv st σ τ o) : G E k n pc lv (.int x :: st) σ τ o := fun H locs ls hP hS hl => lv_if_ge C.1 C.2.1 d ht (fun h => kt h H locs ls hP hS hl) (fun h => kf h H locs ls hP hS hl)
theorem g_if_gt (C : gC E cc nL own ws) {x : Int32} {off : Int} {tgt : Nat} (d : decode cc pc = .ok (.ifCond .gt off, 3)) (ht : (pc : Int) + off = (tgt : Int)) (kt : 0 < x → G E k n tgt lv st σ τ o) (kf : ¬ 0 < x → G E k n (pc + 3) lv st σ τ o) : G E k n pc lv (.int x :: st) σ τ o := fun H locs ls hP hS hl => lv_if_gt C.1 C.2.1 d ht (fun h => kt h H locs ls hP hS hl) (fun h => kf h H locs ls hP hS hl)
theorem g_if_le (C : gC E cc nL own ws) {x : Int32} {off : Int} {tgt : Nat} (d : decode cc pc = .ok (.ifCond .le off, 3)) (ht : (pc : Int) + off = (tgt : Int)) (kt : x ≤ 0 → G E k n tgt lv st σ τ o) (kf : ¬ x ≤ 0 → G E k n (pc + 3) lv st σ τ o) : G E k n pc lv (.int x :: st) σ τ o := fun H locs ls hP hS hl => lv_if_le C.1 C.2.1 d ht (fun h => kt h H locs ls hP hS hl) (fun h => kf h H locs ls hP hS hl)
theorem g_icmp_eq (C : gC E cc nL own ws) {x y : Int32} {off : Int} {tgt : Nat} (d : decode cc pc = .ok (.if_icmp .eq off, 3)) (ht : (pc : Int) + off = (tgt : Int)) (kt : x = y → G E k n tgt lv st σ τ o) (kf : ¬ x = y → G E k n (pc + 3) lv st σ τ o) : G E k n pc lv (.int y :: .int x :: st) σ τ o := fun H locs ls hP hS hl => lv_icmp_eq C.1 C.2.1 d ht (fun h => kt h H locs ls hP hS hl) (fun h => kf h H locs ls hP hS hl)
theorem g_icmp_ne (C : gC E cc nL own ws) {x y : Int32} {off : Int} {tgt : Nat} (d : decode cc pc = .ok (.if_icmp .ne off, 3)) (ht : (pc : Int) + off = (tgt : Int)) (kt : ¬ x = y → G E k n tgt lv st σ τ o) (kf : x = y → G E k n (pc + 3) lv st σ τ o) : G E k n pc lv (.int y :: .int x :: st) σ τ o := fun H locs ls hP hS hl => lv_icmp_ne C.1 C.2.1 d ht (fun h => kt h H locs ls hP hS hl) (fun h => kf h H locs ls hP hS hl)
theorem g_icmp_lt (C : gC E cc nL own ws) {x y : Int32} {off : Int} {tgt : Nat} (d : decode cc pc = .ok (.if_icmp .lt off, 3)) (ht : (pc : Int) + off = (tgt : Int)) (kt : x < y → G E k n tgt lv st σ τ o) (kf : ¬ x < y → G E k n (pc + 3) lv st σ τ o) : G E k n pc lv (.int y :: .int x :: st) σ τ o := fun H locs ls hP hS hl => lv_icmp_lt C.1 C.2.1 d ht (fun h => kt h H locs ls hP hS hl) (fun h => kf h H locs ls hP hS hl)
theorem g_icmp_ge (C : gC E cc nL own ws) {x y : Int32} {off : Int} {tgt : Nat} (d : decode cc pc = .ok (.if_icmp .ge off, 3)) (ht : (pc : Int) + off = (tgt : Int)) (kt : y ≤ x → G E k n tgt lv st σ τ o) (kf : ¬ y ≤ x → G E k n (pc + 3) lv st σ τ o) : G E k n pc lv (.int y :: .int x :: st) σ τ o := fun H locs ls hP hS hl => lv_icmp_ge C.1 C.2.1 d ht (fun h => kt h H locs ls hP hS hl) (fun h => kf h H locs ls hP hS hl)
theorem g_icmp_gt (C : gC E cc nL own ws) {x y : Int32} {off : Int} {tgt : Nat} (d : decode cc pc = .ok (.if_icmp .gt off, 3)) (ht : (pc : Int) + off = (tgt : Int)) (kt : y < x → G E k n tgt lv st σ τ o) (kf : ¬ y < x → G E k n (pc + 3) lv st σ τ o) : G E k n pc lv (.int y :: .int x :: st) σ τ o := fun H locs ls hP hS hl => lv_icmp_gt C.1 C.2.1 d ht (fun h => kt h H locs ls hP hS hl) (fun h => kf h H locs ls hP hS hl)
theorem g_icmp_le (C : gC E cc nL own ws) {x y : Int32} {off : Int} {tgt : Nat} (d : decode cc pc = .ok (.if_icmp .le off, 3)) (ht : (pc : Int) + off = (tgt : Int)) (kt : x ≤ y → G E k n tgt lv st σ τ o) (kf : ¬ x ≤ y → G E k n (pc + 3) lv st σ τ o) : G E k n pc lv (.int y :: .int x :: st) σ τ o := fun H locs ls hP hS hl => lv_icmp_le C.1 C.2.1 d ht (fun h => kt h H locs ls hP hS hl) (fun h => kf h H locs ls hP hS hl)
theorem g_goto (C : gC E cc nL own ws) {off : Int} {tgt : Nat} (d : decode cc pc = .ok (.goto off, 3)) (ht : (pc : Int) + off = (tgt : Int)) (kk : G E k n tgt lv st σ τ o) : G E k n pc lv st σ τ o := fun H locs ls hP hS hl => lv_goto C.1 C.2.1 d ht (kk H locs ls hP hS hl)
/-- a field of the class's object -/
theorem g_getX (C : gC E cc nL own ws) {idx : Nat} (c : Nat) {v : Value} (d : decode cc pc = .ok (.getfield idx, 3)) (hin : ∀ w ∈ wsX00, w ∈ ws) (hk : c < 18) (hw : Cond.fieldLink own idx RX0 (TX0 c).2.1 (TX0 c).2.2.1 ∈ ws) (hT : (TX0 c).1 = RX0) (hv : (wW (eG E) σ τ o)[0]?.bind (fun q => match q.2 with | .inr (_, fs) => fs[c]? | .inl _ => none) = some v) (kk : G E k n (pc + 3) lv (v :: st) σ τ o) : G E k n pc lv (.ref ((eG E).2.1 100) :: st) σ τ o := fun H locs ls hP hS hl =>
  va_get (D := (eG E).1) (cl := vwCl) (C := RX0) (T := TX0) (N := 18) (ci := 0) (ref := RX0) C.1 C.2.1 C.2.2.2.2.1 hin C.2.2.2.1 C.2.2.2.2.2.1 hP 0 rfl rfl c hk (C.2.2.2.2.1 _ hw) (fun _ h => by rw [← hT]; exact h) hv d (kk H locs ls hP hS hl)
theorem g_getM (C : gC E cc nL own ws) {idx : Nat} (c : Nat) {v : Value} (d : decode cc pc = .ok (.getfield idx, 3)) (hin : ∀ w ∈ wsX10, w ∈ ws) (hk : c < 16) (hw : Cond.fieldLink own idx RX1 (TX1 c).2.1 (TX1 c).2.2.1 ∈ ws) (hT : (TX1 c).1 = RX1) (hv : (wW (eG E) σ τ o)[12]?.bind (fun q => match q.2 with | .inr (_, fs) => fs[c]? | .inl _ => none) = some v) (kk : G E k n (pc + 3) lv (v :: st) σ τ o) : G E k n pc lv (.ref ((eG E).2.1 101) :: st) σ τ o := fun H locs ls hP hS hl =>
  va_get (D := (eG E).1) (cl := vwCl) (C := RX1) (T := TX1) (N := 16) (ci := 1) (ref := RX1) C.1 C.2.1 C.2.2.2.2.1 hin C.2.2.2.1 C.2.2.2.2.2.1 hP 12 rfl rfl c hk (C.2.2.2.2.1 _ hw) (fun _ h => by rw [← hT]; exact h) hv d (kk H locs ls hP hS hl)
theorem uD_of (C : gC E cc nL own ws) : va_D (eA E) (wW (eG E) σ τ o) := uD_any C.2.2.2.2.2.2.2.1
theorem g_putX (C : gC E cc nL own ws) {idx : Nat} (c : Nat) {x : Int32} (d : decode cc pc = .ok (.putfield idx, 3)) (hin : ∀ w ∈ wsX00, w ∈ ws) (hk : c < 18) (hw : Cond.fieldLink own idx RX0 (TX0 c).2.1 (TX0 c).2.2.1 ∈ ws) (hT : (TX0 c).1 = RX0) (hf : (TX0 c).2.2.2 = false) (hd : parseFieldDescriptor (TX0 c).2.2.1 = some .int) (he : (wW (eG E) σ τ o).set 0 ((eG E).2.1 100, .inr (0, [.ref ((eG E).2.1 0), .ref ((eG E).2.1 1), .ref ((eG E).2.1 2), .int (σ 3), .int (σ 4), .int (σ 5), .int (σ 6), .ref ((eG E).2.1 7), .ref ((eG E).2.1 8), .int (σ 9), .int (σ 10), .int (σ 11), .ref ((eG E).2.1 12), .ref ((eG E).2.1 13), .ref ((eG E).2.1 14), .ref ((eG E).2.1 15), .ref ((eG E).2.1 16), .ref ((eG E).2.1 17)].set c (.int x))) = wW (eG E) (uS σ c x) τ o) (kk : G E k n (pc + 3) lv st (uS σ c x) τ o) : G E k n pc lv (.int x :: .ref ((eG E).2.1 100) :: st) σ τ o := fun H locs ls hP hS hl =>
  va_put (D := (eG E).1) (cl := vwCl) (C := RX0) (T := TX0) (N := 18) (ci := 0) (ref := RX0) (ty := .int) (v := .int x) C.1 C.2.1 C.2.2.2.2.1 hin tyX0 tyX0_ok nmX0 C.2.2.2.1 C.2.2.2.2.2.1 hP (uD_of C) hS 0 rfl rfl c hk (C.2.2.2.2.1 _ hw) (fun _ h => by rw [← hT]; exact h) hf hd rfl rfl hk d (fun H1 locs1 hP1 _ hS1 => kk H1 locs1 ls (by rw [he] at hP1; exact hP1) hS1 hl)
theorem g_putM (C : gC E cc nL own ws) {idx : Nat} (c : Nat) {x : Int32} (d : decode cc pc = .ok (.putfield idx, 3)) (hin : ∀ w ∈ wsX10, w ∈ ws) (hk : c < 16) (hw : Cond.fieldLink own idx RX1 (TX1 c).2.1 (TX1 c).2.2.1 ∈ ws) (hT : (TX1 c).1 = RX1) (hf : (TX1 c).2.2.2 = false) (hd : parseFieldDescriptor (TX1 c).2.2.1 = some .int) (he : (wW (eG E) σ τ o).set 12 ((eG E).2.1 101, .inr (1, [.int (σ 20), .int (σ 21), .int (σ 22), .int (σ 23), .int (σ 24), .int (σ 25), .int (σ 26), .ref ((eG E).2.1 27), .ref ((eG E).2.1 28), .ref ((eG E).2.1 29), .int (σ 30), .ref ((eG E).2.1 31), .ref ((eG E).2.1 32), .ref ((eG E).2.1 33), .ref ((eG E).2.1 34), .ref ((eG E).2.1 35)].set c (.int x))) = wW (eG E) (uS σ (20 + c) x) τ o) (kk : G E k n (pc + 3) lv st (uS σ (20 + c) x) τ o) : G E k n pc lv (.int x :: .ref ((eG E).2.1 101) :: st) σ τ o := fun H locs ls hP hS hl =>
  va_put (D := (eG E).1) (cl := vwCl) (C := RX1) (T := TX1) (N := 16) (ci := 1) (ref := RX1) (ty := .int) (v := .int x) C.1 C.2.1 C.2.2.2.2.1 hin tyX1 tyX1_ok nmX1 C.2.2.2.1 C.2.2.2.2.2.1 hP (uD_of C) hS 12 rfl rfl c hk (C.2.2.2.2.1 _ hw) (fun _ h => by rw [← hT]; exact h) hf hd rfl rfl hk d (fun H1 locs1 hP1 _ hS1 => kk H1 locs1 ls (by rw [he] at hP1; exact hP1) hS1 hl)
/-- an element of an int array, a boolean array, of out -/
theorem g_iald (C : gC E cc nL own ws) {c : Nat} {i : Int32} (d : decode cc pc = .ok (.iaload, 1)) (ha : (wW (eG E) σ τ o)[gAp c]? = some ((eG E).2.1 c, .inl ((eG E).2.2.1, gAl c, .inl (τ c)))) (hi : vp_in i (gAl c)) (kk : G E k n (pc + 1) lv (.int (τ c i.toNatClampNeg) :: st) σ τ o) : G E k n pc lv (.int i :: .ref ((eG E).2.1 c) :: st) σ τ o := fun H locs ls hP hS hl => va_iald C.1 C.2.1 C.2.2.2.2.2.1 hP (gAp c) 0 ha rfl hi d (kk H locs ls hP hS hl)
theorem g_ialdN (C : gC E cc nL own ws) {c : Nat} {i : Int32} (j : Nat) (d : decode cc pc = .ok (.iaload, 1)) (ha : (wW (eG E) σ τ o)[gAp c]? = some ((eG E).2.1 c, .inl ((eG E).2.2.1, gAl c, .inl (τ c)))) (he : i = nI j) (hj : j < gAl c) (hz : gAl c < 19) (kk : G E k n (pc + 1) lv (.int (τ c j) :: st) σ τ o) : G E k n pc lv (.int i :: .ref ((eG E).2.1 c) :: st) σ τ o := by
  subst he
  have h2 : j < 2 ^ 31 := Nat.lt_trans hj (Nat.lt_trans hz (by decide))
  refine g_iald C d ha (vp_in_nI hj (Nat.lt_trans hz (by decide))) ?_
  rw [nI_clamp h2]
  exact kk
theorem g_zald (C : gC E cc nL own ws) {c : Nat} {i : Int32} (d : decode cc pc = .ok (.baload, 1)) (ha : (wW (eG E) σ τ o)[gAp c]? = some ((eG E).2.1 c, .inl ((eG E).2.2.2.1, gAl c, .inl (τ c)))) (hi : vp_in i (gAl c)) (kk : G E k n (pc + 1) lv (.int (τ c i.toNatClampNeg) :: st) σ τ o) : G E k n pc lv (.int i :: .ref ((eG E).2.1 c) :: st) σ τ o := fun H locs ls hP hS hl => va_zald C.1 C.2.1 C.2.2.2.2.2.1 hP (gAp c) 1 ha rfl hi d (kk H locs ls hP hS hl)
theorem g_zaldN (C : gC E cc nL own ws) {c : Nat} {i : Int32} (j : Nat) (d : decode cc pc = .ok (.baload, 1)) (ha : (wW (eG E) σ τ o)[gAp c]? = some ((eG E).2.1 c, .inl ((eG E).2.2.2.1, gAl c, .inl (τ c)))) (he : i = nI j) (hj : j < gAl c) (hz : gAl c < 19) (kk : G E k n (pc + 1) lv (.int (τ c j) :: st) σ τ o) : G E k n pc lv (.int i :: .ref ((eG E).2.1 c) :: st) σ τ o := by
  subst he
  have h2 : j < 2 ^ 31 := Nat.lt_trans hj (Nat.lt_trans hz (by decide))
  refine g_zald C d ha (vp_in_nI hj (Nat.lt_trans hz (by decide))) ?_
  rw [nI_clamp h2]
  exact kk
theorem g_iast (C : gC E cc nL own ws) {c : Nat} {i x : Int32} (j : Nat) (d : decode cc pc = .ok (.iastore, 1)) (ha : (wW (eG E) σ τ o)[gAp c]? = some ((eG E).2.1 c, .inl ((eG E).2.2.1, gAl c, .inl (τ c)))) (he : i.toNatClampNeg = j) (hi : vp_in i (gAl c)) (hw : (wW (eG E) σ τ o).set (gAp c) ((eG E).2.1 c, .inl ((eG E).2.2.1, gAl c, .inl (upd (τ c) j x))) = wW (eG E) σ (uT τ c j x) o) (kk : G E k n (pc + 1) lv st σ (uT τ c j x) o) : G E k n pc lv (.int x :: .int i :: .ref ((eG E).2.1 c) :: st) σ τ o := fun H locs ls hP hS hl => va_iast C.1 C.2.1 C.2.2.2.2.2.1 hP (uD_of C) hS (gAp c) 0 ha rfl hi d (fun H1 locs1 hP1 _ hS1 => kk H1 locs1 ls (by rw [he, hw] at hP1; exact hP1) hS1 hl)
theorem g_iastN (C : gC E cc nL own ws) {c : Nat} {i x : Int32} (j : Nat) (d : decode cc pc = .ok (.iastore, 1)) (ha : (wW (eG E) σ τ o)[gAp c]? = some ((eG E).2.1 c, .inl ((eG E).2.2.1, gAl c, .inl (τ c)))) (he : i = nI j) (hj : j < gAl c) (hz : gAl c < 19) (hw : (wW (eG E) σ τ o).set (gAp c) ((eG E).2.1 c, .inl ((eG E).2.2.1, gAl c, .inl (upd (τ c) j x))) = wW (eG E) σ (uT τ c j x) o) (kk : G E k n (pc + 1) lv st σ (uT τ c j x) o) : G E k n pc lv (.int x :: .int i :: .ref ((eG E).2.1 c) :: st) σ τ o := by
  subst he
  exact g_iast C j d ha (nI_clamp (Nat.lt_trans hj (Nat.lt_trans hz (by decide)))) (vp_in_nI hj (Nat.lt_trans hz (by decide))) hw kk
theorem g_zast (C : gC E cc nL own ws) {c : Nat} {i x : Int32} (j : Nat) (d : decode cc pc = .ok (.bastore, 1)) (ha : (wW (eG E) σ τ o)[gAp c]? = some ((eG E).2.1 c, .inl ((eG E).2.2.2.1, gAl c, .inl (τ c)))) (he : i.toNatClampNeg = j) (hi : vp_in i (gAl c)) (hx : x = 0 ∨ x = 1) (hw : (wW (eG E) σ τ o).set (gAp c) ((eG E).2.1 c, .inl ((eG E).2.2.2.1, gAl c, .inl (upd (τ c) j x))) = wW (eG E) σ (uT τ c j x) o) (kk : G E k n (pc + 1) lv st σ (uT τ c j x) o) : G E k n pc lv (.int x :: .int i :: .ref ((eG E).2.1 c) :: st) σ τ o := fun H locs ls hP hS hl => va_zast C.1 C.2.1 C.2.2.2.2.2.1 hP (uD_of C) hS (gAp c) 1 ha rfl hi d (fun H1 locs1 hP1 _ hS1 => kk H1 locs1 ls (by rw [he, show vp_nar .boolean x = x by rcases hx with rfl | rfl <;> rfl, hw] at hP1; exact hP1) hS1 hl)
theorem g_zastN (C : gC E cc nL own ws) {c : Nat} {i x : Int32} (j : Nat) (d : decode cc pc = .ok (.bastore, 1)) (ha : (wW (eG E) σ τ o)[gAp c]? = some ((eG E).2.1 c, .inl ((eG E).2.2.2.1, gAl c, .inl (τ c)))) (he : i = nI j) (hj : j < gAl c) (hz : gAl c < 19) (hx : x = 0 ∨ x = 1) (hw : (wW (eG E) σ τ o).set (gAp c) ((eG E).2.1 c, .inl ((eG E).2.2.2.1, gAl c, .inl (upd (τ c) j x))) = wW (eG E) σ (uT τ c j x) o) (kk : G E k n (pc + 1) lv st σ (uT τ c j x) o) : G E k n pc lv (.int x :: .int i :: .ref ((eG E).2.1 c) :: st) σ τ o := by
  subst he
  exact g_zast C j d ha (nI_clamp (Nat.lt_trans hj (Nat.lt_trans hz (by decide)))) (vp_in_nI hj (Nat.lt_trans hz (by decide))) hx hw kk
/-- Math.max, Math.min -/
theorem g_mmax (C : gC E cc nL own ws) {idx : Nat} {x y : Int32} (d : decode cc pc = .ok (.invokestatic idx, 3)) (h1 : Cond.methodLink own idx Lib.Math.max.name ∈ ws) (h2 : Cond.static Lib.Math.max.name ∈ ws) (h3 : Cond.initialized "java/lang/Math" ∈ ws) (h4 : Cond.code Lib.Math.max.name Lib.Math.max.code 2 (some .int) ∈ ws) (hR : 1 ≤ (eR E).frames ∧ (st.map fun v => v.category).sum + 13 ≤ (eR E).locals ∧ k ≤ (eR E).cells ∧ n ≤ (eR E).slots) (kk : G E k n (pc + 3) lv (.int (if x < y then y else x) :: st) σ τ o) : G E k n pc lv (.int y :: .int x :: st) σ τ o := fun H locs ls hP hS hl => va_mmax C.1 C.2.1 hl.1.symm C.2.2.2.1 (C.2.2.2.2.1 _ h1) (C.2.2.2.2.1 _ h2) (C.2.2.2.2.1 _ h3) (C.2.2.2.2.1 _ h4) hR.1 hR.2.1 hR.2.2.1 hR.2.2.2 d (kk H locs ls hP hS hl)
theorem g_mmin (C : gC E cc nL own ws) {idx : Nat} {x y : Int32} (d : decode cc pc = .ok (.invokestatic idx, 3)) (h1 : Cond.methodLink own idx Lib.Math.min.name ∈ ws) (h2 : Cond.static Lib.Math.min.name ∈ ws) (h3 : Cond.initialized "java/lang/Math" ∈ ws) (h4 : Cond.code Lib.Math.min.name Lib.Math.min.code 2 (some .int) ∈ ws) (hR : 1 ≤ (eR E).frames ∧ (st.map fun v => v.category).sum + 13 ≤ (eR E).locals ∧ k ≤ (eR E).cells ∧ n ≤ (eR E).slots) (kk : G E k n (pc + 3) lv (.int (if y < x then y else x) :: st) σ τ o) : G E k n pc lv (.int y :: .int x :: st) σ τ o := fun H locs ls hP hS hl => va_mmin C.1 C.2.1 hl.1.symm C.2.2.2.1 (C.2.2.2.2.1 _ h1) (C.2.2.2.2.1 _ h2) (C.2.2.2.2.1 _ h3) (C.2.2.2.2.1 _ h4) hR.1 hR.2.1 hR.2.2.1 hR.2.2.2 d (kk H locs ls hP hS hl)
/-- the ends -/
theorem g_end {post : gPost} {px : gPX} {mc ms : Nat} {ret : Option FieldType} {v : Option Value} (C : gC E cc nL own ws) (hq : post v σ τ o) {H : Heap} {locs : List Loc} (hP : va_P (eG E).1 vwCl (wW (eG E) σ τ o) H) (hS : va_S (eA E) (eS E).heap H locs) : ∀ t : State, t.heap = H → (eS E).WarmedH t.vm → uQ (eG E) (eA E) post (eV E) (eS E) (.returned v) t :=
  fun t ht hW => ⟨⟨v, σ, τ, o, rfl, hq, by rw [ht]; exact hP, va_K.moved hW.alike C.2.2.2.2.2.1⟩, hS.F ht⟩
theorem g_iret {post : gPost} {px : gPX} {mc ms : Nat} {v : Int32} (C : gC E cc nL own ws) (F : gF E post px mc ms (some .int)) (d : decode cc pc = .ok (.ireturn, 1)) (hk : k ≤ mc) (hn : n ≤ ms) (hq : post (some (.int v)) σ τ o) : G E k n pc lv [.int v] σ τ o := fun H locs ls hP hS hl => by
  rw [F.1]
  exact W.widen hk hn (vx_ret (W.iret C.1 C.2.1 F.2.2 (g_end (px := px) (mc := mc) (ms := ms) (ret := none) C hq hP hS) hS.2.2 d F.2.1))
theorem g_zret {post : gPost} {px : gPX} {mc ms : Nat} {v : Int32} (C : gC E cc nL own ws) (F : gF E post px mc ms (some .boolean)) (d : decode cc pc = .ok (.ireturn, 1)) (hv : v = 0 ∨ v = 1) (hk : k ≤ mc) (hn : n ≤ ms) (hq : post (some (.int v)) σ τ o) : G E k n pc lv [.int v] σ τ o := fun H locs ls hP hS hl => by
  rw [F.1]
  exact W.widen hk hn (vx_ret (W.zret C.1 C.2.1 F.2.2 (by rcases hv with rfl | rfl <;> rfl) (g_end (px := px) (mc := mc) (ms := ms) (ret := none) C hq hP hS) hS.2.2 d F.2.1))
theorem g_vret {post : gPost} {px : gPX} {mc ms : Nat} (C : gC E cc nL own ws) (F : gF E post px mc ms none) (d : decode cc pc = .ok (.return_, 1)) (hk : k ≤ mc) (hn : n ≤ ms) (hq : post none σ τ o) : G E k n pc lv [] σ τ o := fun H locs ls hP hS hl => by
  rw [F.1]
  exact W.widen hk hn (vx_ret (W.vret C.1 C.2.1 F.2.2 (g_end (px := px) (mc := mc) (ms := ms) (ret := none) C hq hP hS) hS.2.2 d F.2.1))
theorem g_lret {post : gPost} {px : gPX} {mc ms : Nat} {v : Int64} (C : gC E cc nL own ws) (F : gF E post px mc ms (some .long)) (d : decode cc pc = .ok (.lreturn, 1)) (hk : k ≤ mc) (hn : n ≤ ms) (hq : post (some (.long v)) σ τ o) : G E k n pc lv [.long v] σ τ o := fun H locs ls hP hS hl => by
  rw [F.1]
  exact W.widen hk hn (vx_ret (W.lret C.1 C.2.1 F.2.2 (g_end (px := px) (mc := mc) (ms := ms) (ret := none) C hq hP hS) hS.2.2 d F.2.1))
theorem g_dret {post : gPost} {px : gPX} {mc ms : Nat} {v : UInt64} (C : gC E cc nL own ws) (F : gF E post px mc ms (some .double)) (d : decode cc pc = .ok (.dreturn, 1)) (hk : k ≤ mc) (hn : n ≤ ms) (hq : post (some (.double v)) σ τ o) : G E k n pc lv [.double v] σ τ o := fun H locs ls hP hS hl => by
  rw [F.1]
  exact W.widen hk hn (vx_ret (W.dret C.1 C.2.1 F.2.2 (g_end (px := px) (mc := mc) (ms := ms) (ret := none) C hq hP hS) hS.2.2 d F.2.1))
end GR
end
section
/-! calls, throws, the start of a contract, over the one world -/
theorem uZ_pass {A B : Nat → Prop} {s U : State} {H : Heap} {locs : List Loc} (h : uZ A s s.heap) (hS : va_S A s.heap H locs) (hW : s.WarmedH U.vm) (hU : U.heap = H) (hBA : ∀ q, B q → A q) : uZ B U U.heap := by
  rw [hU]
  exact ⟨((h.1.moved hW.alike).kept hS.2.1).narrow hBA, ((h.2.1.moved hW.alike).kept hS.2.1).narrow hBA, fun q hq => by
    obtain ⟨sa, hs⟩ := h.2.2.1 q hq
    exact ⟨sa, vk_R.warm hW hs⟩, fun X hX => va_Nw.warmC hW (h.2.2.2.1 X hX), fun x hx => va_Nw.warmD hW (h.2.2.2.2 x hx)⟩
theorem uP_blind {As : List Value} {Γ : gG} {sz : Nat} {σ : gS} {τ : gT} {o : gO} : FrameBlind (va_Pc As (uP Γ sz σ τ o)) := fun a U g mk q => by
  obtain ⟨q0, q1, ⟨qP, qK⟩, qD, q2, q3, q4, q5, q6⟩ := q
  exact ⟨q0, q1, ⟨qP, va_K.moved (u := U) (U := U.calling g mk a) (Vm.Alike.refl U.vm) qK⟩, qD, vx_Zq.moved (u := U) (U := U.calling g mk a) (Vm.Alike.refl U.vm) q2, vx_Zq.moved (u := U) (U := U.calling g mk a) (Vm.Alike.refl U.vm) q3, fun q hq => by
    obtain ⟨sa, hs⟩ := q4 q hq
    exact ⟨sa, vk_R.same (u := U) (U := U.calling g mk a) rfl hs⟩, fun X hX => va_Nw.same (u := U) (U := U.calling g mk a) rfl rfl (q5 X hX), fun x hx => va_Nw.same (u := U) (U := U.calling g mk a) rfl rfl (q6 x hx)⟩
section GCALL
variable {E : gE} {cc : ByteArray} {nL : Nat} {own : String} {ws : List Cond} {k n pc : Nat} {lv : List (Nat × Value)} {st : List Value} {σ : gS} {τ : gT} {o : gO}
theorem uAd_in (C : gC E cc nL own ws) {H : Heap} {locs : List Loc} (hS : va_S (eA E) (eS E).heap H locs) : ∀ q, uAd (eG E) H.size q → eA E q := fun q h => by
  rcases h with ⟨j, e, h⟩ | h
  · exact C.2.2.2.2.2.2.2.1.2 j (q, e) h
  · exact C.2.2.2.2.2.2.1 q (Nat.le_trans hS.1 h)
theorem g_pre (C : gC E cc nL own ws) {H : Heap} {locs : List Loc} {As : List Value} (hP : va_P (eG E).1 vwCl (wW (eG E) σ τ o) H) (hS : va_S (eA E) (eS E).heap H locs) : ∀ U : State, U.heap = H → (eS E).WarmedH U.vm → va_Pc As (uP (eG E) H.size σ τ o) As.toArray U := fun U hU hW =>
  ⟨rfl, by rw [hU], ⟨by rw [hU]; exact hP, va_K.moved hW.alike C.2.2.2.2.2.1⟩, C.2.2.2.2.2.2.2.1.weaken (fun _ _ _ _ => trivial), uZ_pass C.2.2.2.2.2.2.2.2.1 hS hW hU (uAd_in C hS)⟩
theorem g_run {post : gPost} {px : gPX} {mc ms : Nat} {rest : List Value} {a : Array Value} (C : gC E cc nL own ws)
    (hr : ∀ (H : Heap) (locs : List Loc) (ls : Array Slot), va_P (eG E).1 vwCl (wW (eG E) σ τ o) H → va_S (eA E) (eS E).heap H locs → lv_has ls (eC E).maxLocals lv →
      vx_Run (eP E) (eL E) (eE E) (eR E) (eS E) (eM E) (eV E) (eB E) (eMt E) (eC E) H locs k n mc ms (F0 (eM E) pc ls st) rest (uQ (eG E) (uAd (eG E) H.size) post a) (uX (eG E) (uAd (eG E) H.size) px) (uAd (eG E) H.size))
    (kx : ∀ X σ' τ' o', px X σ' τ' o' → GX E (k + mc) (n + ms) pc lv rest σ' τ' o' X)
    (kk : ∀ v σ' τ' o', post v σ' τ' o' → G E (k + mc) (n + ms) (pc + 3) lv (v.toList ++ rest) σ' τ' o') : G E k n pc lv st σ τ o := by
  intro H locs ls hP hS hl T hT X
  have hA := uAd_in C hS
  rcases hr H locs ls hP hS hl T hT X with ⟨v, st₀, t, T', L, h0, X', hL, e1, e2, ⟨⟨v', σ', τ', o', hv, hp, hB⟩, hF⟩, hg⟩ | ⟨q, st₀, t, T', L, Xn, ce, h0, X', hL, e1, e2, ⟨⟨σ', τ', o', hp, hB⟩, hF⟩, hce, hcv, hcl, hg⟩
  · cases hv
    obtain ⟨k1, k2, k3⟩ := vx_keep h0 e1 hS (fun q _ h => hA q h) hA hL hF
    obtain ⟨t2, a1, b1⟩ := kk v σ' τ' o' hp T'.heap (locs ++ L) ls (by rw [e1]; exact hB.1) k3 hl T' rfl X'
    exact ⟨t2, hg t2 a1, b1⟩
  · obtain ⟨k1, k2, k3⟩ := vx_keep h0 e1 hS (fun q _ h => hA q h) hA hL hF
    obtain ⟨t2, a1, b1⟩ := kx Xn σ' τ' o' hp T'.heap (locs ++ L) ls q ce (by rw [e1]; exact hB.1) k3 hl (by rw [e1]; exact hce) hcv hcl T' rfl X'
    exact ⟨t2, hg.trans a1, b1⟩
/-- a call of an instance method of the class (Cl, ci, q0 = RX0, 0, 0) or the reference (RX1, 1, 12) -/
theorem g_callV {post : gPost} {px : gPX} {fr lo mc ms idx maxL na : Nat} {y : MethodName} {bytes : ByteArray} {ret : Option FieldType} {wy wy' : List Cond} {Cl : String} {T : u_T} {N ci q0 b : Nat} {fs : List Value} {As rest : List Value} (C : gC E cc nL own ws)
    (d : decode cc pc = .ok (.invokevirtual idx, 3)) (hM : Ct (eL E) y wy fr lo mc ms (.ref b :: As) (eG E) σ τ o post px) (hT : GoodIn ws (wsV own idx Cl y wy)) (hw : wy = Cond.code y bytes maxL ret :: wy')
    (hna : As.length = na) (hy : y.cls = Cl ∧ y.cls ≠ "java/lang/invoke/MethodHandle" ∧ y.cls ≠ "java/lang/invoke/VarHandle" ∧ (parseMethodDescriptor y.desc).map (fun d => d.parameters.length) = some na)
    (hq : (wW (eG E) σ τ o)[q0]? = some (b, .inr (ci, fs))) (hc : vwCl[ci]? = some (Cl, T, N))
    (hst : st = As.reverse ++ .ref b :: rest) (hW : (rest.map fun v => v.category).sum ≤ 8)
    (hR : fr + 1 ≤ (eR E).frames ∧ 8 + (maxL + 11) + lo ≤ (eR E).locals) (hf : k + mc ≤ (eR E).cells ∧ n + ms ≤ (eR E).slots)
    (kx : ∀ X σ' τ' o', px X σ' τ' o' → GX E (k + mc) (n + ms) pc lv rest σ' τ' o' X)
    (kk : ∀ v σ' τ' o', post v σ' τ' o' → G E (k + mc) (n + ms) (pc + 3) lv (v.toList ++ rest) σ' τ' o') : G E k n pc lv st σ τ o := by
  refine g_run (a := (Value.ref b :: As).toArray) C (fun H locs ls hP hS hl => ?_) kx kk
  exact vx_runV (As := As) (rest := rest) ⟨C.1, C.2.1, C.2.2.1, C.2.2.2.1, C.2.2.2.2.1⟩ (hM H.size) (cwV na C.2.2.2.2.1 hT hw rfl rfl hy hR) ⟨uP_blind, va_recv C.2.2.2.2.2.1 hP hc hq, g_pre C hP hS⟩ rfl hna (hl.1.trans C.2.2.1) hst (lv_room hW) d hf
/-- a call of a static method of the own class or another -/
theorem g_callS {post : gPost} {px : gPX} {fr lo mc ms idx maxL na : Nat} {y : MethodName} {bytes : ByteArray} {ret : Option FieldType} {wy wy' : List Cond} {As rest : List Value} (C : gC E cc nL own ws)
    (d : decode cc pc = .ok (.invokestatic idx, 3)) (hM : Ct (eL E) y wy fr lo mc ms As (eG E) σ τ o post px) (hT : GoodIn ws (va_wsS own idx y wy)) (hw : wy = Cond.code y bytes maxL ret :: wy')
    (hna : As.length = na) (hy : y.cls ≠ "java/lang/invoke/MethodHandle" ∧ y.cls ≠ "java/lang/invoke/VarHandle" ∧ (parseMethodDescriptor y.desc).map (fun d => d.parameters.length) = some na)
    (hst : st = As.reverse ++ rest) (hW : (rest.map fun v => v.category).sum ≤ 8)
    (hR : fr + 1 ≤ (eR E).frames ∧ 8 + (maxL + 11) + lo ≤ (eR E).locals) (hf : k + mc ≤ (eR E).cells ∧ n + ms ≤ (eR E).slots)
    (kx : ∀ X σ' τ' o', px X σ' τ' o' → GX E (k + mc) (n + ms) pc lv rest σ' τ' o' X)
    (kk : ∀ v σ' τ' o', post v σ' τ' o' → G E (k + mc) (n + ms) (pc + 3) lv (v.toList ++ rest) σ' τ' o') : G E k n pc lv st σ τ o := by
  refine g_run (a := As.toArray) C (fun H locs ls hP hS hl => ?_) kx kk
  exact vx_runS (As := As) (rest := rest) ⟨C.1, C.2.1, C.2.2.1, C.2.2.2.1, C.2.2.2.2.1⟩ (hM H.size) (va_cwS na C.2.2.2.2.1 hT hw rfl rfl hy hR) ⟨uP_blind, g_pre C hP hS⟩ rfl hna (hl.1.trans C.2.2.1) hst (lv_room hW) d hf
/-- not caught here: on to the caller -/
theorem gx_out {post : gPost} {px : gPX} {mc ms : Nat} {ret : Option FieldType} {X : String} (C : gC E cc nL own ws) (F : gF E post px mc ms ret) (ht : ∀ x ∈ (eC E).exceptionTable.toList, False) (hk : k ≤ mc) (hn : n ≤ ms) (hp : px X σ τ o) : GX E k n pc lv st σ τ o X := fun H locs ls q ce hP hS hl hce hcv hcl => by
  rw [F.1]
  exact vx_out (fun x hx => (ht x hx).elim) F.2.1 hce hcv hcl (fun t ht hA => ⟨⟨σ, τ, o, hp, by rw [ht]; exact hP, va_K.moved hA C.2.2.2.2.2.1⟩, hS.F ht⟩) hS.2.2 hk hn
/-- throw new X("text") -/
theorem g_throw {post : gPost} {px : gPX} {mc ms ik is ic : Nat} {ret : Option FieldType} {cls text : String} {names : List String} (C : gC E cc nL RX0 ws) (F : gF E post px mc ms ret) (ht : ∀ x ∈ (eC E).exceptionTable.toList, False)
    (d0 : decode cc pc = .ok (.new ik, 3)) (d3 : decode cc (pc + 3) = .ok (.dup, 1)) (d4 : decode cc (pc + 4) = .ok (.ldc is, 2)) (d6 : decode cc (pc + 6) = .ok (.invokespecial ic, 3)) (d9 : decode cc (pc + 9) = .ok (.athrow, 1))
    (hcls : Bundle.fit cls = true) (hnames : ∀ n ∈ names, Bundle.fit n = true) (hk : Cond.classLink RX0 ik cls ∈ ws) (hini : Cond.initialized cls ∈ ws) (hK : (is, text) ∈ gK)
    (hX : cls ∈ gXc) (hall : (vx_atS RX0 ic cls names).all vx_ot = true ∧ ∀ w ∈ (vx_atS RX0 ic cls names).filter (fun w => !goodWord w), w ∈ Cond.castable cls cls :: gDc.map Cond.declares) (hat : ∀ w ∈ (vx_atS RX0 ic cls names).filter goodWord, w ∈ ws)
    (hR : names.length + 3 < (eR E).frames ∧ (st.map fun v => v.category).sum + (13 * (names.length + 1) + 43) ≤ (eR E).locals ∧ k + 1 ≤ (eR E).cells ∧ n + 6 ≤ (eR E).slots)
    (hc : k + 1 ≤ mc) (hs : n + 6 ≤ ms) (hp : px cls σ τ o) : G E k n pc lv st σ τ o := fun H locs ls hP hS hl => by
  rw [F.1]
  obtain ⟨z1, z2, z3, z4, z5⟩ := C.2.2.2.2.2.2.2.2.1
  obtain ⟨sa, hsa⟩ := z3 (is, text) hK
  have hg : ∀ w ∈ vx_atS RX0 ic cls names, vx_ot w = true := List.all_eq_true.mp hall.1
  have h3 : ∀ w ∈ Cond.castable cls cls :: gDc.map Cond.declares, w.before (eV E) (eS E) = true := by
    intro w hw
    rcases List.mem_cons.mp hw with rfl | hw
    · exact va_Nw.use rfl (z4 cls hX)
    · obtain ⟨x, hx, rfl⟩ := List.mem_map.mp hw
      exact va_Nw.use rfl (z5 x hx)
  refine vx_throwS (A := eA E) C.1 C.2.1 C.2.2.2.2.2.2.2.2.2 C.2.2.2.1 hcls hnames (C.2.2.2.2.1 _ hk) (C.2.2.2.2.1 _ hini) hsa (vx_hat (fun w hw => C.2.2.2.2.1 _ (hat w hw)) hall.2 h3) ?_ z1 z2 hS hl.1 d0 d3 d4 d6 d9 (fun x hx => (ht x hx).elim) hR.1 hR.2.1 hR.2.2.1 hR.2.2.2 F.2.1 ?_ hS.2.2 hc hs
  · intro w hw
    rcases List.mem_cons.mp hw with rfl | hw
    · rfl
    · rcases List.mem_cons.mp hw with rfl | hw
      · rfl
      · exact hg w hw
  · intro t hA hz hq
    exact ⟨⟨σ, τ, o, hp, hP.kept (fun j q hj => hq q.1 (hP j q hj).lt), va_K.moved hA C.2.2.2.2.2.1⟩, Nat.le_trans hS.1 hz, fun q h1 h2 => (hq q (Nat.lt_of_lt_of_le h1 hS.1)).trans (hS.2.1 q h1 h2)⟩
end GCALL
/-- a contract, from the walk of its body -/
theorem ct_of {l : Launch} {y : MethodName} {ws ws' : List Cond} {cc : ByteArray} {maxL fr lo mc ms : Nat} {ret : Option FieldType} {As : List Value} {Γ : gG} {σ : gS} {τ : gT} {o : gO} {post : gPost} {px : gPX} (hl : l.stackTraces = false) (hy : plainName y.cls = true) (hw : ws = Cond.code y cc maxL ret :: ws') (hn : (lg_sl As).length ≤ maxL)
    (body : ∀ E : gE, gC E cc maxL y.cls ws → gF E post px mc ms ret → (∀ x ∈ (eC E).exceptionTable.toList, False) → eG E = Γ → eL E = l → eR E = { frames := fr, cells := mc, slots := ms, locals := lo } → G E 0 0 0 (lv_args 0 As) [] σ τ o) : Ct l y ws fr lo mc ms As Γ σ τ o post px := by
  intro sz
  refine vx_ofW (cc := cc) (maxL := maxL) (ret := ret) hy hw ?_
  intro p e s m args below meth c s₁ B hml ht hv
  obtain ⟨rfl, hsz, hB, hD0, hZ⟩ := hv
  subst hsz
  have hD : va_D (uAd Γ s.heap.size) (wW Γ z0 zT zO) := hD0.self
  have hlv := lv_entry As hn
  rw [lg_entry_eq]
  exact body (p, l, e, (headSpec ws { frames := fr, cells := mc, slots := ms, locals := lo }).room, s, m, As.toArray, below, meth, c, Γ, uAd Γ s.heap.size, _) ⟨B.exec, B.bytes, hml, findClass_of_methodNamed B.named, atoms_spec (ws := ws) B.pre, hB.2, fun q h => Or.inr h, hD, hZ, hl⟩ ⟨rfl, B.notSynchronized, B.returns⟩ ht rfl rfl rfl s.heap [] _ hB.1 va_S.rf (by rw [hml]; exact hlv)
/-- more room than it needs -/
theorem noX_kx {E : gE} {k n pc : Nat} {lv : List (Nat × Value)} {st : List Value} : ∀ X σ' τ' o', noX X σ' τ' o' → GX E k n pc lv st σ' τ' o' X := fun _ _ _ _ h => h.elim
/-- the answer v, the world σ1 τ1 o1 -/
def pE (v : Option Value) (σ1 : gS) (τ1 : gT) (o1 : gO) : gPost := fun v' σ' τ' o' => v' = v ∧ σ' = σ1 ∧ τ' = τ1 ∧ o' = o1
/-- it throws X, the world as it was -/
def pxE (X : String) (σ1 : gS) (τ1 : gT) (o1 : gO) : gPX := fun X' σ' τ' o' => X' = X ∧ σ' = σ1 ∧ τ' = τ1 ∧ o' = o1
def noP : gPost := fun _ _ _ _ => False
theorem g_at137 : (vx_atS RX0 137 "java/lang/IndexOutOfBoundsException" ["java/lang/RuntimeException", "java/lang/Exception"]).all vx_ot = true ∧ ∀ w ∈ (vx_atS RX0 137 "java/lang/IndexOutOfBoundsException" ["java/lang/RuntimeException", "java/lang/Exception"]).filter (fun w => !goodWord w), w ∈ Cond.castable "java/lang/IndexOutOfBoundsException" "java/lang/IndexOutOfBoundsException" :: gDc.map Cond.declares := ⟨by decide +kernel, by decide +kernel⟩
theorem g_at70 : (vx_atS RX0 70 "java/lang/IllegalArgumentException" ["java/lang/RuntimeException", "java/lang/Exception"]).all vx_ot = true ∧ ∀ w ∈ (vx_atS RX0 70 "java/lang/IllegalArgumentException" ["java/lang/RuntimeException", "java/lang/Exception"]).filter (fun w => !goodWord w), w ∈ Cond.castable "java/lang/IllegalArgumentException" "java/lang/IllegalArgumentException" :: gDc.map Cond.declares := ⟨by decide +kernel, by decide +kernel⟩
theorem g_at77 : (vx_atS RX0 77 "java/lang/IllegalStateException" ["java/lang/RuntimeException", "java/lang/Exception"]).all vx_ot = true ∧ ∀ w ∈ (vx_atS RX0 77 "java/lang/IllegalStateException" ["java/lang/RuntimeException", "java/lang/Exception"]).filter (fun w => !goodWord w), w ∈ Cond.castable "java/lang/IllegalStateException" "java/lang/IllegalStateException" :: gDc.map Cond.declares := ⟨by decide +kernel, by decide +kernel⟩
section GCALL2
variable {E : gE} {cc : ByteArray} {nL : Nat} {own : String} {ws : List Cond} {k n pc : Nat} {lv : List (Nat × Value)} {st : List Value} {σ σ1 : gS} {τ τ1 : gT} {o o1 : gO}
variable {post : gPost} {px : gPX} {fr lo mc ms idx maxL na : Nat} {y : MethodName} {bytes : ByteArray} {ret : Option FieldType} {wy wy' : List Cond} {Cl : String} {T : u_T} {N ci q0 b : Nat} {fs : List Value} {As rest : List Value}
theorem g_callVEi {r : Int32} (C : gC E cc nL own ws) (d : decode cc pc = .ok (.invokevirtual idx, 3)) (hM : Ct (eL E) y wy fr lo mc ms (.ref b :: As) (eG E) σ τ o (pE (some (.int r)) σ1 τ1 o1) (noX)) (hT : GoodIn ws (wsV own idx Cl y wy)) (hw : wy = Cond.code y bytes maxL ret :: wy') (hna : As.length = na) (hy : y.cls = Cl ∧ y.cls ≠ "java/lang/invoke/MethodHandle" ∧ y.cls ≠ "java/lang/invoke/VarHandle" ∧ (parseMethodDescriptor y.desc).map (fun d => d.parameters.length) = some na) (hq : (wW (eG E) σ τ o)[q0]? = some (b, .inr (ci, fs))) (hc : vwCl[ci]? = some (Cl, T, N)) (hst : st = As.reverse ++ .ref b :: rest) (hW : (rest.map fun v => v.category).sum ≤ 8) (hR : fr + 1 ≤ (eR E).frames ∧ 8 + (maxL + 11) + lo ≤ (eR E).locals) (hf : k + mc ≤ (eR E).cells ∧ n + ms ≤ (eR E).slots) (kk : G E (k + mc) (n + ms) (pc + 3) lv (.int r :: rest) σ1 τ1 o1) : G E k n pc lv st σ τ o := g_callV C d hM hT hw hna hy hq hc hst hW hR hf noX_kx (fun v σ' τ' o' h => by
  obtain ⟨rfl, rfl, rfl, rfl⟩ := h
  exact kk)
theorem g_callVEl {r : Int64} (C : gC E cc nL own ws) (d : decode cc pc = .ok (.invokevirtual idx, 3)) (hM : Ct (eL E) y wy fr lo mc ms (.ref b :: As) (eG E) σ τ o (pE (some (.long r)) σ1 τ1 o1) (noX)) (hT : GoodIn ws (wsV own idx Cl y wy)) (hw : wy = Cond.code y bytes maxL ret :: wy') (hna : As.length = na) (hy : y.cls = Cl ∧ y.cls ≠ "java/lang/invoke/MethodHandle" ∧ y.cls ≠ "java/lang/invoke/VarHandle" ∧ (parseMethodDescriptor y.desc).map (fun d => d.parameters.length) = some na) (hq : (wW (eG E) σ τ o)[q0]? = some (b, .inr (ci, fs))) (hc : vwCl[ci]? = some (Cl, T, N)) (hst : st = As.reverse ++ .ref b :: rest) (hW : (rest.map fun v => v.category).sum ≤ 8) (hR : fr + 1 ≤ (eR E).frames ∧ 8 + (maxL + 11) + lo ≤ (eR E).locals) (hf : k + mc ≤ (eR E).cells ∧ n + ms ≤ (eR E).slots) (kk : G E (k + mc) (n + ms) (pc + 3) lv (.long r :: rest) σ1 τ1 o1) : G E k n pc lv st σ τ o := g_callV C d hM hT hw hna hy hq hc hst hW hR hf noX_kx (fun v σ' τ' o' h => by
  obtain ⟨rfl, rfl, rfl, rfl⟩ := h
  exact kk)
theorem g_callVEd {r : UInt64} (C : gC E cc nL own ws) (d : decode cc pc = .ok (.invokevirtual idx, 3)) (hM : Ct (eL E) y wy fr lo mc ms (.ref b :: As) (eG E) σ τ o (pE (some (.double r)) σ1 τ1 o1) (noX)) (hT : GoodIn ws (wsV own idx Cl y wy)) (hw : wy = Cond.code y bytes maxL ret :: wy') (hna : As.length = na) (hy : y.cls = Cl ∧ y.cls ≠ "java/lang/invoke/MethodHandle" ∧ y.cls ≠ "java/lang/invoke/VarHandle" ∧ (parseMethodDescriptor y.desc).map (fun d => d.parameters.length) = some na) (hq : (wW (eG E) σ τ o)[q0]? = some (b, .inr (ci, fs))) (hc : vwCl[ci]? = some (Cl, T, N)) (hst : st = As.reverse ++ .ref b :: rest) (hW : (rest.map fun v => v.category).sum ≤ 8) (hR : fr + 1 ≤ (eR E).frames ∧ 8 + (maxL + 11) + lo ≤ (eR E).locals) (hf : k + mc ≤ (eR E).cells ∧ n + ms ≤ (eR E).slots) (kk : G E (k + mc) (n + ms) (pc + 3) lv (.double r :: rest) σ1 τ1 o1) : G E k n pc lv st σ τ o := g_callV C d hM hT hw hna hy hq hc hst hW hR hf noX_kx (fun v σ' τ' o' h => by
  obtain ⟨rfl, rfl, rfl, rfl⟩ := h
  exact kk)
theorem g_callVEv (C : gC E cc nL own ws) (d : decode cc pc = .ok (.invokevirtual idx, 3)) (hM : Ct (eL E) y wy fr lo mc ms (.ref b :: As) (eG E) σ τ o (pE none σ1 τ1 o1) (noX)) (hT : GoodIn ws (wsV own idx Cl y wy)) (hw : wy = Cond.code y bytes maxL ret :: wy') (hna : As.length = na) (hy : y.cls = Cl ∧ y.cls ≠ "java/lang/invoke/MethodHandle" ∧ y.cls ≠ "java/lang/invoke/VarHandle" ∧ (parseMethodDescriptor y.desc).map (fun d => d.parameters.length) = some na) (hq : (wW (eG E) σ τ o)[q0]? = some (b, .inr (ci, fs))) (hc : vwCl[ci]? = some (Cl, T, N)) (hst : st = As.reverse ++ .ref b :: rest) (hW : (rest.map fun v => v.category).sum ≤ 8) (hR : fr + 1 ≤ (eR E).frames ∧ 8 + (maxL + 11) + lo ≤ (eR E).locals) (hf : k + mc ≤ (eR E).cells ∧ n + ms ≤ (eR E).slots) (kk : G E (k + mc) (n + ms) (pc + 3) lv rest σ1 τ1 o1) : G E k n pc lv st σ τ o := g_callV C d hM hT hw hna hy hq hc hst hW hR hf noX_kx (fun v σ' τ' o' h => by
  obtain ⟨rfl, rfl, rfl, rfl⟩ := h
  exact kk)
theorem g_callVi {P : Int32 → gS → gT → gO → Prop} (C : gC E cc nL own ws) (d : decode cc pc = .ok (.invokevirtual idx, 3)) (hM : Ct (eL E) y wy fr lo mc ms (.ref b :: As) (eG E) σ τ o (pI P) (px)) (hT : GoodIn ws (wsV own idx Cl y wy)) (hw : wy = Cond.code y bytes maxL ret :: wy') (hna : As.length = na) (hy : y.cls = Cl ∧ y.cls ≠ "java/lang/invoke/MethodHandle" ∧ y.cls ≠ "java/lang/invoke/VarHandle" ∧ (parseMethodDescriptor y.desc).map (fun d => d.parameters.length) = some na) (hq : (wW (eG E) σ τ o)[q0]? = some (b, .inr (ci, fs))) (hc : vwCl[ci]? = some (Cl, T, N)) (hst : st = As.reverse ++ .ref b :: rest) (hW : (rest.map fun v => v.category).sum ≤ 8) (hR : fr + 1 ≤ (eR E).frames ∧ 8 + (maxL + 11) + lo ≤ (eR E).locals) (hf : k + mc ≤ (eR E).cells ∧ n + ms ≤ (eR E).slots) (kx : ∀ X σ' τ' o', px X σ' τ' o' → GX E (k + mc) (n + ms) pc lv rest σ' τ' o' X) (kk : ∀ r σ' τ' o', P r σ' τ' o' → G E (k + mc) (n + ms) (pc + 3) lv (.int r :: rest) σ' τ' o') : G E k n pc lv st σ τ o := g_callV C d hM hT hw hna hy hq hc hst hW hR hf kx (fun v σ' τ' o' h => by
  obtain ⟨r, rfl, h⟩ := h
  exact kk r σ' τ' o' h)
theorem g_callVl {P : Int64 → gS → gT → gO → Prop} (C : gC E cc nL own ws) (d : decode cc pc = .ok (.invokevirtual idx, 3)) (hM : Ct (eL E) y wy fr lo mc ms (.ref b :: As) (eG E) σ τ o (pJ P) (px)) (hT : GoodIn ws (wsV own idx Cl y wy)) (hw : wy = Cond.code y bytes maxL ret :: wy') (hna : As.length = na) (hy : y.cls = Cl ∧ y.cls ≠ "java/lang/invoke/MethodHandle" ∧ y.cls ≠ "java/lang/invoke/VarHandle" ∧ (parseMethodDescriptor y.desc).map (fun d => d.parameters.length) = some na) (hq : (wW (eG E) σ τ o)[q0]? = some (b, .inr (ci, fs))) (hc : vwCl[ci]? = some (Cl, T, N)) (hst : st = As.reverse ++ .ref b :: rest) (hW : (rest.map fun v => v.category).sum ≤ 8) (hR : fr + 1 ≤ (eR E).frames ∧ 8 + (maxL + 11) + lo ≤ (eR E).locals) (hf : k + mc ≤ (eR E).cells ∧ n + ms ≤ (eR E).slots) (kx : ∀ X σ' τ' o', px X σ' τ' o' → GX E (k + mc) (n + ms) pc lv rest σ' τ' o' X) (kk : ∀ r σ' τ' o', P r σ' τ' o' → G E (k + mc) (n + ms) (pc + 3) lv (.long r :: rest) σ' τ' o') : G E k n pc lv st σ τ o := g_callV C d hM hT hw hna hy hq hc hst hW hR hf kx (fun v σ' τ' o' h => by
  obtain ⟨r, rfl, h⟩ := h
  exact kk r σ' τ' o' h)
theorem g_callVd {P : UInt64 → gS → gT → gO → Prop} (C : gC E cc nL own ws) (d : decode cc pc = .ok (.invokevirtual idx, 3)) (hM : Ct (eL E) y wy fr lo mc ms (.ref b :: As) (eG E) σ τ o (pD P) (px)) (hT : GoodIn ws (wsV own idx Cl y wy)) (hw : wy = Cond.code y bytes maxL ret :: wy') (hna : As.length = na) (hy : y.cls = Cl ∧ y.cls ≠ "java/lang/invoke/MethodHandle" ∧ y.cls ≠ "java/lang/invoke/VarHandle" ∧ (parseMethodDescriptor y.desc).map (fun d => d.parameters.length) = some na) (hq : (wW (eG E) σ τ o)[q0]? = some (b, .inr (ci, fs))) (hc : vwCl[ci]? = some (Cl, T, N)) (hst : st = As.reverse ++ .ref b :: rest) (hW : (rest.map fun v => v.category).sum ≤ 8) (hR : fr + 1 ≤ (eR E).frames ∧ 8 + (maxL + 11) + lo ≤ (eR E).locals) (hf : k + mc ≤ (eR E).cells ∧ n + ms ≤ (eR E).slots) (kx : ∀ X σ' τ' o', px X σ' τ' o' → GX E (k + mc) (n + ms) pc lv rest σ' τ' o' X) (kk : ∀ r σ' τ' o', P r σ' τ' o' → G E (k + mc) (n + ms) (pc + 3) lv (.double r :: rest) σ' τ' o') : G E k n pc lv st σ τ o := g_callV C d hM hT hw hna hy hq hc hst hW hR hf kx (fun v σ' τ' o' h => by
  obtain ⟨r, rfl, h⟩ := h
  exact kk r σ' τ' o' h)
theorem g_callVv {P : gS → gT → gO → Prop} (C : gC E cc nL own ws) (d : decode cc pc = .ok (.invokevirtual idx, 3)) (hM : Ct (eL E) y wy fr lo mc ms (.ref b :: As) (eG E) σ τ o (pV P) (px)) (hT : GoodIn ws (wsV own idx Cl y wy)) (hw : wy = Cond.code y bytes maxL ret :: wy') (hna : As.length = na) (hy : y.cls = Cl ∧ y.cls ≠ "java/lang/invoke/MethodHandle" ∧ y.cls ≠ "java/lang/invoke/VarHandle" ∧ (parseMethodDescriptor y.desc).map (fun d => d.parameters.length) = some na) (hq : (wW (eG E) σ τ o)[q0]? = some (b, .inr (ci, fs))) (hc : vwCl[ci]? = some (Cl, T, N)) (hst : st = As.reverse ++ .ref b :: rest) (hW : (rest.map fun v => v.category).sum ≤ 8) (hR : fr + 1 ≤ (eR E).frames ∧ 8 + (maxL + 11) + lo ≤ (eR E).locals) (hf : k + mc ≤ (eR E).cells ∧ n + ms ≤ (eR E).slots) (kx : ∀ X σ' τ' o', px X σ' τ' o' → GX E (k + mc) (n + ms) pc lv rest σ' τ' o' X) (kk : ∀ σ' τ' o', P σ' τ' o' → G E (k + mc) (n + ms) (pc + 3) lv rest σ' τ' o') : G E k n pc lv st σ τ o := g_callV C d hM hT hw hna hy hq hc hst hW hR hf kx (fun v σ' τ' o' h => by
  obtain ⟨rfl, h⟩ := h
  exact kk σ' τ' o' h)
theorem g_callVX {post2 : gPost} {px2 : gPX} {mc2 ms2 : Nat} {ret2 : Option FieldType} {X : String} (C : gC E cc nL own ws) (F : gF E post2 px2 mc2 ms2 ret2) (ht : ∀ x ∈ (eC E).exceptionTable.toList, False) (d : decode cc pc = .ok (.invokevirtual idx, 3)) (hM : Ct (eL E) y wy fr lo mc ms (.ref b :: As) (eG E) σ τ o (noP) (pxE X σ1 τ1 o1)) (hT : GoodIn ws (wsV own idx Cl y wy)) (hw : wy = Cond.code y bytes maxL ret :: wy') (hna : As.length = na) (hy : y.cls = Cl ∧ y.cls ≠ "java/lang/invoke/MethodHandle" ∧ y.cls ≠ "java/lang/invoke/VarHandle" ∧ (parseMethodDescriptor y.desc).map (fun d => d.parameters.length) = some na) (hq : (wW (eG E) σ τ o)[q0]? = some (b, .inr (ci, fs))) (hc : vwCl[ci]? = some (Cl, T, N)) (hst : st = As.reverse ++ .ref b :: rest) (hW : (rest.map fun v => v.category).sum ≤ 8) (hR : fr + 1 ≤ (eR E).frames ∧ 8 + (maxL + 11) + lo ≤ (eR E).locals) (hf : k + mc ≤ (eR E).cells ∧ n + ms ≤ (eR E).slots) (h1 : k + mc ≤ mc2) (h2 : n + ms ≤ ms2) (hp : px2 X σ1 τ1 o1) : G E k n pc lv st σ τ o := g_callV C d hM hT hw hna hy hq hc hst hW hR hf (fun X' σ' τ' o' h => by
  obtain ⟨rfl, rfl, rfl, rfl⟩ := h
  exact gx_out C F ht h1 h2 hp) (fun v σ' τ' o' h => h.elim)
theorem g_callSEi {r : Int32} (C : gC E cc nL own ws) (d : decode cc pc = .ok (.invokestatic idx, 3)) (hM : Ct (eL E) y wy fr lo mc ms As (eG E) σ τ o (pE (some (.int r)) σ1 τ1 o1) (noX)) (hT : GoodIn ws (va_wsS own idx y wy)) (hw : wy = Cond.code y bytes maxL ret :: wy') (hna : As.length = na) (hy : y.cls ≠ "java/lang/invoke/MethodHandle" ∧ y.cls ≠ "java/lang/invoke/VarHandle" ∧ (parseMethodDescriptor y.desc).map (fun d => d.parameters.length) = some na) (hst : st = As.reverse ++ rest) (hW : (rest.map fun v => v.category).sum ≤ 8) (hR : fr + 1 ≤ (eR E).frames ∧ 8 + (maxL + 11) + lo ≤ (eR E).locals) (hf : k + mc ≤ (eR E).cells ∧ n + ms ≤ (eR E).slots) (kk : G E (k + mc) (n + ms) (pc + 3) lv (.int r :: rest) σ1 τ1 o1) : G E k n pc lv st σ τ o := g_callS C d hM hT hw hna hy hst hW hR hf noX_kx (fun v σ' τ' o' h => by
  obtain ⟨rfl, rfl, rfl, rfl⟩ := h
  exact kk)
theorem g_callSEl {r : Int64} (C : gC E cc nL own ws) (d : decode cc pc = .ok (.invokestatic idx, 3)) (hM : Ct (eL E) y wy fr lo mc ms As (eG E) σ τ o (pE (some (.long r)) σ1 τ1 o1) (noX)) (hT : GoodIn ws (va_wsS own idx y wy)) (hw : wy = Cond.code y bytes maxL ret :: wy') (hna : As.length = na) (hy : y.cls ≠ "java/lang/invoke/MethodHandle" ∧ y.cls ≠ "java/lang/invoke/VarHandle" ∧ (parseMethodDescriptor y.desc).map (fun d => d.parameters.length) = some na) (hst : st = As.reverse ++ rest) (hW : (rest.map fun v => v.category).sum ≤ 8) (hR : fr + 1 ≤ (eR E).frames ∧ 8 + (maxL + 11) + lo ≤ (eR E).locals) (hf : k + mc ≤ (eR E).cells ∧ n + ms ≤ (eR E).slots) (kk : G E (k + mc) (n + ms) (pc + 3) lv (.long r :: rest) σ1 τ1 o1) : G E k n pc lv st σ τ o := g_callS C d hM hT hw hna hy hst hW hR hf noX_kx (fun v σ' τ' o' h => by
  obtain ⟨rfl, rfl, rfl, rfl⟩ := h
  exact kk)
theorem g_callSEd {r : UInt64} (C : gC E cc nL own ws) (d : decode cc pc = .ok (.invokestatic idx, 3)) (hM : Ct (eL E) y wy fr lo mc ms As (eG E) σ τ o (pE (some (.double r)) σ1 τ1 o1) (noX)) (hT : GoodIn ws (va_wsS own idx y wy)) (hw : wy = Cond.code y bytes maxL ret :: wy') (hna : As.length = na) (hy : y.cls ≠ "java/lang/invoke/MethodHandle" ∧ y.cls ≠ "java/lang/invoke/VarHandle" ∧ (parseMethodDescriptor y.desc).map (fun d => d.parameters.length) = some na) (hst : st = As.reverse ++ rest) (hW : (rest.map fun v => v.category).sum ≤ 8) (hR : fr + 1 ≤ (eR E).frames ∧ 8 + (maxL + 11) + lo ≤ (eR E).locals) (hf : k + mc ≤ (eR E).cells ∧ n + ms ≤ (eR E).slots) (kk : G E (k + mc) (n + ms) (pc + 3) lv (.double r :: rest) σ1 τ1 o1) : G E k n pc lv st σ τ o := g_callS C d hM hT hw hna hy hst hW hR hf noX_kx (fun v σ' τ' o' h => by
  obtain ⟨rfl, rfl, rfl, rfl⟩ := h
  exact kk)
theorem g_callSEv (C : gC E cc nL own ws) (d : decode cc pc = .ok (.invokestatic idx, 3)) (hM : Ct (eL E) y wy fr lo mc ms As (eG E) σ τ o (pE none σ1 τ1 o1) (noX)) (hT : GoodIn ws (va_wsS own idx y wy)) (hw : wy = Cond.code y bytes maxL ret :: wy') (hna : As.length = na) (hy : y.cls ≠ "java/lang/invoke/MethodHandle" ∧ y.cls ≠ "java/lang/invoke/VarHandle" ∧ (parseMethodDescriptor y.desc).map (fun d => d.parameters.length) = some na) (hst : st = As.reverse ++ rest) (hW : (rest.map fun v => v.category).sum ≤ 8) (hR : fr + 1 ≤ (eR E).frames ∧ 8 + (maxL + 11) + lo ≤ (eR E).locals) (hf : k + mc ≤ (eR E).cells ∧ n + ms ≤ (eR E).slots) (kk : G E (k + mc) (n + ms) (pc + 3) lv rest σ1 τ1 o1) : G E k n pc lv st σ τ o := g_callS C d hM hT hw hna hy hst hW hR hf noX_kx (fun v σ' τ' o' h => by
  obtain ⟨rfl, rfl, rfl, rfl⟩ := h
  exact kk)
theorem g_callSi {P : Int32 → gS → gT → gO → Prop} (C : gC E cc nL own ws) (d : decode cc pc = .ok (.invokestatic idx, 3)) (hM : Ct (eL E) y wy fr lo mc ms As (eG E) σ τ o (pI P) (px)) (hT : GoodIn ws (va_wsS own idx y wy)) (hw : wy = Cond.code y bytes maxL ret :: wy') (hna : As.length = na) (hy : y.cls ≠ "java/lang/invoke/MethodHandle" ∧ y.cls ≠ "java/lang/invoke/VarHandle" ∧ (parseMethodDescriptor y.desc).map (fun d => d.parameters.length) = some na) (hst : st = As.reverse ++ rest) (hW : (rest.map fun v => v.category).sum ≤ 8) (hR : fr + 1 ≤ (eR E).frames ∧ 8 + (maxL + 11) + lo ≤ (eR E).locals) (hf : k + mc ≤ (eR E).cells ∧ n + ms ≤ (eR E).slots) (kx : ∀ X σ' τ' o', px X σ' τ' o' → GX E (k + mc) (n + ms) pc lv rest σ' τ' o' X) (kk : ∀ r σ' τ' o', P r σ' τ' o' → G E (k + mc) (n + ms) (pc + 3) lv (.int r :: rest) σ' τ' o') : G E k n pc lv st σ τ o := g_callS C d hM hT hw hna hy hst hW hR hf kx (fun v σ' τ' o' h => by
  obtain ⟨r, rfl, h⟩ := h
  exact kk r σ' τ' o' h)
theorem g_callSl {P : Int64 → gS → gT → gO → Prop} (C : gC E cc nL own ws) (d : decode cc pc = .ok (.invokestatic idx, 3)) (hM : Ct (eL E) y wy fr lo mc ms As (eG E) σ τ o (pJ P) (px)) (hT : GoodIn ws (va_wsS own idx y wy)) (hw : wy = Cond.code y bytes maxL ret :: wy') (hna : As.length = na) (hy : y.cls ≠ "java/lang/invoke/MethodHandle" ∧ y.cls ≠ "java/lang/invoke/VarHandle" ∧ (parseMethodDescriptor y.desc).map (fun d => d.parameters.length) = some na) (hst : st = As.reverse ++ rest) (hW : (rest.map fun v => v.category).sum ≤ 8) (hR : fr + 1 ≤ (eR E).frames ∧ 8 + (maxL + 11) + lo ≤ (eR E).locals) (hf : k + mc ≤ (eR E).cells ∧ n + ms ≤ (eR E).slots) (kx : ∀ X σ' τ' o', px X σ' τ' o' → GX E (k + mc) (n + ms) pc lv rest σ' τ' o' X) (kk : ∀ r σ' τ' o', P r σ' τ' o' → G E (k + mc) (n + ms) (pc + 3) lv (.long r :: rest) σ' τ' o') : G E k n pc lv st σ τ o := g_callS C d hM hT hw hna hy hst hW hR hf kx (fun v σ' τ' o' h => by
  obtain ⟨r, rfl, h⟩ := h
  exact kk r σ' τ' o' h)
theorem g_callSd {P : UInt64 → gS → gT → gO → Prop} (C : gC E cc nL own ws) (d : decode cc pc = .ok (.invokestatic idx, 3)) (hM : Ct (eL E) y wy fr lo mc ms As (eG E) σ τ o (pD P) (px)) (hT : GoodIn ws (va_wsS own idx y wy)) (hw : wy = Cond.code y bytes maxL ret :: wy') (hna : As.length = na) (hy : y.cls ≠ "java/lang/invoke/MethodHandle" ∧ y.cls ≠ "java/lang/invoke/VarHandle" ∧ (parseMethodDescriptor y.desc).map (fun d => d.parameters.length) = some na) (hst : st = As.reverse ++ rest) (hW : (rest.map fun v => v.category).sum ≤ 8) (hR : fr + 1 ≤ (eR E).frames ∧ 8 + (maxL + 11) + lo ≤ (eR E).locals) (hf : k + mc ≤ (eR E).cells ∧ n + ms ≤ (eR E).slots) (kx : ∀ X σ' τ' o', px X σ' τ' o' → GX E (k + mc) (n + ms) pc lv rest σ' τ' o' X) (kk : ∀ r σ' τ' o', P r σ' τ' o' → G E (k + mc) (n + ms) (pc + 3) lv (.double r :: rest) σ' τ' o') : G E k n pc lv st σ τ o := g_callS C d hM hT hw hna hy hst hW hR hf kx (fun v σ' τ' o' h => by
  obtain ⟨r, rfl, h⟩ := h
  exact kk r σ' τ' o' h)
theorem g_callSv {P : gS → gT → gO → Prop} (C : gC E cc nL own ws) (d : decode cc pc = .ok (.invokestatic idx, 3)) (hM : Ct (eL E) y wy fr lo mc ms As (eG E) σ τ o (pV P) (px)) (hT : GoodIn ws (va_wsS own idx y wy)) (hw : wy = Cond.code y bytes maxL ret :: wy') (hna : As.length = na) (hy : y.cls ≠ "java/lang/invoke/MethodHandle" ∧ y.cls ≠ "java/lang/invoke/VarHandle" ∧ (parseMethodDescriptor y.desc).map (fun d => d.parameters.length) = some na) (hst : st = As.reverse ++ rest) (hW : (rest.map fun v => v.category).sum ≤ 8) (hR : fr + 1 ≤ (eR E).frames ∧ 8 + (maxL + 11) + lo ≤ (eR E).locals) (hf : k + mc ≤ (eR E).cells ∧ n + ms ≤ (eR E).slots) (kx : ∀ X σ' τ' o', px X σ' τ' o' → GX E (k + mc) (n + ms) pc lv rest σ' τ' o' X) (kk : ∀ σ' τ' o', P σ' τ' o' → G E (k + mc) (n + ms) (pc + 3) lv rest σ' τ' o') : G E k n pc lv st σ τ o := g_callS C d hM hT hw hna hy hst hW hR hf kx (fun v σ' τ' o' h => by
  obtain ⟨rfl, h⟩ := h
  exact kk σ' τ' o' h)
theorem g_callSX {post2 : gPost} {px2 : gPX} {mc2 ms2 : Nat} {ret2 : Option FieldType} {X : String} (C : gC E cc nL own ws) (F : gF E post2 px2 mc2 ms2 ret2) (ht : ∀ x ∈ (eC E).exceptionTable.toList, False) (d : decode cc pc = .ok (.invokestatic idx, 3)) (hM : Ct (eL E) y wy fr lo mc ms As (eG E) σ τ o (noP) (pxE X σ1 τ1 o1)) (hT : GoodIn ws (va_wsS own idx y wy)) (hw : wy = Cond.code y bytes maxL ret :: wy') (hna : As.length = na) (hy : y.cls ≠ "java/lang/invoke/MethodHandle" ∧ y.cls ≠ "java/lang/invoke/VarHandle" ∧ (parseMethodDescriptor y.desc).map (fun d => d.parameters.length) = some na) (hst : st = As.reverse ++ rest) (hW : (rest.map fun v => v.category).sum ≤ 8) (hR : fr + 1 ≤ (eR E).frames ∧ 8 + (maxL + 11) + lo ≤ (eR E).locals) (hf : k + mc ≤ (eR E).cells ∧ n + ms ≤ (eR E).slots) (h1 : k + mc ≤ mc2) (h2 : n + ms ≤ ms2) (hp : px2 X σ1 τ1 o1) : G E k n pc lv st σ τ o := g_callS C d hM hT hw hna hy hst hW hR hf (fun X' σ' τ' o' h => by
  obtain ⟨rfl, rfl, rfl, rfl⟩ := h
  exact gx_out C F ht h1 h2 hp) (fun v σ' τ' o' h => h.elim)
end GCALL2
theorem g_topi {E : gE} {k n pc : Nat} {lv : List (Nat × Value)} {st : List Value} {σ : gS} {τ : gT} {o : gO} {x y : Int32} (h : x = y) (kk : G E k n pc lv (.int y :: st) σ τ o) : G E k n pc lv (.int x :: st) σ τ o := by rw [h]; exact kk
theorem nI_i1 (a : Nat) : nI a + Int32.ofInt 1 = nI (a + 1) := nI_1 a
theorem nI_i2 (a : Nat) : nI a + Int32.ofInt 2 = nI (a + 2) := (nI_add a 2)
theorem nI_im (a : Nat) : nI (a + 1) + Int32.ofInt (-1) = nI a := pk_m1 a
end
section
/-! the class's leaves: contracts -/
/-- hasBit -/
def hb (x y : Int32) : Int32 := if (x >>> (y &&& 31)) &&& 1 = 1 then 1 else 0
theorem hb_01 (x y : Int32) : hb x y = 0 ∨ hb x y = 1 := by unfold hb; split <;> simp
/-- countOfLetters -/
def cn (lm L : Int32) : Int32 := (L + lm - 1) / lm
/-- mayHold -/
def mh (nl : Nat) (S Tg : Nat → Int32) (p : Nat) (w : Int32) : Int32 := if p < nl then hb (S (Tg p).toNatClampNeg) w else 0
/-- the least count, where there is a word -/
def al (nl : Nat) (lc x : Int32) : Int32 := if nl = 0 then 0 else if x < lc then lc else x
set_option maxHeartbeats 4000000 in
set_option maxRecDepth 100000 in
theorem c_hasBit {l : Launch} (hl : l.stackTraces = false) (Γ : gG) (σ : gS) (τ : gT) (o : gO) (x y : Int32) : Ct l yX0_hasBit wsX0_hasBit 1 32 0 0 [.int x, .int y] Γ σ τ o (pE (some (.int (hb x y))) σ τ o) (noX) := by
  refine ct_of hl (by decide +kernel) rfl (Nat.le_of_ble_eq_true rfl) ?_
  intro E C F T hΓ hL R
  subst hΓ
  subst hL
  show G E 0 0 0 [(0, .int x), (1, .int y)] [] σ τ o
  refine g_iload_n C dX0_hasBit_0 rfl rfl ?_
  refine g_iload_n C dX0_hasBit_1 rfl rfl ?_
  refine g_ishr C dX0_hasBit_2 ?_
  refine g_iconst (v := 1) C dX0_hasBit_3 (by decide) ?_
  refine g_iand C dX0_hasBit_4 ?_
  refine g_iconst (v := 1) C dX0_hasBit_5 (by decide) ?_
  refine g_icmp_ne (tgt := 13) C dX0_hasBit_6 (by decide) (fun c_6 => ?_) (fun c_6 => ?_)
  · have e : hb x y = 0 := by simp [hb, c_6]
    refine g_iconst (v := 0) C dX0_hasBit_13 (by decide) ?_
    exact g_zret C F dX0_hasBit_14 (by first | exact Or.inl rfl | exact Or.inr rfl) (by decide) (by decide) ⟨by rw [e], rfl, rfl, rfl⟩
  · have e : hb x y = 1 := by simp [hb, c_6]
    refine g_iconst (v := 1) C dX0_hasBit_9 (by decide) ?_
    refine g_goto (tgt := 14) C dX0_hasBit_10 (by decide) ?_
    exact g_zret C F dX0_hasBit_14 (by first | exact Or.inl rfl | exact Or.inr rfl) (by decide) (by decide) ⟨by rw [e], rfl, rfl, rfl⟩
set_option maxRecDepth 100000 in
theorem mwX0_countOfLetters_inX : ∀ w ∈ wsX00, w ∈ wsX0_countOfLetters := by decide +kernel
set_option maxRecDepth 100000 in
theorem mwX0_countOfLetters_f23 : Cond.fieldLink RX0 23 "TelegraphPrices" "limit" "I" ∈ wsX0_countOfLetters := by decide +kernel
set_option maxHeartbeats 4000000 in
set_option maxRecDepth 100000 in
theorem c_cnt {l : Launch} (hl : l.stackTraces = false) (Γ : gG) (σ : gS) (τ : gT) (o : gO) (x : Int32) (h4 : ¬ σ 4 = 0) : Ct l yX0_countOfLetters wsX0_countOfLetters 1 32 0 0 [.ref (Γ.2.1 100), .int x] Γ σ τ o (pE (some (.int (cn (σ 4) x))) σ τ o) (noX) := by
  refine ct_of hl (by decide +kernel) rfl (Nat.le_of_ble_eq_true rfl) ?_
  intro E C F T hΓ hL R
  subst hΓ
  subst hL
  show G E 0 0 0 [(0, .ref ((eG E).2.1 100)), (1, .int x)] [] σ τ o
  refine g_iload_n C dX0_countOfLetters_0 rfl rfl ?_
  refine g_aload_n C dX0_countOfLetters_1 rfl rfl ?_
  refine g_getX C 4 dX0_countOfLetters_2 mwX0_countOfLetters_inX (by decide) mwX0_countOfLetters_f23 rfl rfl ?_
  refine g_iadd C dX0_countOfLetters_5 ?_
  refine g_iconst (v := 1) C dX0_countOfLetters_6 (by decide) ?_
  refine g_isub C dX0_countOfLetters_7 ?_
  refine g_aload_n C dX0_countOfLetters_8 rfl rfl ?_
  refine g_getX C 4 dX0_countOfLetters_9 mwX0_countOfLetters_inX (by decide) mwX0_countOfLetters_f23 rfl rfl ?_
  refine g_idiv C dX0_countOfLetters_12 h4 ?_
  exact g_iret C F dX0_countOfLetters_13 (by decide) (by decide) ⟨rfl, rfl, rfl, rfl⟩
set_option maxRecDepth 100000 in
theorem mwX0_countOfPair_inX : ∀ w ∈ wsX00, w ∈ wsX0_countOfPair := by decide +kernel
set_option maxRecDepth 100000 in
theorem mwX0_countOfPair_f9 : Cond.fieldLink RX0 9 "TelegraphPrices" "letters" "[I" ∈ wsX0_countOfPair := by decide +kernel
set_option maxHeartbeats 4000000 in
set_option maxRecDepth 100000 in
theorem c_cntPair {l : Launch} (hl : l.stackTraces = false) (Γ : gG) (σ : gS) (τ : gT) (o : gO) (x y : Int32) (h4 : ¬ σ 4 = 0) (hx : vp_in x 12) (hy : vp_in y 12) : Ct l yX0_countOfPair wsX0_countOfPair 2 64 0 0 [.ref (Γ.2.1 100), .int x, .int y] Γ σ τ o (pE (some (.int (cn (σ 4) (τ 0 x.toNatClampNeg + τ 0 y.toNatClampNeg)))) σ τ o) (noX) := by
  refine ct_of hl (by decide +kernel) rfl (Nat.le_of_ble_eq_true rfl) ?_
  intro E C F T hΓ hL R
  subst hΓ
  subst hL
  show G E 0 0 0 [(0, .ref ((eG E).2.1 100)), (1, .int x), (2, .int y)] [] σ τ o
  refine g_aload_n C dX0_countOfPair_0 rfl rfl ?_
  refine g_aload_n C dX0_countOfPair_1 rfl rfl ?_
  refine g_getX C 0 dX0_countOfPair_2 mwX0_countOfPair_inX (by decide) mwX0_countOfPair_f9 rfl rfl ?_
  refine g_iload_n C dX0_countOfPair_5 rfl rfl ?_
  refine g_iald C dX0_countOfPair_6 rfl hx ?_
  refine g_aload_n C dX0_countOfPair_7 rfl rfl ?_
  refine g_getX C 0 dX0_countOfPair_8 mwX0_countOfPair_inX (by decide) mwX0_countOfPair_f9 rfl rfl ?_
  refine g_iload_n C dX0_countOfPair_11 rfl rfl ?_
  refine g_iald C dX0_countOfPair_12 rfl hy ?_
  refine g_iadd C dX0_countOfPair_13 ?_
  refine g_callVEi (Cl := RX0) (T := TX0) (N := 18) (ci := 0) (q0 := 0) (na := 1) C dX0_countOfPair_14 (c_cnt hl (eG E) σ τ o _ h4) gX0_countOfPair_X0_countOfLetters rfl rfl (by decide +kernel) rfl rfl rfl (by decide) (by rw [R]; exact ⟨by decide, by decide⟩) (by rw [R]; exact ⟨by decide, by decide⟩) ?_
  exact g_iret C F dX0_countOfPair_17 (by decide) (by decide) ⟨rfl, rfl, rfl, rfl⟩
set_option maxRecDepth 100000 in
theorem mwX0_atLeastTheLeastCount_inX : ∀ w ∈ wsX00, w ∈ wsX0_atLeastTheLeastCount := by decide +kernel
set_option maxRecDepth 100000 in
theorem mwX0_atLeastTheLeastCount_f39 : Cond.fieldLink RX0 39 "TelegraphPrices" "length" "I" ∈ wsX0_atLeastTheLeastCount := by decide +kernel
set_option maxRecDepth 100000 in
theorem mwX0_atLeastTheLeastCount_f26 : Cond.fieldLink RX0 26 "TelegraphPrices" "leastCount" "I" ∈ wsX0_atLeastTheLeastCount := by decide +kernel
set_option maxRecDepth 100000 in
theorem mwX0_atLeastTheLeastCount_l175 : Cond.methodLink RX0 175 Lib.Math.max.name ∈ wsX0_atLeastTheLeastCount := by decide +kernel
set_option maxRecDepth 100000 in
theorem mwX0_atLeastTheLeastCount_smax : Cond.static Lib.Math.max.name ∈ wsX0_atLeastTheLeastCount := by decide +kernel
set_option maxRecDepth 100000 in
theorem mwX0_atLeastTheLeastCount_iMath : Cond.initialized "java/lang/Math" ∈ wsX0_atLeastTheLeastCount := by decide +kernel
set_option maxRecDepth 100000 in
theorem mwX0_atLeastTheLeastCount_kmax : Cond.code Lib.Math.max.name Lib.Math.max.code 2 (some .int) ∈ wsX0_atLeastTheLeastCount := by decide +kernel
set_option maxHeartbeats 4000000 in
set_option maxRecDepth 100000 in
theorem c_alc {l : Launch} (hl : l.stackTraces = false) (Γ : gG) (σ : gS) (τ : gT) (o : gO) (nl : Nat) (x : Int32) (h9 : σ 9 = nI nl) (hn : nl ≤ 16) : Ct l yX0_atLeastTheLeastCount wsX0_atLeastTheLeastCount 1 32 0 0 [.ref (Γ.2.1 100), .int x] Γ σ τ o (pE (some (.int (al nl (σ 5) x))) σ τ o) (noX) := by
  refine ct_of hl (by decide +kernel) rfl (Nat.le_of_ble_eq_true rfl) ?_
  intro E C F T hΓ hL R
  subst hΓ
  subst hL
  show G E 0 0 0 [(0, .ref ((eG E).2.1 100)), (1, .int x)] [] σ τ o
  refine g_aload_n C dX0_atLeastTheLeastCount_0 rfl rfl ?_
  refine g_getX C 9 dX0_atLeastTheLeastCount_1 mwX0_atLeastTheLeastCount_inX (by decide) mwX0_atLeastTheLeastCount_f39 rfl rfl ?_
  refine g_if_ne (tgt := 11) C dX0_atLeastTheLeastCount_4 (by decide) (fun c_4 => ?_) (fun c_4 => ?_)
  · have e : al nl (σ 5) x = (if x < σ 5 then σ 5 else x) := by
      unfold al
      rw [if_neg (fun z => c_4 (by rw [h9, z]; rfl))]
    refine g_iload_n C dX0_atLeastTheLeastCount_11 rfl rfl ?_
    refine g_aload_n C dX0_atLeastTheLeastCount_12 rfl rfl ?_
    refine g_getX C 5 dX0_atLeastTheLeastCount_13 mwX0_atLeastTheLeastCount_inX (by decide) mwX0_atLeastTheLeastCount_f26 rfl rfl ?_
    refine g_mmax C dX0_atLeastTheLeastCount_16 mwX0_atLeastTheLeastCount_l175 mwX0_atLeastTheLeastCount_smax mwX0_atLeastTheLeastCount_iMath mwX0_atLeastTheLeastCount_kmax (by rw [R]; exact ⟨by decide, by decide, by decide, by decide⟩) ?_
    exact g_iret C F dX0_atLeastTheLeastCount_19 (by decide) (by decide) ⟨by rw [e], rfl, rfl, rfl⟩
  · have e : al nl (σ 5) x = 0 := by
      unfold al
      rw [h9] at c_4
      rw [if_pos (by rcases Nat.eq_zero_or_pos nl with z | z
                     · exact z
                     · exact absurd c_4 (nI_ne0 z (by omega)))]
    refine g_iconst (v := 0) C dX0_atLeastTheLeastCount_7 (by decide) ?_
    refine g_goto (tgt := 19) C dX0_atLeastTheLeastCount_8 (by decide) ?_
    exact g_iret C F dX0_atLeastTheLeastCount_19 (by decide) (by decide) ⟨by rw [e], rfl, rfl, rfl⟩
set_option maxRecDepth 100000 in
theorem mwX0_mayHold_inX : ∀ w ∈ wsX00, w ∈ wsX0_mayHold := by decide +kernel
set_option maxRecDepth 100000 in
theorem mwX0_mayHold_f39 : Cond.fieldLink RX0 39 "TelegraphPrices" "length" "I" ∈ wsX0_mayHold := by decide +kernel
set_option maxRecDepth 100000 in
theorem mwX0_mayHold_f13 : Cond.fieldLink RX0 13 "TelegraphPrices" "standIns" "[I" ∈ wsX0_mayHold := by decide +kernel
set_option maxRecDepth 100000 in
theorem mwX0_mayHold_f32 : Cond.fieldLink RX0 32 "TelegraphPrices" "telegram" "[I" ∈ wsX0_mayHold := by decide +kernel
set_option maxHeartbeats 4000000 in
set_option maxRecDepth 100000 in
theorem c_mayHold {l : Launch} (hl : l.stackTraces = false) (Γ : gG) (σ : gS) (τ : gT) (o : gO) (nl p : Nat) (w : Int32) (h9 : σ 9 = nI nl) (hn : nl ≤ 16) (hp : p < 2 ^ 30) (ht : p < nl → vp_in (τ 7 p) 12) : Ct l yX0_mayHold wsX0_mayHold 2 64 0 0 [.ref (Γ.2.1 100), .int (nI p), .int w] Γ σ τ o (pE (some (.int (mh nl (τ 1) (τ 7) p w))) σ τ o) (noX) := by
  refine ct_of hl (by decide +kernel) rfl (Nat.le_of_ble_eq_true rfl) ?_
  intro E C F T hΓ hL R
  subst hΓ
  subst hL
  show G E 0 0 0 [(0, .ref ((eG E).2.1 100)), (1, .int (nI p)), (2, .int w)] [] σ τ o
  refine g_iload_n C dX0_mayHold_0 rfl rfl ?_
  refine g_aload_n C dX0_mayHold_1 rfl rfl ?_
  refine g_getX C 9 dX0_mayHold_2 mwX0_mayHold_inX (by decide) mwX0_mayHold_f39 rfl rfl ?_
  refine g_icmp_ge (tgt := 30) C dX0_mayHold_5 (by decide) (fun c_5 => ?_) (fun c_5 => ?_)
  · have hge : nl ≤ p := by
      rw [h9] at c_5
      exact (nI_leI (by omega) (by omega)).mp c_5
    have e : mh nl (τ 1) (τ 7) p w = 0 := by
      unfold mh
      rw [if_neg (by omega)]
    refine g_iconst (v := 0) C dX0_mayHold_30 (by decide) ?_
    exact g_zret C F dX0_mayHold_31 (by first | exact Or.inl rfl | exact Or.inr rfl) (by decide) (by decide) ⟨by rw [e], rfl, rfl, rfl⟩
  · have hlt : p < nl := by
      rw [h9] at c_5
      exact Nat.not_le.mp (fun q => c_5 ((nI_leI (by omega) (by omega)).mpr q))
    have e0 : mh nl (τ 1) (τ 7) p w = hb (τ 1 (τ 7 p).toNatClampNeg) w := by
      unfold mh
      rw [if_pos hlt]
    refine g_aload_n C dX0_mayHold_8 rfl rfl ?_
    refine g_getX C 1 dX0_mayHold_9 mwX0_mayHold_inX (by decide) mwX0_mayHold_f13 rfl rfl ?_
    refine g_aload_n C dX0_mayHold_12 rfl rfl ?_
    refine g_getX C 7 dX0_mayHold_13 mwX0_mayHold_inX (by decide) mwX0_mayHold_f32 rfl rfl ?_
    refine g_iload_n C dX0_mayHold_16 rfl rfl ?_
    refine g_ialdN C (p) dX0_mayHold_17 rfl rfl (show p < 16 by omega) (by decide) ?_
    refine g_iald C dX0_mayHold_18 rfl (ht hlt) ?_
    refine g_iload_n C dX0_mayHold_19 rfl rfl ?_
    refine g_callSEi (na := 2) C dX0_mayHold_20 (c_hasBit hl (eG E) σ τ o _ _) gX0_mayHold_X0_hasBit rfl rfl (by decide +kernel) rfl (by decide) (by rw [R]; exact ⟨by decide, by decide⟩) (by rw [R]; exact ⟨by decide, by decide⟩) ?_
    refine g_if_eq (tgt := 30) C dX0_mayHold_23 (by decide) (fun c_23 => ?_) (fun c_23 => ?_)
    · have e : mh nl (τ 1) (τ 7) p w = 0 := by rw [e0]; exact c_23
      refine g_iconst (v := 0) C dX0_mayHold_30 (by decide) ?_
      exact g_zret C F dX0_mayHold_31 (by first | exact Or.inl rfl | exact Or.inr rfl) (by decide) (by decide) ⟨by rw [e], rfl, rfl, rfl⟩
    · have e : mh nl (τ 1) (τ 7) p w = 1 := by rw [e0]; exact (hb_01 _ _).resolve_left c_23
      refine g_iconst (v := 1) C dX0_mayHold_26 (by decide) ?_
      refine g_goto (tgt := 31) C dX0_mayHold_27 (by decide) ?_
      exact g_zret C F dX0_mayHold_31 (by first | exact Or.inl rfl | exact Or.inr rfl) (by decide) (by decide) ⟨by rw [e], rfl, rfl, rfl⟩
set_option maxRecDepth 100000 in
theorem mwX0_needWord_inX : ∀ w ∈ wsX00, w ∈ wsX0_needWord := by decide +kernel
set_option maxRecDepth 100000 in
theorem mwX0_needWord_f19 : Cond.fieldLink RX0 19 "TelegraphPrices" "words" "I" ∈ wsX0_needWord := by decide +kernel
set_option maxHeartbeats 4000000 in
set_option maxRecDepth 100000 in
theorem c_needWord {l : Launch} (hl : l.stackTraces = false) (Γ : gG) (σ : gS) (τ : gT) (o : gO) (w : Int32) (h0 : ¬ w < 0) (h1 : w < σ 3) : Ct l yX0_needWord wsX0_needWord 1 32 0 0 [.ref (Γ.2.1 100), .int w] Γ σ τ o (pE (none) σ τ o) (noX) := by
  refine ct_of hl (by decide +kernel) rfl (Nat.le_of_ble_eq_true rfl) ?_
  intro E C F T hΓ hL R
  subst hΓ
  subst hL
  show G E 0 0 0 [(0, .ref ((eG E).2.1 100)), (1, .int w)] [] σ τ o
  refine g_iload_n C dX0_needWord_0 rfl rfl ?_
  refine g_if_lt (tgt := 12) C dX0_needWord_1 (by decide) (fun c_1 => ?_) (fun c_1 => ?_)
  · exact absurd c_1 h0
  · refine g_iload_n C dX0_needWord_4 rfl rfl ?_
    refine g_aload_n C dX0_needWord_5 rfl rfl ?_
    refine g_getX C 3 dX0_needWord_6 mwX0_needWord_inX (by decide) mwX0_needWord_f19 rfl rfl ?_
    refine g_icmp_lt (tgt := 22) C dX0_needWord_9 (by decide) (fun c_9 => ?_) (fun c_9 => ?_)
    · exact g_vret C F dX0_needWord_22 (by decide) (by decide) ⟨rfl, rfl, rfl, rfl⟩
    · exact absurd h1 c_9
set_option maxRecDepth 100000 in
theorem mwX0_needWord_k133 : Cond.classLink RX0 133 "java/lang/IndexOutOfBoundsException" ∈ wsX0_needWord := by decide +kernel
set_option maxRecDepth 100000 in
theorem mwX0_needWord_n133 : Cond.initialized "java/lang/IndexOutOfBoundsException" ∈ wsX0_needWord := by decide +kernel
set_option maxRecDepth 100000 in
theorem mwX0_needWord_a133 : ∀ w ∈ (vx_atS RX0 137 "java/lang/IndexOutOfBoundsException" ["java/lang/RuntimeException", "java/lang/Exception"]).filter goodWord, w ∈ wsX0_needWord := by decide +kernel
set_option maxHeartbeats 4000000 in
set_option maxRecDepth 100000 in
theorem c_needWordX {l : Launch} (hl : l.stackTraces = false) (Γ : gG) (σ : gS) (τ : gT) (o : gO) (w : Int32) (h0 : w < 0 ∨ ¬ w < σ 3) : Ct l yX0_needWord wsX0_needWord 6 192 1 6 [.ref (Γ.2.1 100), .int w] Γ σ τ o (noP) (pxE "java/lang/IndexOutOfBoundsException" σ τ o) := by
  refine ct_of hl (by decide +kernel) rfl (Nat.le_of_ble_eq_true rfl) ?_
  intro E C F T hΓ hL R
  subst hΓ
  subst hL
  show G E 0 0 0 [(0, .ref ((eG E).2.1 100)), (1, .int w)] [] σ τ o
  refine g_iload_n C dX0_needWord_0 rfl rfl ?_
  refine g_if_lt (tgt := 12) C dX0_needWord_1 (by decide) (fun c_1 => ?_) (fun c_1 => ?_)
  · exact g_throw (text := "there is no such word") C F T dX0_needWord_12 dX0_needWord_15 dX0_needWord_16 dX0_needWord_18 dX0_needWord_21 (by decide +kernel) (by decide +kernel) mwX0_needWord_k133 mwX0_needWord_n133 (by decide +kernel) (by decide +kernel) g_at137 mwX0_needWord_a133 (by rw [R]; exact ⟨by decide, by decide, by decide, by decide⟩) (by decide) (by decide) ⟨rfl, rfl, rfl, rfl⟩
  · refine g_iload_n C dX0_needWord_4 rfl rfl ?_
    refine g_aload_n C dX0_needWord_5 rfl rfl ?_
    refine g_getX C 3 dX0_needWord_6 mwX0_needWord_inX (by decide) mwX0_needWord_f19 rfl rfl ?_
    refine g_icmp_lt (tgt := 22) C dX0_needWord_9 (by decide) (fun c_9 => ?_) (fun c_9 => ?_)
    · rcases h0 with h0 | h0
      · exact absurd h0 c_1
      · exact absurd c_9 h0
    · exact g_throw (text := "there is no such word") C F T dX0_needWord_12 dX0_needWord_15 dX0_needWord_16 dX0_needWord_18 dX0_needWord_21 (by decide +kernel) (by decide +kernel) mwX0_needWord_k133 mwX0_needWord_n133 (by decide +kernel) (by decide +kernel) g_at137 mwX0_needWord_a133 (by rw [R]; exact ⟨by decide, by decide, by decide, by decide⟩) (by decide) (by decide) ⟨rfl, rfl, rfl, rfl⟩
set_option maxRecDepth 100000 in
theorem mwX0_needPlace_inX : ∀ w ∈ wsX00, w ∈ wsX0_needPlace := by decide +kernel
set_option maxRecDepth 100000 in
theorem mwX0_needPlace_f39 : Cond.fieldLink RX0 39 "TelegraphPrices" "length" "I" ∈ wsX0_needPlace := by decide +kernel
set_option maxHeartbeats 4000000 in
set_option maxRecDepth 100000 in
theorem c_needPlace {l : Launch} (hl : l.stackTraces = false) (Γ : gG) (σ : gS) (τ : gT) (o : gO) (w : Int32) (h0 : ¬ w < 0) (h1 : w < σ 9) : Ct l yX0_needPlace wsX0_needPlace 1 32 0 0 [.ref (Γ.2.1 100), .int w] Γ σ τ o (pE (none) σ τ o) (noX) := by
  refine ct_of hl (by decide +kernel) rfl (Nat.le_of_ble_eq_true rfl) ?_
  intro E C F T hΓ hL R
  subst hΓ
  subst hL
  show G E 0 0 0 [(0, .ref ((eG E).2.1 100)), (1, .int w)] [] σ τ o
  refine g_iload_n C dX0_needPlace_0 rfl rfl ?_
  refine g_if_lt (tgt := 12) C dX0_needPlace_1 (by decide) (fun c_1 => ?_) (fun c_1 => ?_)
  · exact absurd c_1 h0
  · refine g_iload_n C dX0_needPlace_4 rfl rfl ?_
    refine g_aload_n C dX0_needPlace_5 rfl rfl ?_
    refine g_getX C 9 dX0_needPlace_6 mwX0_needPlace_inX (by decide) mwX0_needPlace_f39 rfl rfl ?_
    refine g_icmp_lt (tgt := 22) C dX0_needPlace_9 (by decide) (fun c_9 => ?_) (fun c_9 => ?_)
    · exact g_vret C F dX0_needPlace_22 (by decide) (by decide) ⟨rfl, rfl, rfl, rfl⟩
    · exact absurd h1 c_9
set_option maxRecDepth 100000 in
theorem mwX0_needPlace_k133 : Cond.classLink RX0 133 "java/lang/IndexOutOfBoundsException" ∈ wsX0_needPlace := by decide +kernel
set_option maxRecDepth 100000 in
theorem mwX0_needPlace_n133 : Cond.initialized "java/lang/IndexOutOfBoundsException" ∈ wsX0_needPlace := by decide +kernel
set_option maxRecDepth 100000 in
theorem mwX0_needPlace_a133 : ∀ w ∈ (vx_atS RX0 137 "java/lang/IndexOutOfBoundsException" ["java/lang/RuntimeException", "java/lang/Exception"]).filter goodWord, w ∈ wsX0_needPlace := by decide +kernel
set_option maxHeartbeats 4000000 in
set_option maxRecDepth 100000 in
theorem c_needPlaceX {l : Launch} (hl : l.stackTraces = false) (Γ : gG) (σ : gS) (τ : gT) (o : gO) (w : Int32) (h0 : w < 0 ∨ ¬ w < σ 9) : Ct l yX0_needPlace wsX0_needPlace 6 192 1 6 [.ref (Γ.2.1 100), .int w] Γ σ τ o (noP) (pxE "java/lang/IndexOutOfBoundsException" σ τ o) := by
  refine ct_of hl (by decide +kernel) rfl (Nat.le_of_ble_eq_true rfl) ?_
  intro E C F T hΓ hL R
  subst hΓ
  subst hL
  show G E 0 0 0 [(0, .ref ((eG E).2.1 100)), (1, .int w)] [] σ τ o
  refine g_iload_n C dX0_needPlace_0 rfl rfl ?_
  refine g_if_lt (tgt := 12) C dX0_needPlace_1 (by decide) (fun c_1 => ?_) (fun c_1 => ?_)
  · exact g_throw (text := "there is no such place") C F T dX0_needPlace_12 dX0_needPlace_15 dX0_needPlace_16 dX0_needPlace_18 dX0_needPlace_21 (by decide +kernel) (by decide +kernel) mwX0_needPlace_k133 mwX0_needPlace_n133 (by decide +kernel) (by decide +kernel) g_at137 mwX0_needPlace_a133 (by rw [R]; exact ⟨by decide, by decide, by decide, by decide⟩) (by decide) (by decide) ⟨rfl, rfl, rfl, rfl⟩
  · refine g_iload_n C dX0_needPlace_4 rfl rfl ?_
    refine g_aload_n C dX0_needPlace_5 rfl rfl ?_
    refine g_getX C 9 dX0_needPlace_6 mwX0_needPlace_inX (by decide) mwX0_needPlace_f39 rfl rfl ?_
    refine g_icmp_lt (tgt := 22) C dX0_needPlace_9 (by decide) (fun c_9 => ?_) (fun c_9 => ?_)
    · rcases h0 with h0 | h0
      · exact absurd h0 c_1
      · exact absurd c_9 h0
    · exact g_throw (text := "there is no such place") C F T dX0_needPlace_12 dX0_needPlace_15 dX0_needPlace_16 dX0_needPlace_18 dX0_needPlace_21 (by decide +kernel) (by decide +kernel) mwX0_needPlace_k133 mwX0_needPlace_n133 (by decide +kernel) (by decide +kernel) g_at137 mwX0_needPlace_a133 (by rw [R]; exact ⟨by decide, by decide, by decide, by decide⟩) (by decide) (by decide) ⟨rfl, rfl, rfl, rfl⟩
end
section
/-! the search of the class -/
/-- what stands of a state: words, places, limit; letters, stand-ins, telegram, joined, the cheapest's joined -/
def Iv (nw nl lm : Nat) (a3 a9 a4 : Int32) (L S Tg Jd Cj : Nat → Int32) : Prop :=
  a3 = nI nw ∧ a9 = nI nl ∧ a4 = nI lm ∧ nw ≤ 12 ∧ nl ≤ 16 ∧ 3 ≤ lm ∧ lm ≤ 15 ∧ (∀ i, i < nl → ∃ w, w < nw ∧ Tg i = nI w) ∧ (∀ i, Jd i = 0 ∨ Jd i = 1) ∧ (∀ i, Cj i = 0 ∨ Cj i = 1) ∧ (0 < nl → Jd (nl - 1) = 0) ∧ (∀ w, w < nw → ∃ x, 1 ≤ x ∧ x ≤ 30 ∧ L w = nI x) ∧ (∀ w, w < nw → ∃ x, S w = nI x ∧ x < 2 ^ nw ∧ x.testBit w = true)
def IX (σ : gS) (τ : gT) (nw nl lm : Nat) : Prop := Iv nw nl lm (σ 3) (σ 9) (σ 4) (τ 0) (τ 1) (τ 7) (τ 8) (τ 17)
def IM (σ : gS) (τ : gT) (nw nl lm : Nat) : Prop := Iv nw nl lm (σ 21) (σ 30) (σ 22) (τ 27) (τ 28) (τ 31) (τ 32) (τ 35)
section
variable {nw nl lm : Nat} {a3 a9 a4 : Int32} {L S Tg Jd Cj : Nat → Int32}
theorem Iv_h3 (I : Iv nw nl lm a3 a9 a4 L S Tg Jd Cj) : a3 = nI nw := I.1
theorem Iv_h9 (I : Iv nw nl lm a3 a9 a4 L S Tg Jd Cj) : a9 = nI nl := I.2.1
theorem Iv_h4 (I : Iv nw nl lm a3 a9 a4 L S Tg Jd Cj) : a4 = nI lm := I.2.2.1
theorem Iv_nw (I : Iv nw nl lm a3 a9 a4 L S Tg Jd Cj) : nw ≤ 12 := I.2.2.2.1
theorem Iv_nl (I : Iv nw nl lm a3 a9 a4 L S Tg Jd Cj) : nl ≤ 16 := I.2.2.2.2.1
theorem Iv_lm (I : Iv nw nl lm a3 a9 a4 L S Tg Jd Cj) : 3 ≤ lm ∧ lm ≤ 15 := ⟨I.2.2.2.2.2.1, I.2.2.2.2.2.2.1⟩
theorem Iv_ne (I : Iv nw nl lm a3 a9 a4 L S Tg Jd Cj) : ¬ a4 = 0 := by
  rw [Iv_h4 I]
  have := (Iv_lm I)
  exact nI_ne0 (by omega) (by omega)
theorem Iv_tg (I : Iv nw nl lm a3 a9 a4 L S Tg Jd Cj) : ∀ i, i < nl → ∃ w, w < nw ∧ Tg i = nI w := I.2.2.2.2.2.2.2.1
theorem Iv_tin (I : Iv nw nl lm a3 a9 a4 L S Tg Jd Cj) {i : Nat} (hi : i < nl) : vp_in (Tg i) 12 := by
  obtain ⟨w, hw, e⟩ := Iv_tg I i hi
  have := Iv_nw I
  rw [e]
  exact vp_in_nI (by omega) (by omega)
theorem Iv_jd (I : Iv nw nl lm a3 a9 a4 L S Tg Jd Cj) : ∀ i, Jd i = 0 ∨ Jd i = 1 := I.2.2.2.2.2.2.2.2.1
theorem Iv_cj (I : Iv nw nl lm a3 a9 a4 L S Tg Jd Cj) : ∀ i, Cj i = 0 ∨ Cj i = 1 := I.2.2.2.2.2.2.2.2.2.1
theorem Iv_last (I : Iv nw nl lm a3 a9 a4 L S Tg Jd Cj) : 0 < nl → Jd (nl - 1) = 0 := I.2.2.2.2.2.2.2.2.2.2.1
theorem Iv_lt (I : Iv nw nl lm a3 a9 a4 L S Tg Jd Cj) : ∀ w, w < nw → ∃ x, 1 ≤ x ∧ x ≤ 30 ∧ L w = nI x := I.2.2.2.2.2.2.2.2.2.2.2.1
theorem Iv_st (I : Iv nw nl lm a3 a9 a4 L S Tg Jd Cj) : ∀ w, w < nw → ∃ x, S w = nI x ∧ x < 2 ^ nw ∧ x.testBit w = true := I.2.2.2.2.2.2.2.2.2.2.2.2
end
/-- bestWordAt: word and count behind j words -/
def bw (lm : Int32) (nl : Nat) (L S Tg : Nat → Int32) (p : Nat) : Nat → Int32 × Int32
  | 0 => (Tg p, 1000000)
  | j + 1 => if mh nl S Tg p (nI j) ≠ 0 ∧ cn lm (L j) < (bw lm nl L S Tg p j).2 then (nI j, cn lm (L j)) else bw lm nl L S Tg p j
theorem bw_no {lm : Int32} {nl : Nat} {L S Tg : Nat → Int32} {p j : Nat} (h : ¬ (mh nl S Tg p (nI j) ≠ 0 ∧ cn lm (L j) < (bw lm nl L S Tg p j).2)) : bw lm nl L S Tg p (j + 1) = bw lm nl L S Tg p j := by
  show (if _ then _ else _) = _
  rw [if_neg h]
theorem bw_yes {lm : Int32} {nl : Nat} {L S Tg : Nat → Int32} {p j : Nat} (h : mh nl S Tg p (nI j) ≠ 0 ∧ cn lm (L j) < (bw lm nl L S Tg p j).2) : bw lm nl L S Tg p (j + 1) = (nI j, cn lm (L j)) := by
  show (if _ then _ else _) = _
  rw [if_pos h]
/-- bestPairAt: the inner loop, first word a, behind b second words -/
def bq (lm : Int32) (nl : Nat) (L S J Tg : Nat → Int32) (p a : Nat) (s : Int32 × Int32) : Nat → Int32 × Int32
  | 0 => s
  | b + 1 => if (mh nl S Tg (p + 1) (nI b) ≠ 0 ∧ hb (J a) (nI b) ≠ 0) ∧ cn lm (L a + L b) < (bq lm nl L S J Tg p a s b).2 then (nI a * 100 + nI b, cn lm (L a + L b)) else bq lm nl L S J Tg p a s b
theorem bq_no {lm : Int32} {nl : Nat} {L S J Tg : Nat → Int32} {p a b : Nat} {s : Int32 × Int32} (h : ¬ ((mh nl S Tg (p + 1) (nI b) ≠ 0 ∧ hb (J a) (nI b) ≠ 0) ∧ cn lm (L a + L b) < (bq lm nl L S J Tg p a s b).2)) : bq lm nl L S J Tg p a s (b + 1) = bq lm nl L S J Tg p a s b := by
  show (if _ then _ else _) = _
  rw [if_neg h]
theorem bq_yes {lm : Int32} {nl : Nat} {L S J Tg : Nat → Int32} {p a b : Nat} {s : Int32 × Int32} (h : (mh nl S Tg (p + 1) (nI b) ≠ 0 ∧ hb (J a) (nI b) ≠ 0) ∧ cn lm (L a + L b) < (bq lm nl L S J Tg p a s b).2) : bq lm nl L S J Tg p a s (b + 1) = (nI a * 100 + nI b, cn lm (L a + L b)) := by
  show (if _ then _ else _) = _
  rw [if_pos h]
/-- bestPairAt: behind a first words -/
def bp (lm : Int32) (nw nl : Nat) (L S J Tg : Nat → Int32) (p : Nat) : Nat → Int32 × Int32
  | 0 => (-1, 1000000)
  | a + 1 => if mh nl S Tg p (nI a) ≠ 0 then bq lm nl L S J Tg p a (bp lm nw nl L S J Tg p a) nw else bp lm nw nl L S J Tg p a
theorem bp_no {lm : Int32} {nw nl : Nat} {L S J Tg : Nat → Int32} {p a : Nat} (h : mh nl S Tg p (nI a) = 0) : bp lm nw nl L S J Tg p (a + 1) = bp lm nw nl L S J Tg p a := by
  show (if _ then _ else _) = _
  rw [if_neg (fun q => q h)]
theorem bp_yes {lm : Int32} {nw nl : Nat} {L S J Tg : Nat → Int32} {p a : Nat} (h : mh nl S Tg p (nI a) ≠ 0) : bp lm nw nl L S J Tg p (a + 1) = bq lm nl L S J Tg p a (bp lm nw nl L S J Tg p a) nw := by
  show (if _ then _ else _) = _
  rw [if_pos h]
set_option maxRecDepth 100000 in
theorem mwX0_bestWordAt_inX : ∀ w ∈ wsX00, w ∈ wsX0_bestWordAt := by decide +kernel
set_option maxRecDepth 100000 in
theorem mwX0_bestWordAt_f19 : Cond.fieldLink RX0 19 "TelegraphPrices" "words" "I" ∈ wsX0_bestWordAt := by decide +kernel
set_option maxRecDepth 100000 in
theorem mwX0_bestWordAt_f9 : Cond.fieldLink RX0 9 "TelegraphPrices" "letters" "[I" ∈ wsX0_bestWordAt := by decide +kernel
set_option maxRecDepth 100000 in
theorem mwX0_bestWordAt_f32 : Cond.fieldLink RX0 32 "TelegraphPrices" "telegram" "[I" ∈ wsX0_bestWordAt := by decide +kernel
set_option maxRecDepth 100000 in
theorem mwX0_bestWordAt_c151 : Cond.constant RX0 151 (1000000) ∈ wsX0_bestWordAt := by decide +kernel
set_option maxHeartbeats 4000000 in
set_option maxRecDepth 100000 in
theorem c_bestWordAt {l : Launch} (hl : l.stackTraces = false) (Γ : gG) (σ : gS) (τ : gT) (o : gO) (nw nl lm p : Nat) (I : IX σ τ nw nl lm) (hp : p < nl) : Ct l yX0_bestWordAt wsX0_bestWordAt 3 96 0 0 [.ref (Γ.2.1 100), .int (nI p)] Γ σ τ o (pE (some (.int (bw (σ 4) nl (τ 0) (τ 1) (τ 7) p nw).1)) σ τ o) (noX) := by
  refine ct_of hl (by decide +kernel) rfl (Nat.le_of_ble_eq_true rfl) ?_
  intro E C F T hΓ hL R
  subst hΓ
  subst hL
  show G E 0 0 0 [(0, .ref ((eG E).2.1 100)), (1, .int (nI p))] [] σ τ o
  have hnw := Iv_nw I
  have hnl := Iv_nl I
  have h3 : σ 3 = nI nw := Iv_h3 I
  have h9 : σ 9 = nI nl := Iv_h9 I
  have h4 : ¬ σ 4 = 0 := Iv_ne I
  have loop : ∀ m j : Nat, j + m = nw → G E 0 0 13 [(4, .int (nI j)), (3, .int (bw (σ 4) nl (τ 0) (τ 1) (τ 7) p j).2), (2, .int (bw (σ 4) nl (τ 0) (τ 1) (τ 7) p j).1), (0, .ref ((eG E).2.1 100)), (1, .int (nI p))] [] σ τ o := by
    intro m
    induction m with
    | zero =>
      intro j hj
      refine g_iload C dX0_bestWordAt_13 rfl ?_
      refine g_aload_n C dX0_bestWordAt_15 rfl rfl ?_
      refine g_getX C 3 dX0_bestWordAt_16 mwX0_bestWordAt_inX (by decide) mwX0_bestWordAt_f19 rfl rfl ?_
      refine g_icmp_ge (tgt := 68) C dX0_bestWordAt_19 (by decide) (fun c_19 => ?_) (fun c_19 => ?_)
      · refine g_iload_n C dX0_bestWordAt_68 rfl rfl ?_
        exact g_iret C F dX0_bestWordAt_69 (by decide) (by decide) ⟨by rw [show j = nw by omega], rfl, rfl, rfl⟩
      · exact absurd (by rw [h3]; exact nI_le (by omega) (by omega)) c_19
    | succ m ih =>
      intro j hj
      refine g_iload C dX0_bestWordAt_13 rfl ?_
      refine g_aload_n C dX0_bestWordAt_15 rfl rfl ?_
      refine g_getX C 3 dX0_bestWordAt_16 mwX0_bestWordAt_inX (by decide) mwX0_bestWordAt_f19 rfl rfl ?_
      refine g_icmp_ge (tgt := 68) C dX0_bestWordAt_19 (by decide) (fun c_19 => ?_) (fun c_19 => ?_)
      · exact absurd (by rw [h3] at c_19; exact c_19) (nI_ge (by omega) (by omega))
      · refine g_aload_n C dX0_bestWordAt_22 rfl rfl ?_
        refine g_iload_n C dX0_bestWordAt_23 rfl rfl ?_
        refine g_iload C dX0_bestWordAt_24 rfl ?_
        refine g_callVEi (Cl := RX0) (T := TX0) (N := 18) (ci := 0) (q0 := 0) (na := 2) C dX0_bestWordAt_26 (c_mayHold hl (eG E) σ τ o nl p _ h9 hnl (by omega) (fun h => Iv_tin I h)) gX0_bestWordAt_X0_mayHold rfl rfl (by decide +kernel) rfl rfl rfl (by decide) (by rw [R]; exact ⟨by decide, by decide⟩) (by rw [R]; exact ⟨by decide, by decide⟩) ?_
        refine g_if_eq (tgt := 62) C dX0_bestWordAt_29 (by decide) (fun c_29 => ?_) (fun c_29 => ?_)
        · have e : bw (σ 4) nl (τ 0) (τ 1) (τ 7) p (j + 1) = bw (σ 4) nl (τ 0) (τ 1) (τ 7) p j := bw_no (fun q => q.1 c_29)
          refine g_iinc C 0 [(4, _), (3, _), (2, _), (0, _), (1, _)] dX0_bestWordAt_62 rfl (nI_i1 j) (by decide) rfl ?_
          refine g_goto (tgt := 13) C dX0_bestWordAt_65 (by decide) ?_
          have g := ih (j + 1) (by omega)
          rw [e] at g
          exact g
        · refine g_aload_n C dX0_bestWordAt_32 rfl rfl ?_
          refine g_aload_n C dX0_bestWordAt_33 rfl rfl ?_
          refine g_getX C 0 dX0_bestWordAt_34 mwX0_bestWordAt_inX (by decide) mwX0_bestWordAt_f9 rfl rfl ?_
          refine g_iload C dX0_bestWordAt_37 rfl ?_
          refine g_ialdN C (j) dX0_bestWordAt_39 rfl rfl (show j < 12 by omega) (by decide) ?_
          refine g_callVEi (Cl := RX0) (T := TX0) (N := 18) (ci := 0) (q0 := 0) (na := 1) C dX0_bestWordAt_40 (c_cnt hl (eG E) σ τ o _ h4) gX0_bestWordAt_X0_countOfLetters rfl rfl (by decide +kernel) rfl rfl rfl (by decide) (by rw [R]; exact ⟨by decide, by decide⟩) (by rw [R]; exact ⟨by decide, by decide⟩) ?_
          refine g_iload_n C dX0_bestWordAt_43 rfl rfl ?_
          refine g_icmp_ge (tgt := 62) C dX0_bestWordAt_44 (by decide) (fun c_44 => ?_) (fun c_44 => ?_)
          · have e : bw (σ 4) nl (τ 0) (τ 1) (τ 7) p (j + 1) = bw (σ 4) nl (τ 0) (τ 1) (τ 7) p j := bw_no (fun q => absurd q.2 (Int32.not_lt.mpr c_44))
            refine g_iinc C 0 [(4, _), (3, _), (2, _), (0, _), (1, _)] dX0_bestWordAt_62 rfl (nI_i1 j) (by decide) rfl ?_
            refine g_goto (tgt := 13) C dX0_bestWordAt_65 (by decide) ?_
            have g := ih (j + 1) (by omega)
            rw [e] at g
            exact g
          · have e : bw (σ 4) nl (τ 0) (τ 1) (τ 7) p (j + 1) = (nI j, cn (σ 4) (τ 0 j)) := bw_yes ⟨c_29, Int32.not_le.mp c_44⟩
            refine g_iload C dX0_bestWordAt_47 rfl ?_
            refine g_istore_n C [(2, _), (4, _), (3, _), (0, _), (1, _)] dX0_bestWordAt_49 rfl (by decide) rfl ?_
            refine g_aload_n C dX0_bestWordAt_50 rfl rfl ?_
            refine g_aload_n C dX0_bestWordAt_51 rfl rfl ?_
            refine g_getX C 0 dX0_bestWordAt_52 mwX0_bestWordAt_inX (by decide) mwX0_bestWordAt_f9 rfl rfl ?_
            refine g_iload C dX0_bestWordAt_55 rfl ?_
            refine g_ialdN C (j) dX0_bestWordAt_57 rfl rfl (show j < 12 by omega) (by decide) ?_
            refine g_callVEi (Cl := RX0) (T := TX0) (N := 18) (ci := 0) (q0 := 0) (na := 1) C dX0_bestWordAt_58 (c_cnt hl (eG E) σ τ o _ h4) gX0_bestWordAt_X0_countOfLetters rfl rfl (by decide +kernel) rfl rfl rfl (by decide) (by rw [R]; exact ⟨by decide, by decide⟩) (by rw [R]; exact ⟨by decide, by decide⟩) ?_
            refine g_istore_n C [(3, _), (2, _), (4, _), (0, _), (1, _)] dX0_bestWordAt_61 rfl (by decide) rfl ?_
            refine g_iinc C 2 [(4, _), (3, _), (2, _), (0, _), (1, _)] dX0_bestWordAt_62 rfl (nI_i1 j) (by decide) rfl ?_
            refine g_goto (tgt := 13) C dX0_bestWordAt_65 (by decide) ?_
            have g := ih (j + 1) (by omega)
            rw [e] at g
            exact g
  refine g_aload_n C dX0_bestWordAt_0 rfl rfl ?_
  refine g_getX C 7 dX0_bestWordAt_1 mwX0_bestWordAt_inX (by decide) mwX0_bestWordAt_f32 rfl rfl ?_
  refine g_iload_n C dX0_bestWordAt_4 rfl rfl ?_
  refine g_ialdN C (p) dX0_bestWordAt_5 rfl rfl (show p < 16 by omega) (by decide) ?_
  refine g_istore_n C [(2, _), (0, _), (1, _)] dX0_bestWordAt_6 rfl (by decide) rfl ?_
  refine g_ldc C dX0_bestWordAt_7 mwX0_bestWordAt_c151 ?_
  refine g_istore_n C [(3, _), (2, _), (0, _), (1, _)] dX0_bestWordAt_9 rfl (by decide) rfl ?_
  refine g_iconst (v := 0) C dX0_bestWordAt_10 (by decide) ?_
  refine g_istore C [(4, _), (3, _), (2, _), (0, _), (1, _)] dX0_bestWordAt_11 (by decide) rfl ?_
  exact loop nw 0 (Nat.zero_add _)
set_option maxRecDepth 100000 in
theorem mwX0_bestPairAt_inX : ∀ w ∈ wsX00, w ∈ wsX0_bestPairAt := by decide +kernel
set_option maxRecDepth 100000 in
theorem mwX0_bestPairAt_f19 : Cond.fieldLink RX0 19 "TelegraphPrices" "words" "I" ∈ wsX0_bestPairAt := by decide +kernel
set_option maxRecDepth 100000 in
theorem mwX0_bestPairAt_f16 : Cond.fieldLink RX0 16 "TelegraphPrices" "joins" "[I" ∈ wsX0_bestPairAt := by decide +kernel
set_option maxRecDepth 100000 in
theorem mwX0_bestPairAt_c151 : Cond.constant RX0 151 (1000000) ∈ wsX0_bestPairAt := by decide +kernel
set_option maxHeartbeats 4000000 in
set_option maxRecDepth 100000 in
theorem c_bestPairAt {l : Launch} (hl : l.stackTraces = false) (Γ : gG) (σ : gS) (τ : gT) (o : gO) (nw nl lm p : Nat) (I : IX σ τ nw nl lm) (hp : p < nl) : Ct l yX0_bestPairAt wsX0_bestPairAt 3 96 0 0 [.ref (Γ.2.1 100), .int (nI p)] Γ σ τ o (pE (some (.int (bp (σ 4) nw nl (τ 0) (τ 1) (τ 2) (τ 7) p nw).1)) σ τ o) (noX) := by
  refine ct_of hl (by decide +kernel) rfl (Nat.le_of_ble_eq_true rfl) ?_
  intro E C F T hΓ hL R
  subst hΓ
  subst hL
  show G E 0 0 0 [(0, .ref ((eG E).2.1 100)), (1, .int (nI p))] [] σ τ o
  have hnw := Iv_nw I
  have hnl := Iv_nl I
  have h3 : σ 3 = nI nw := Iv_h3 I
  have h9 : σ 9 = nI nl := Iv_h9 I
  have h4 : ¬ σ 4 = 0 := Iv_ne I
  have loop : ∀ m a : Nat, a + m = nw → G E 0 0 8 [(4, .int (nI a)), (3, .int (bp (σ 4) nw nl (τ 0) (τ 1) (τ 2) (τ 7) p a).2), (2, .int (bp (σ 4) nw nl (τ 0) (τ 1) (τ 2) (τ 7) p a).1), (0, .ref ((eG E).2.1 100)), (1, .int (nI p))] [] σ τ o := by
    intro m
    induction m with
    | zero =>
      intro a ha
      refine g_iload C dX0_bestPairAt_8 rfl ?_
      refine g_aload_n C dX0_bestPairAt_10 rfl rfl ?_
      refine g_getX C 3 dX0_bestPairAt_11 mwX0_bestPairAt_inX (by decide) mwX0_bestPairAt_f19 rfl rfl ?_
      refine g_icmp_ge (tgt := 120) C dX0_bestPairAt_14 (by decide) (fun c_14 => ?_) (fun c_14 => ?_)
      · refine g_iload_n C dX0_bestPairAt_120 rfl rfl ?_
        exact g_iret C F dX0_bestPairAt_121 (by decide) (by decide) ⟨by rw [show a = nw by omega], rfl, rfl, rfl⟩
      · exact absurd (by rw [h3]; exact nI_le (by omega) (by omega)) c_14
    | succ m ih =>
      intro a ha
      have inner : mh nl (τ 1) (τ 7) p (nI a) ≠ 0 → ∀ k b : Nat, b + k = nw → G E 0 0 30 [(5, .int (nI b)), (4, .int (nI a)), (3, .int (bq (σ 4) nl (τ 0) (τ 1) (τ 2) (τ 7) p a (bp (σ 4) nw nl (τ 0) (τ 1) (τ 2) (τ 7) p a) b).2), (2, .int (bq (σ 4) nl (τ 0) (τ 1) (τ 2) (τ 7) p a (bp (σ 4) nw nl (τ 0) (τ 1) (τ 2) (τ 7) p a) b).1), (0, .ref ((eG E).2.1 100)), (1, .int (nI p))] [] σ τ o := by
        intro hm k
        induction k with
        | zero =>
          intro b hb9
          refine g_iload C dX0_bestPairAt_30 rfl ?_
          refine g_aload_n C dX0_bestPairAt_32 rfl rfl ?_
          refine g_getX C 3 dX0_bestPairAt_33 mwX0_bestPairAt_inX (by decide) mwX0_bestPairAt_f19 rfl rfl ?_
          refine g_icmp_ge (tgt := 114) C dX0_bestPairAt_36 (by decide) (fun c_36 => ?_) (fun c_36 => ?_)
          · refine g_iinc C 1 [(4, _), (5, _), (3, _), (2, _), (0, _), (1, _)] dX0_bestPairAt_114 rfl (nI_i1 a) (by decide) rfl ?_
            refine g_goto (tgt := 8) C dX0_bestPairAt_117 (by decide) ?_
            refine g_lv [0, 2, 3, 4, 5] [(4, _), (3, _), (2, _), (0, _), (1, _)] rfl ?_
            have g := ih (a + 1) (by omega)
            rw [bp_yes hm] at g
            rw [show b = nw by omega]
            exact g
          · exact absurd (by rw [h3]; exact nI_le (by omega) (by omega)) c_36
        | succ k ih2 =>
          intro b hb9
          refine g_iload C dX0_bestPairAt_30 rfl ?_
          refine g_aload_n C dX0_bestPairAt_32 rfl rfl ?_
          refine g_getX C 3 dX0_bestPairAt_33 mwX0_bestPairAt_inX (by decide) mwX0_bestPairAt_f19 rfl rfl ?_
          refine g_icmp_ge (tgt := 114) C dX0_bestPairAt_36 (by decide) (fun c_36 => ?_) (fun c_36 => ?_)
          · exact absurd (by rw [h3] at c_36; exact c_36) (nI_ge (by omega) (by omega))
          · refine g_aload_n C dX0_bestPairAt_39 rfl rfl ?_
            refine g_iload_n C dX0_bestPairAt_40 rfl rfl ?_
            refine g_iconst (v := 1) C dX0_bestPairAt_41 (by decide) ?_
            refine g_iadd C dX0_bestPairAt_42 ?_
            refine g_topi (nI_1 p) ?_
            refine g_iload C dX0_bestPairAt_43 rfl ?_
            refine g_callVEi (Cl := RX0) (T := TX0) (N := 18) (ci := 0) (q0 := 0) (na := 2) C dX0_bestPairAt_45 (c_mayHold hl (eG E) σ τ o nl (p + 1) _ h9 hnl (by omega) (fun h => Iv_tin I h)) gX0_bestPairAt_X0_mayHold rfl rfl (by decide +kernel) rfl rfl rfl (by decide) (by rw [R]; exact ⟨by decide, by decide⟩) (by rw [R]; exact ⟨by decide, by decide⟩) ?_
            refine g_if_eq (tgt := 70) C dX0_bestPairAt_48 (by decide) (fun c_48 => ?_) (fun c_48 => ?_)
            · have e : bq (σ 4) nl (τ 0) (τ 1) (τ 2) (τ 7) p a (bp (σ 4) nw nl (τ 0) (τ 1) (τ 2) (τ 7) p a) (b + 1) = bq (σ 4) nl (τ 0) (τ 1) (τ 2) (τ 7) p a (bp (σ 4) nw nl (τ 0) (τ 1) (τ 2) (τ 7) p a) b := bq_no (fun q => q.1.1 c_48)
              refine g_iconst (v := 0) C dX0_bestPairAt_70 (by decide) ?_
              refine g_istore C [(6, _), (5, _), (4, _), (3, _), (2, _), (0, _), (1, _)] dX0_bestPairAt_71 (by decide) rfl ?_
              refine g_iload C dX0_bestPairAt_73 rfl ?_
              refine g_if_eq (tgt := 108) C dX0_bestPairAt_75 (by decide) (fun c_75 => ?_) (fun c_75 => ?_)
              · refine g_iinc C 1 [(5, _), (6, _), (4, _), (3, _), (2, _), (0, _), (1, _)] dX0_bestPairAt_108 rfl (nI_i1 b) (by decide) rfl ?_
                refine g_goto (tgt := 30) C dX0_bestPairAt_111 (by decide) ?_
                refine g_lv [0, 2, 3, 4, 5, 6] [(5, _), (4, _), (3, _), (2, _), (0, _), (1, _)] rfl ?_
                have g := ih2 (b + 1) (by omega)
                rw [e] at g
                exact g
              · exact absurd rfl c_75
            · refine g_aload_n C dX0_bestPairAt_51 rfl rfl ?_
              refine g_getX C 2 dX0_bestPairAt_52 mwX0_bestPairAt_inX (by decide) mwX0_bestPairAt_f16 rfl rfl ?_
              refine g_iload C dX0_bestPairAt_55 rfl ?_
              refine g_ialdN C (a) dX0_bestPairAt_57 rfl rfl (show a < 12 by omega) (by decide) ?_
              refine g_iload C dX0_bestPairAt_58 rfl ?_
              refine g_callSEi (na := 2) C dX0_bestPairAt_60 (c_hasBit hl (eG E) σ τ o _ _) gX0_bestPairAt_X0_hasBit rfl rfl (by decide +kernel) rfl (by decide) (by rw [R]; exact ⟨by decide, by decide⟩) (by rw [R]; exact ⟨by decide, by decide⟩) ?_
              refine g_if_eq (tgt := 70) C dX0_bestPairAt_63 (by decide) (fun c_63 => ?_) (fun c_63 => ?_)
              · have e : bq (σ 4) nl (τ 0) (τ 1) (τ 2) (τ 7) p a (bp (σ 4) nw nl (τ 0) (τ 1) (τ 2) (τ 7) p a) (b + 1) = bq (σ 4) nl (τ 0) (τ 1) (τ 2) (τ 7) p a (bp (σ 4) nw nl (τ 0) (τ 1) (τ 2) (τ 7) p a) b := bq_no (fun q => q.1.2 c_63)
                refine g_iconst (v := 0) C dX0_bestPairAt_70 (by decide) ?_
                refine g_istore C [(6, _), (5, _), (4, _), (3, _), (2, _), (0, _), (1, _)] dX0_bestPairAt_71 (by decide) rfl ?_
                refine g_iload C dX0_bestPairAt_73 rfl ?_
                refine g_if_eq (tgt := 108) C dX0_bestPairAt_75 (by decide) (fun c_75 => ?_) (fun c_75 => ?_)
                · refine g_iinc C 1 [(5, _), (6, _), (4, _), (3, _), (2, _), (0, _), (1, _)] dX0_bestPairAt_108 rfl (nI_i1 b) (by decide) rfl ?_
                  refine g_goto (tgt := 30) C dX0_bestPairAt_111 (by decide) ?_
                  refine g_lv [0, 2, 3, 4, 5, 6] [(5, _), (4, _), (3, _), (2, _), (0, _), (1, _)] rfl ?_
                  have g := ih2 (b + 1) (by omega)
                  rw [e] at g
                  exact g
                · exact absurd rfl c_75
              · refine g_iconst (v := 1) C dX0_bestPairAt_66 (by decide) ?_
                refine g_goto (tgt := 71) C dX0_bestPairAt_67 (by decide) ?_
                refine g_istore C [(6, _), (5, _), (4, _), (3, _), (2, _), (0, _), (1, _)] dX0_bestPairAt_71 (by decide) rfl ?_
                refine g_iload C dX0_bestPairAt_73 rfl ?_
                refine g_if_eq (tgt := 108) C dX0_bestPairAt_75 (by decide) (fun c_75 => ?_) (fun c_75 => ?_)
                · exact absurd c_75 (by decide)
                · refine g_aload_n C dX0_bestPairAt_78 rfl rfl ?_
                  refine g_iload C dX0_bestPairAt_79 rfl ?_
                  refine g_iload C dX0_bestPairAt_81 rfl ?_
                  refine g_callVEi (Cl := RX0) (T := TX0) (N := 18) (ci := 0) (q0 := 0) (na := 2) C dX0_bestPairAt_83 (c_cntPair hl (eG E) σ τ o _ _ h4 (vp_in_nI (show a < 12 by omega) (by decide)) (vp_in_nI (show b < 12 by omega) (by decide))) gX0_bestPairAt_X0_countOfPair rfl rfl (by decide +kernel) rfl rfl rfl (by decide) (by rw [R]; exact ⟨by decide, by decide⟩) (by rw [R]; exact ⟨by decide, by decide⟩) ?_
                  rw [nI_clamp (show a < 2 ^ 31 by omega), nI_clamp (show b < 2 ^ 31 by omega)]
                  refine g_iload_n C dX0_bestPairAt_86 rfl rfl ?_
                  refine g_icmp_ge (tgt := 108) C dX0_bestPairAt_87 (by decide) (fun c_87 => ?_) (fun c_87 => ?_)
                  · have e : bq (σ 4) nl (τ 0) (τ 1) (τ 2) (τ 7) p a (bp (σ 4) nw nl (τ 0) (τ 1) (τ 2) (τ 7) p a) (b + 1) = bq (σ 4) nl (τ 0) (τ 1) (τ 2) (τ 7) p a (bp (σ 4) nw nl (τ 0) (τ 1) (τ 2) (τ 7) p a) b := bq_no (fun q => absurd q.2 (Int32.not_lt.mpr c_87))
                    refine g_iinc C 1 [(5, _), (6, _), (4, _), (3, _), (2, _), (0, _), (1, _)] dX0_bestPairAt_108 rfl (nI_i1 b) (by decide) rfl ?_
                    refine g_goto (tgt := 30) C dX0_bestPairAt_111 (by decide) ?_
                    refine g_lv [0, 2, 3, 4, 5, 6] [(5, _), (4, _), (3, _), (2, _), (0, _), (1, _)] rfl ?_
                    have g := ih2 (b + 1) (by omega)
                    rw [e] at g
                    exact g
                  · have e : bq (σ 4) nl (τ 0) (τ 1) (τ 2) (τ 7) p a (bp (σ 4) nw nl (τ 0) (τ 1) (τ 2) (τ 7) p a) (b + 1) = (nI a * 100 + nI b, cn (σ 4) (τ 0 a + τ 0 b)) := bq_yes ⟨⟨c_48, c_63⟩, Int32.not_le.mp c_87⟩
                    refine g_iload C dX0_bestPairAt_90 rfl ?_
                    refine g_bipush (v := 100) C dX0_bestPairAt_92 (by decide) ?_
                    refine g_imul C dX0_bestPairAt_94 ?_
                    refine g_iload C dX0_bestPairAt_95 rfl ?_
                    refine g_iadd C dX0_bestPairAt_97 ?_
                    refine g_istore_n C [(2, _), (6, _), (5, _), (4, _), (3, _), (0, _), (1, _)] dX0_bestPairAt_98 rfl (by decide) rfl ?_
                    refine g_aload_n C dX0_bestPairAt_99 rfl rfl ?_
                    refine g_iload C dX0_bestPairAt_100 rfl ?_
                    refine g_iload C dX0_bestPairAt_102 rfl ?_
                    refine g_callVEi (Cl := RX0) (T := TX0) (N := 18) (ci := 0) (q0 := 0) (na := 2) C dX0_bestPairAt_104 (c_cntPair hl (eG E) σ τ o _ _ h4 (vp_in_nI (show a < 12 by omega) (by decide)) (vp_in_nI (show b < 12 by omega) (by decide))) gX0_bestPairAt_X0_countOfPair rfl rfl (by decide +kernel) rfl rfl rfl (by decide) (by rw [R]; exact ⟨by decide, by decide⟩) (by rw [R]; exact ⟨by decide, by decide⟩) ?_
                    rw [nI_clamp (show a < 2 ^ 31 by omega), nI_clamp (show b < 2 ^ 31 by omega)]
                    refine g_istore_n C [(3, _), (2, _), (6, _), (5, _), (4, _), (0, _), (1, _)] dX0_bestPairAt_107 rfl (by decide) rfl ?_
                    refine g_iinc C 3 [(5, _), (3, _), (2, _), (6, _), (4, _), (0, _), (1, _)] dX0_bestPairAt_108 rfl (nI_i1 b) (by decide) rfl ?_
                    refine g_goto (tgt := 30) C dX0_bestPairAt_111 (by decide) ?_
                    refine g_lv [0, 4, 1, 2, 5, 6] [(5, _), (4, _), (3, _), (2, _), (0, _), (1, _)] rfl ?_
                    have g := ih2 (b + 1) (by omega)
                    rw [e] at g
                    exact g
      refine g_iload C dX0_bestPairAt_8 rfl ?_
      refine g_aload_n C dX0_bestPairAt_10 rfl rfl ?_
      refine g_getX C 3 dX0_bestPairAt_11 mwX0_bestPairAt_inX (by decide) mwX0_bestPairAt_f19 rfl rfl ?_
      refine g_icmp_ge (tgt := 120) C dX0_bestPairAt_14 (by decide) (fun c_14 => ?_) (fun c_14 => ?_)
      · exact absurd (by rw [h3] at c_14; exact c_14) (nI_ge (by omega) (by omega))
      · refine g_aload_n C dX0_bestPairAt_17 rfl rfl ?_
        refine g_iload_n C dX0_bestPairAt_18 rfl rfl ?_
        refine g_iload C dX0_bestPairAt_19 rfl ?_
        refine g_callVEi (Cl := RX0) (T := TX0) (N := 18) (ci := 0) (q0 := 0) (na := 2) C dX0_bestPairAt_21 (c_mayHold hl (eG E) σ τ o nl p _ h9 hnl (by omega) (fun h => Iv_tin I h)) gX0_bestPairAt_X0_mayHold rfl rfl (by decide +kernel) rfl rfl rfl (by decide) (by rw [R]; exact ⟨by decide, by decide⟩) (by rw [R]; exact ⟨by decide, by decide⟩) ?_
        refine g_if_eq (tgt := 114) C dX0_bestPairAt_24 (by decide) (fun c_24 => ?_) (fun c_24 => ?_)
        · refine g_iinc C 0 [(4, _), (3, _), (2, _), (0, _), (1, _)] dX0_bestPairAt_114 rfl (nI_i1 a) (by decide) rfl ?_
          refine g_goto (tgt := 8) C dX0_bestPairAt_117 (by decide) ?_
          have g := ih (a + 1) (by omega)
          rw [bp_no c_24] at g
          exact g
        · refine g_iconst (v := 0) C dX0_bestPairAt_27 (by decide) ?_
          refine g_istore C [(5, _), (4, _), (3, _), (2, _), (0, _), (1, _)] dX0_bestPairAt_28 (by decide) rfl ?_
          exact inner c_24 nw 0 (Nat.zero_add _)
  refine g_iconst (v := (-1)) C dX0_bestPairAt_0 (by decide) ?_
  refine g_istore_n C [(2, _), (0, _), (1, _)] dX0_bestPairAt_1 rfl (by decide) rfl ?_
  refine g_ldc C dX0_bestPairAt_2 mwX0_bestPairAt_c151 ?_
  refine g_istore_n C [(3, _), (2, _), (0, _), (1, _)] dX0_bestPairAt_4 rfl (by decide) rfl ?_
  refine g_iconst (v := 0) C dX0_bestPairAt_5 (by decide) ?_
  refine g_istore C [(4, _), (3, _), (2, _), (0, _), (1, _)] dX0_bestPairAt_6 (by decide) rfl ?_
  exact loop nw 0 (Nat.zero_add _)
end
section
/-! plain facts: the order of ints, counts, bits, the first least one -/
theorem i_rf (a : Int32) : a ≤ a := by rw [Int32.le_iff_toInt_le]; omega
theorem i_tr {a b c : Int32} (h : a ≤ b) (h2 : b ≤ c) : a ≤ c := by
  rw [Int32.le_iff_toInt_le] at *
  omega
theorem i_ltle {a b c : Int32} (h : a < b) (h2 : b ≤ c) : a < c := by
  rw [Int32.lt_iff_toInt_lt] at *
  rw [Int32.le_iff_toInt_le] at *
  omega
theorem i_lelt {a b c : Int32} (h : a ≤ b) (h2 : b < c) : a < c := by
  rw [Int32.lt_iff_toInt_lt] at *
  rw [Int32.le_iff_toInt_le] at *
  omega
theorem i_le {a b : Int32} (h : a < b) : a ≤ b := by
  rw [Int32.lt_iff_toInt_lt] at h
  rw [Int32.le_iff_toInt_le]
  omega
theorem i_nlt {a b : Int32} (h : ¬ a < b) : b ≤ a := Int32.not_lt.mp h
theorem i_nle {a b : Int32} (h : ¬ a ≤ b) : b < a := Int32.not_le.mp h
theorem i_ng {a b : Int32} (h : a ≤ b) : ¬ b < a := Int32.not_lt.mpr h
theorem i_irr {a : Int32} (h : a < a) : False := by
  rw [Int32.lt_iff_toInt_lt] at h
  omega
theorem i_anti {a b : Int32} (h : a ≤ b) (h2 : b ≤ a) : a = b := by
  rw [Int32.le_iff_toInt_le] at *
  exact Int32.toInt_inj.mp (by omega)
theorem i_eqor {a b : Int32} (h : a ≤ b) : a < b ∨ a = b := by
  by_cases q : a < b
  · exact Or.inl q
  · exact Or.inr (i_anti h (i_nlt q))
theorem cn_nI {lm x : Nat} (h1 : 3 ≤ lm) (h2 : lm ≤ 15) (hx : x ≤ 60) : cn (nI lm) (nI x) = nI ((x + lm - 1) / lm) := by
  unfold cn
  rw [nI_add, show (1 : Int32) = nI 1 from rfl, pk_sub (by omega), pk_div (by omega) (by omega) (by omega)]
theorem cn_b {lm x : Nat} (h1 : 3 ≤ lm) (h2 : lm ≤ 15) (hx : x ≤ 60) : ∃ c, c ≤ 60 ∧ cn (nI lm) (nI x) = nI c := by
  refine ⟨(x + lm - 1) / lm, ?_, cn_nI h1 h2 hx⟩
  have e1 : (x + lm - 1) / lm ≤ (x + lm - 1) / 3 := Nat.div_le_div_left h1 (by omega)
  omega
theorem nM : (1000000 : Int32) = nI 1000000 := rfl
theorem cn_lt {lm x : Nat} (h1 : 3 ≤ lm) (h2 : lm ≤ 15) (hx : x ≤ 60) : cn (nI lm) (nI x) < 1000000 := by
  obtain ⟨c, hc, e⟩ := cn_b h1 h2 hx
  rw [e, nM]
  exact (nI_ltI (by omega) (by omega)).mpr (by omega)
theorem smod_l : ∀ n, n < 32 → ((nI n &&& 31).toBitVec.smod 32).toNat = n := by decide +kernel
theorem hb_div {x w : Nat} (hx : x < 2 ^ 31) (hw : w < 32) : hb (nI x) (nI w) = if x / 2 ^ w % 2 = 1 then 1 else 0 := by
  unfold hb
  rw [pk_shrN hx (nI w &&& 31) w (smod_l w hw)]
  have h1 : x / 2 ^ w < 2 ^ 32 := Nat.lt_of_le_of_lt (Nat.div_le_self _ _) (by omega)
  rw [pk_andN h1 (m := 1) 1 (by decide)]
  have h2 : x / 2 ^ w % 2 ^ 1 < 2 := Nat.mod_lt _ (by decide)
  rw [show (2 : Nat) ^ 1 = 2 from rfl] at h2 ⊢
  by_cases q : x / 2 ^ w % 2 = 1
  · rw [if_pos q, q]
    rfl
  · rw [if_neg q, show x / 2 ^ w % 2 = 0 by omega]
    rfl
theorem hb_tb {x w : Nat} (hx : x < 2 ^ 31) (hw : w < 32) : hb (nI x) (nI w) ≠ 0 ↔ x.testBit w = true := by
  rw [hb_div hx hw, Nat.testBit_eq_decide_div_mod_eq, decide_eq_true_eq]
  by_cases q : x / 2 ^ w % 2 = 1
  · rw [if_pos q]
    exact ⟨fun _ => q, fun _ => by decide⟩
  · rw [if_neg q]
    exact ⟨fun h => absurd rfl h, fun h => absurd h q⟩
theorem lt12 {n x : Nat} (h : n ≤ 12) (hx : x < 2 ^ n) : x < 4096 := Nat.lt_of_lt_of_le hx (Nat.pow_le_pow_right (by decide) h)
/-- of what holds P below n, a is the first of those with the least f -/
def isFst (P : Nat → Prop) (f : Nat → Int32) (n a : Nat) : Prop := a < n ∧ P a ∧ (∀ b, b < n → P b → f a ≤ f b) ∧ ∀ b, b < a → P b → f a < f b
theorem bw_spec {n : Nat} {lm : Int32} {nl : Nat} {L S Tg : Nat → Int32} {p : Nat} (hf : ∀ a, a < n → cn lm (L a) < 1000000) : ∀ j, j ≤ n → ((∀ a, a < j → mh nl S Tg p (nI a) = 0) ∧ bw lm nl L S Tg p j = (Tg p, 1000000)) ∨ ∃ a, isFst (fun a => mh nl S Tg p (nI a) ≠ 0) (fun a => cn lm (L a)) j a ∧ bw lm nl L S Tg p j = (nI a, cn lm (L a)) := by
  intro j
  induction j with
  | zero => exact fun _ => Or.inl ⟨fun a h => absurd h (Nat.not_lt_zero a), rfl⟩
  | succ j ih =>
    intro hj
    rcases ih (by omega) with ⟨h1, h2⟩ | ⟨a, ⟨a1, a2, a3, a4⟩, h2⟩
    · by_cases hm : mh nl S Tg p (nI j) = 0
      · refine Or.inl ⟨fun a ha => ?_, ?_⟩
        · rcases (show a < j ∨ a = j by omega) with q | q
          · exact h1 a q
          · rw [q]; exact hm
        · rw [bw_no (fun q => q.1 hm), h2]
      · refine Or.inr ⟨j, ⟨Nat.lt_succ_self j, hm, fun b hb hpb => ?_, fun b hb hpb => absurd (h1 b hb) hpb⟩, bw_yes ⟨hm, by rw [h2]; exact hf j (by omega)⟩⟩
        rcases (show b < j ∨ b = j by omega) with q | q
        · exact absurd (h1 b q) hpb
        · rw [q]; exact i_rf _
    · by_cases hc : mh nl S Tg p (nI j) ≠ 0 ∧ cn lm (L j) < cn lm (L a)
      · refine Or.inr ⟨j, ⟨Nat.lt_succ_self j, hc.1, fun b hb hpb => ?_, fun b hb hpb => ?_⟩, bw_yes ⟨hc.1, by rw [h2]; exact hc.2⟩⟩
        · rcases (show b < j ∨ b = j by omega) with q | q
          · exact i_tr (i_le hc.2) (a3 b q hpb)
          · rw [q]; exact i_rf _
        · exact i_ltle hc.2 (a3 b hb hpb)
      · refine Or.inr ⟨a, ⟨by omega, a2, fun b hb hpb => ?_, a4⟩, ?_⟩
        · rcases (show b < j ∨ b = j by omega) with q | q
          · exact a3 b q hpb
          · subst q
            exact i_nlt (fun z => hc ⟨hpb, z⟩)
        · rw [bw_no (fun q => hc ⟨q.1, by rw [h2] at q; exact q.2⟩), h2]
/-- (a', b') ahead of (a, b), row by row, n to a row -/
def lexB (n a b a' b' : Nat) : Prop := (a' < a ∧ b' < n) ∨ (a' = a ∧ b' < b)
def isFst2 (P : Nat → Nat → Prop) (f : Nat → Nat → Int32) (n a b a0 b0 : Nat) : Prop := lexB n a b a0 b0 ∧ P a0 b0 ∧ (∀ a' b', lexB n a b a' b' → P a' b' → f a0 b0 ≤ f a' b') ∧ ∀ a' b', lexB n a0 b0 a' b' → P a' b' → f a0 b0 < f a' b'
def St2 (P : Nat → Nat → Prop) (f : Nat → Nat → Int32) (n a b : Nat) (s : Int32 × Int32) : Prop :=
  ((∀ a' b', lexB n a b a' b' → ¬ P a' b') ∧ s = (-1, 1000000)) ∨ ∃ a0 b0, isFst2 P f n a b a0 b0 ∧ s = (nI a0 * 100 + nI b0, f a0 b0)
theorem lexB_s {n a b a' b' : Nat} (h : lexB n a (b + 1) a' b') : lexB n a b a' b' ∨ (a' = a ∧ b' = b) := by
  unfold lexB at *
  omega
theorem lexB_m {n a b a' b' : Nat} (h : lexB n a b a' b') : lexB n a (b + 1) a' b' := by
  unfold lexB at *
  omega
theorem lexB_r {n a a' b' : Nat} (h : lexB n (a + 1) 0 a' b') : lexB n a n a' b' := by
  unfold lexB at *
  omega
theorem lexB_r2 {n a a' b' : Nat} (h : lexB n a n a' b') : lexB n (a + 1) 0 a' b' := by
  unfold lexB at *
  omega
theorem St2_yes {P : Nat → Nat → Prop} {f : Nat → Nat → Int32} {n a b : Nat} {s : Int32 × Int32} (h : St2 P f n a b s) (hp : P a b) (hl : f a b < s.2) : St2 P f n a (b + 1) (nI a * 100 + nI b, f a b) := by
  refine Or.inr ⟨a, b, ⟨Or.inr ⟨rfl, Nat.lt_succ_self b⟩, hp, fun a' b' h1 h2 => ?_, fun a' b' h1 h2 => ?_⟩, rfl⟩
  · rcases lexB_s h1 with q | ⟨rfl, rfl⟩
    · rcases h with ⟨g1, -⟩ | ⟨a0, b0, ⟨-, -, g3, -⟩, g⟩
      · exact absurd h2 (g1 a' b' q)
      · rw [g] at hl
        exact i_tr (i_le hl) (g3 a' b' q h2)
    · exact i_rf _
  · rcases h with ⟨g1, -⟩ | ⟨a0, b0, ⟨-, -, g3, -⟩, g⟩
    · exact absurd h2 (g1 a' b' h1)
    · rw [g] at hl
      exact i_ltle hl (g3 a' b' h1 h2)
theorem St2_no {P : Nat → Nat → Prop} {f : Nat → Nat → Int32} {n a b : Nat} {s : Int32 × Int32} (h : St2 P f n a b s) (hf : f a b < 1000000) (hn : ¬ (P a b ∧ f a b < s.2)) : St2 P f n a (b + 1) s := by
  rcases h with ⟨g1, g2⟩ | ⟨a0, b0, ⟨g0, g1, g3, g4⟩, g⟩
  · refine Or.inl ⟨fun a' b' h1 => ?_, g2⟩
    rcases lexB_s h1 with q | ⟨rfl, rfl⟩
    · exact g1 a' b' q
    · exact fun z => hn ⟨z, by rw [g2]; exact hf⟩
  · refine Or.inr ⟨a0, b0, ⟨lexB_m g0, g1, fun a' b' h1 h2 => ?_, g4⟩, g⟩
    rcases lexB_s h1 with q | ⟨rfl, rfl⟩
    · exact g3 a' b' q h2
    · exact i_nlt (fun z => hn ⟨h2, by rw [g]; exact z⟩)
theorem St2_row {P : Nat → Nat → Prop} {f : Nat → Nat → Int32} {n a : Nat} {s : Int32 × Int32} (h : St2 P f n a n s) : St2 P f n (a + 1) 0 s := by
  rcases h with ⟨g1, g2⟩ | ⟨a0, b0, ⟨g0, g1, g3, g4⟩, g⟩
  · exact Or.inl ⟨fun a' b' h1 => g1 a' b' (lexB_r h1), g2⟩
  · exact Or.inr ⟨a0, b0, ⟨lexB_r2 g0, g1, fun a' b' h1 h2 => g3 a' b' (lexB_r h1) h2, g4⟩, g⟩
theorem St2_skip {P : Nat → Nat → Prop} {f : Nat → Nat → Int32} {n a : Nat} {s : Int32 × Int32} (h : St2 P f n a 0 s) (hs : ∀ b, ¬ P a b) : St2 P f n (a + 1) 0 s := by
  have key : ∀ a' b', lexB n (a + 1) 0 a' b' → P a' b' → lexB n a 0 a' b' := fun a' b' h1 h2 => by
    rcases lexB_r h1 with q | ⟨rfl, -⟩
    · exact Or.inl q
    · exact absurd h2 (hs b')
  rcases h with ⟨g1, g2⟩ | ⟨a0, b0, ⟨g0, g1, g3, g4⟩, g⟩
  · exact Or.inl ⟨fun a' b' h1 h2 => g1 a' b' (key a' b' h1 h2) h2, g2⟩
  · exact Or.inr ⟨a0, b0, ⟨lexB_r2 (by unfold lexB at *; omega), g1, fun a' b' h1 h2 => g3 a' b' (key a' b' h1 h2) h2, g4⟩, g⟩
/-- a pair that may stand at p and behind, and may be joined -/
def pq (nl : Nat) (S J Tg : Nat → Int32) (p a b : Nat) : Prop := mh nl S Tg p (nI a) ≠ 0 ∧ mh nl S Tg (p + 1) (nI b) ≠ 0 ∧ hb (J a) (nI b) ≠ 0
theorem bp_spec {lm : Int32} {nw nl : Nat} {L S J Tg : Nat → Int32} {p : Nat} (hf : ∀ a b, a < nw → b < nw → cn lm (L a + L b) < 1000000) : ∀ a, a ≤ nw → St2 (pq nl S J Tg p) (fun a b => cn lm (L a + L b)) nw a 0 (bp lm nw nl L S J Tg p a) := by
  intro a
  induction a with
  | zero => exact fun _ => Or.inl ⟨fun a' b' h => by unfold lexB at h; omega, rfl⟩
  | succ a ih =>
    intro ha
    have h := ih (by omega)
    by_cases hm : mh nl S Tg p (nI a) = 0
    · rw [bp_no hm]
      exact St2_skip h (fun b z => z.1 hm)
    · rw [bp_yes hm]
      refine St2_row ?_
      have key : ∀ b, b ≤ nw → St2 (pq nl S J Tg p) (fun a b => cn lm (L a + L b)) nw a b (bq lm nl L S J Tg p a (bp lm nw nl L S J Tg p a) b) := by
        intro b
        induction b with
        | zero => exact fun _ => h
        | succ b ih2 =>
          intro hb9
          have g := ih2 (by omega)
          by_cases hc : (mh nl S Tg (p + 1) (nI b) ≠ 0 ∧ hb (J a) (nI b) ≠ 0) ∧ cn lm (L a + L b) < (bq lm nl L S J Tg p a (bp lm nw nl L S J Tg p a) b).2
          · rw [bq_yes hc]
            exact St2_yes g ⟨hm, hc.1.1, hc.1.2⟩ hc.2
          · rw [bq_no hc]
            exact St2_no g (hf a b (by omega) (by omega)) (fun z => hc ⟨⟨z.1.2.1, z.1.2.2⟩, z.2⟩)
      exact key nw (Nat.le_refl _)
section
variable {nw nl lm : Nat} {a3 a9 a4 : Int32} {L S J Tg Jd Cj : Nat → Int32} {p : Nat}
theorem Iv_cn (I : Iv nw nl lm a3 a9 a4 L S Tg Jd Cj) {a : Nat} (ha : a < nw) : ∃ c, c ≤ 60 ∧ cn a4 (L a) = nI c := by
  obtain ⟨x, h1, h2, e⟩ := Iv_lt I a ha
  rw [Iv_h4 I, e]
  exact cn_b (Iv_lm I).1 (Iv_lm I).2 (by omega)
theorem Iv_cn2 (I : Iv nw nl lm a3 a9 a4 L S Tg Jd Cj) {a b : Nat} (ha : a < nw) (hb : b < nw) : ∃ c, c ≤ 60 ∧ cn a4 (L a + L b) = nI c := by
  obtain ⟨x, h1, h2, e⟩ := Iv_lt I a ha
  obtain ⟨y, h3, h4, e2⟩ := Iv_lt I b hb
  rw [Iv_h4 I, e, e2, nI_add]
  exact cn_b (Iv_lm I).1 (Iv_lm I).2 (by omega)
theorem nI_60 {x : Int32} (h : ∃ c, c ≤ 60 ∧ x = nI c) : x < 1000000 := by
  obtain ⟨c, hc, rfl⟩ := h
  rw [nM]
  exact (nI_ltI (by omega) (by omega)).mpr (by omega)
/-- the word itself may stand at its place -/
theorem Iv_own (I : Iv nw nl lm a3 a9 a4 L S Tg Jd Cj) (hp : p < nl) : ∃ w, w < nw ∧ Tg p = nI w ∧ mh nl S Tg p (nI w) ≠ 0 := by
  obtain ⟨w, hw, e⟩ := Iv_tg I p hp
  obtain ⟨x, e2, hx, ht⟩ := Iv_st I w hw
  have h12 := Iv_nw I
  refine ⟨w, hw, e, ?_⟩
  unfold mh
  rw [if_pos hp, e, nI_clamp (by omega), e2]
  exact (hb_tb (Nat.lt_trans (lt12 h12 hx) (by decide)) (by omega)).mpr ht
/-- the best word at a place is there -/
theorem bw_fin (I : Iv nw nl lm a3 a9 a4 L S Tg Jd Cj) (hp : p < nl) : ∃ a, isFst (fun a => mh nl S Tg p (nI a) ≠ 0) (fun a => cn a4 (L a)) nw a ∧ bw a4 nl L S Tg p nw = (nI a, cn a4 (L a)) := by
  rcases bw_spec (n := nw) (lm := a4) (nl := nl) (L := L) (S := S) (Tg := Tg) (p := p) (fun a ha => nI_60 (Iv_cn I ha)) nw (Nat.le_refl _) with ⟨h1, -⟩ | h
  · obtain ⟨w, hw, -, hm⟩ := Iv_own I hp
    exact absurd (h1 w hw) hm
  · exact h
theorem bp_fin (I : Iv nw nl lm a3 a9 a4 L S Tg Jd Cj) : ((∀ a b, a < nw → b < nw → ¬ pq nl S J Tg p a b) ∧ bp a4 nw nl L S J Tg p nw = (-1, 1000000)) ∨ ∃ a b, a < nw ∧ b < nw ∧ pq nl S J Tg p a b ∧ (∀ a' b', a' < nw → b' < nw → pq nl S J Tg p a' b' → cn a4 (L a + L b) ≤ cn a4 (L a' + L b')) ∧ (∀ a' b', lexB nw a b a' b' → pq nl S J Tg p a' b' → cn a4 (L a + L b) < cn a4 (L a' + L b')) ∧ bp a4 nw nl L S J Tg p nw = (nI (a * 100 + b), cn a4 (L a + L b)) := by
  have h12 := Iv_nw I
  rcases bp_spec (lm := a4) (nw := nw) (nl := nl) (L := L) (S := S) (J := J) (Tg := Tg) (p := p) (fun a b ha hb => nI_60 (Iv_cn2 I ha hb)) nw (Nat.le_refl _) with ⟨h1, h2⟩ | ⟨a, b, ⟨h0, h1, h2, h3⟩, h4⟩
  · exact Or.inl ⟨fun a b ha hb => h1 a b (Or.inl ⟨ha, hb⟩), h2⟩
  · have hab : a < nw ∧ b < nw := by unfold lexB at h0; omega
    refine Or.inr ⟨a, b, hab.1, hab.2, h1, fun a' b' ha hb hq => h2 a' b' (Or.inl ⟨ha, hb⟩) hq, h3, ?_⟩
    rw [h4, show (100 : Int32) = nI 100 from rfl, pk_mul, nI_add]
end
end
section
/-! the class's search, behind the best words and pairs -/
theorem uT_ne {τ : gT} {c i a : Nat} {x : Int32} (h : a ≠ c) : uT τ c i x a = τ a := by
  unfold uT
  rw [if_neg h]
theorem uT_eq {τ : gT} {c i : Nat} {x : Int32} : uT τ c i x c = upd (τ c) i x := by
  unfold uT
  rw [if_pos rfl]
theorem upd_eq {f : Nat → Int32} {k : Nat} {x : Int32} : upd f k x k = x := pk_us
theorem upd_ne {f : Nat → Int32} {k j : Nat} {x : Int32} (h : j ≠ k) : upd f k x j = f j := pk_un h
/-- all but the search's own rows -/
def XS (τ τ' : gT) : Prop := ∀ c, (c < 12 ∨ 17 < c) → τ' c = τ c
theorem XS_rf (τ : gT) : XS τ τ := fun _ _ => rfl
theorem XS_tr {τ τ' τ'' : gT} (h : XS τ τ') (h2 : XS τ' τ'') : XS τ τ'' := fun c hc => (h2 c hc).trans (h c hc)
theorem XS_u {τ : gT} {c i : Nat} {x : Int32} (h : 12 ≤ c) (h2 : c ≤ 17) : XS τ (uT τ c i x) := fun a ha => uT_ne (by omega)
theorem IX_cong {σ : gS} {τ τ' : gT} {nw nl lm : Nat} (I : IX σ τ nw nl lm) (h : XS τ τ') (h17 : ∀ i, τ' 17 i = 0 ∨ τ' 17 i = 1) : IX σ τ' nw nl lm := by
  unfold IX at *
  rw [h 0 (by decide), h 1 (by decide), h 7 (by decide), h 8 (by decide)]
  obtain ⟨x1, x2, x3, x4, x5, x6, x7, x8, x9, x10, x11, x12, x13⟩ := I
  exact ⟨x1, x2, x3, x4, x5, x6, x7, x8, x9, h17, x11, x12, x13⟩
/-- what the class notes of a place: alone, joined -/
def LAx (σ : gS) (τ : gT) (nw nl p : Nat) : Int32 := (bw (σ 4) nl (τ 0) (τ 1) (τ 7) p nw).2
def LJx (σ : gS) (τ : gT) (nw nl p : Nat) : Int32 := (bp (σ 4) nw nl (τ 0) (τ 1) (τ 2) (τ 7) p nw).2
theorem LAx_s {σ : gS} {τ τ' : gT} {nw nl p : Nat} (h : XS τ τ') : LAx σ τ' nw nl p = LAx σ τ nw nl p := by
  unfold LAx
  rw [h 0 (by decide), h 1 (by decide), h 7 (by decide)]
theorem LJx_s {σ : gS} {τ τ' : gT} {nw nl p : Nat} (h : XS τ τ') : LJx σ τ' nw nl p = LJx σ τ nw nl p := by
  unfold LJx
  rw [h 0 (by decide), h 1 (by decide), h 2 (by decide), h 7 (by decide)]
def NL (σ : gS) (τ : gT) (nw nl p : Nat) (τ' : gT) : Prop := (∀ c, c ≠ 12 → c ≠ 13 → τ' c = τ c) ∧ ∀ q, q < p → τ' 12 q = LAx σ τ nw nl q ∧ τ' 13 q = LJx σ τ nw nl q
theorem NL_s {σ : gS} {τ τ' : gT} {nw nl p : Nat} (h : NL σ τ nw nl p τ') : XS τ τ' := fun c hc => h.1 c (by omega) (by omega)
theorem NL_next {σ : gS} {τ τ' : gT} {nw nl p : Nat} {x y : Int32} (h : NL σ τ nw nl p τ') (hx : x = LAx σ τ nw nl p) (hy : y = LJx σ τ nw nl p) : NL σ τ nw nl (p + 1) (uT (uT τ' 12 p x) 13 p y) := by
  refine ⟨fun c h1 h2 => by rw [uT_ne h2, uT_ne h1, h.1 c h1 h2], fun q hq => ?_⟩
  rw [uT_ne (show (12 : Nat) ≠ 13 by decide), uT_eq, uT_eq, uT_ne (show (13 : Nat) ≠ 12 by decide)]
  by_cases e : q = p
  · subst e
    rw [upd_eq, upd_eq]
    exact ⟨hx, hy⟩
  · rw [upd_ne e, upd_ne e]
    exact h.2 q (by omega)
/-- a / 100 and a % 100 of a pair's number -/
theorem pr_div {a b : Nat} (ha : a < 12) (hb : b < 12) : nI (a * 100 + b) / 100 = nI a := by
  rw [show (100 : Int32) = nI 100 from rfl, pk_div (by omega) (by omega) (by omega)]
  congr 1
  omega
theorem pr_rem {a b : Nat} (ha : a < 12) (hb : b < 12) : nI (a * 100 + b) - nI (a * 100 + b) / 100 * 100 = nI b := by
  rw [show (100 : Int32) = nI 100 from rfl, pk_rem (by omega) (by omega) (by omega)]
  congr 1
  omega
theorem pr_ne {a b : Nat} (ha : a < 12) (hb : b < 12) : ¬ nI (a * 100 + b) = -1 := by
  intro h
  have := congrArg Int32.toInt h
  rw [nI_toInt (by omega)] at this
  have e : (-1 : Int32).toInt = -1 := by decide
  omega
set_option maxRecDepth 100000 in
theorem mwX0_noteLeastCounts_inX : ∀ w ∈ wsX00, w ∈ wsX0_noteLeastCounts := by decide +kernel
set_option maxRecDepth 100000 in
theorem mwX0_noteLeastCounts_f39 : Cond.fieldLink RX0 39 "TelegraphPrices" "length" "I" ∈ wsX0_noteLeastCounts := by decide +kernel
set_option maxRecDepth 100000 in
theorem mwX0_noteLeastCounts_f48 : Cond.fieldLink RX0 48 "TelegraphPrices" "leastAlone" "[I" ∈ wsX0_noteLeastCounts := by decide +kernel
set_option maxRecDepth 100000 in
theorem mwX0_noteLeastCounts_f9 : Cond.fieldLink RX0 9 "TelegraphPrices" "letters" "[I" ∈ wsX0_noteLeastCounts := by decide +kernel
set_option maxRecDepth 100000 in
theorem mwX0_noteLeastCounts_f51 : Cond.fieldLink RX0 51 "TelegraphPrices" "leastJoined" "[I" ∈ wsX0_noteLeastCounts := by decide +kernel
set_option maxRecDepth 100000 in
theorem mwX0_noteLeastCounts_c151 : Cond.constant RX0 151 (1000000) ∈ wsX0_noteLeastCounts := by decide +kernel
set_option maxHeartbeats 4000000 in
set_option maxRecDepth 100000 in
theorem c_noteLeast {l : Launch} (hl : l.stackTraces = false) (Γ : gG) (σ : gS) (τ : gT) (o : gO) (nw nl lm : Nat) (I : IX σ τ nw nl lm) : Ct l yX0_noteLeastCounts wsX0_noteLeastCounts 4 128 0 0 [.ref (Γ.2.1 100)] Γ σ τ o (pV (fun σ' τ' o' => σ' = σ ∧ o' = o ∧ NL σ τ nw nl nl τ')) (noX) := by
  refine ct_of hl (by decide +kernel) rfl (Nat.le_of_ble_eq_true rfl) ?_
  intro E C F T hΓ hL R
  subst hΓ
  subst hL
  show G E 0 0 0 [(0, .ref ((eG E).2.1 100))] [] σ τ o
  have hnw := Iv_nw I
  have hnl := Iv_nl I
  have h3 : σ 3 = nI nw := Iv_h3 I
  have h9 : σ 9 = nI nl := Iv_h9 I
  have h4 : ¬ σ 4 = 0 := Iv_ne I
  have loop : ∀ m p : Nat, ∀ τ' : gT, p + m = nl → NL σ τ nw nl p τ' → G E 0 0 2 [(1, .int (nI p)), (0, .ref ((eG E).2.1 100))] [] σ τ' o := by
    intro m
    induction m with
    | zero =>
      intro p τ' hp hN
      refine g_iload_n C dX0_noteLeastCounts_2 rfl rfl ?_
      refine g_aload_n C dX0_noteLeastCounts_3 rfl rfl ?_
      refine g_getX C 9 dX0_noteLeastCounts_4 mwX0_noteLeastCounts_inX (by decide) mwX0_noteLeastCounts_f39 rfl rfl ?_
      refine g_icmp_ge (tgt := 70) C dX0_noteLeastCounts_7 (by decide) (fun c_7 => ?_) (fun c_7 => ?_)
      · exact g_vret C F dX0_noteLeastCounts_70 (by decide) (by decide) ⟨rfl, rfl, rfl, by rw [show p = nl by omega] at hN; exact hN⟩
      · exact absurd (by rw [h9]; exact nI_le (by omega) (by omega)) c_7
    | succ m ih =>
      intro p τ' hp hN
      have hpl : p < nl := by omega
      have I1 : IX σ τ' nw nl lm := IX_cong I (NL_s hN) (fun i => by rw [hN.1 17 (by decide) (by decide)]; exact Iv_cj I i)
      obtain ⟨a, ha, e1⟩ := bw_fin I1 hpl
      have eA : cn (σ 4) (τ' 0 a) = LAx σ τ nw nl p := by
        rw [← LAx_s (NL_s hN)]
        unfold LAx
        rw [e1]
      have hX2 : XS τ' (uT τ' 12 p (cn (σ 4) (τ' 0 a))) := XS_u (by decide) (by decide)
      have I2 : IX σ (uT τ' 12 p (cn (σ 4) (τ' 0 a))) nw nl lm := IX_cong I1 hX2 (fun i => Iv_cj I1 i)
      refine g_iload_n C dX0_noteLeastCounts_2 rfl rfl ?_
      refine g_aload_n C dX0_noteLeastCounts_3 rfl rfl ?_
      refine g_getX C 9 dX0_noteLeastCounts_4 mwX0_noteLeastCounts_inX (by decide) mwX0_noteLeastCounts_f39 rfl rfl ?_
      refine g_icmp_ge (tgt := 70) C dX0_noteLeastCounts_7 (by decide) (fun c_7 => ?_) (fun c_7 => ?_)
      · exact absurd (by rw [h9] at c_7; exact c_7) (nI_ge (by omega) (by omega))
      · refine g_aload_n C dX0_noteLeastCounts_10 rfl rfl ?_
        refine g_getX C 12 dX0_noteLeastCounts_11 mwX0_noteLeastCounts_inX (by decide) mwX0_noteLeastCounts_f48 rfl rfl ?_
        refine g_iload_n C dX0_noteLeastCounts_14 rfl rfl ?_
        refine g_aload_n C dX0_noteLeastCounts_15 rfl rfl ?_
        refine g_aload_n C dX0_noteLeastCounts_16 rfl rfl ?_
        refine g_getX C 0 dX0_noteLeastCounts_17 mwX0_noteLeastCounts_inX (by decide) mwX0_noteLeastCounts_f9 rfl rfl ?_
        refine g_aload_n C dX0_noteLeastCounts_20 rfl rfl ?_
        refine g_iload_n C dX0_noteLeastCounts_21 rfl rfl ?_
        refine g_callVEi (Cl := RX0) (T := TX0) (N := 18) (ci := 0) (q0 := 0) (na := 1) C dX0_noteLeastCounts_22 (c_bestWordAt hl (eG E) σ τ' o nw nl lm p I1 hpl) gX0_noteLeastCounts_X0_bestWordAt rfl rfl (by decide +kernel) rfl rfl rfl (Nat.le_of_ble_eq_true rfl) (by rw [R]; exact ⟨by decide, by decide⟩) (by rw [R]; exact ⟨by decide, by decide⟩) ?_
        refine g_topi (show _ = nI a by rw [e1]) ?_
        refine g_ialdN C (a) dX0_noteLeastCounts_25 rfl rfl (show a < 12 by have := ha.1; omega) (by decide) ?_
        refine g_callVEi (Cl := RX0) (T := TX0) (N := 18) (ci := 0) (q0 := 0) (na := 1) C dX0_noteLeastCounts_26 (c_cnt hl (eG E) σ τ' o _ h4) gX0_noteLeastCounts_X0_countOfLetters rfl rfl (by decide +kernel) rfl rfl rfl (Nat.le_of_ble_eq_true rfl) (by rw [R]; exact ⟨by decide, by decide⟩) (by rw [R]; exact ⟨by decide, by decide⟩) ?_
        refine g_iastN C (p) dX0_noteLeastCounts_29 rfl rfl (show p < 16 by omega) (by decide) rfl ?_
        refine g_aload_n C dX0_noteLeastCounts_30 rfl rfl ?_
        refine g_iload_n C dX0_noteLeastCounts_31 rfl rfl ?_
        refine g_callVEi (Cl := RX0) (T := TX0) (N := 18) (ci := 0) (q0 := 0) (na := 1) C dX0_noteLeastCounts_32 (c_bestPairAt hl (eG E) σ (uT τ' 12 p (cn (σ 4) (τ' 0 a))) o nw nl lm p I2 hpl) gX0_noteLeastCounts_X0_bestPairAt rfl rfl (by decide +kernel) rfl rfl rfl (Nat.le_of_ble_eq_true rfl) (by rw [R]; exact ⟨by decide, by decide⟩) (by rw [R]; exact ⟨by decide, by decide⟩) ?_
        rcases bp_fin (p := p) (J := (uT τ' 12 p (cn (σ 4) (τ' 0 a))) 2) I2 with ⟨-, e2⟩ | ⟨a2, b2, ha2, hb2, -, -, -, e2⟩
        · refine g_topi (show _ = (-1 : Int32) by rw [e2]) ?_
          refine g_istore_n C [(2, _), (1, _), (0, _)] dX0_noteLeastCounts_35 rfl (by decide) rfl ?_
          refine g_aload_n C dX0_noteLeastCounts_36 rfl rfl ?_
          refine g_getX C 13 dX0_noteLeastCounts_37 mwX0_noteLeastCounts_inX (by decide) mwX0_noteLeastCounts_f51 rfl rfl ?_
          refine g_iload_n C dX0_noteLeastCounts_40 rfl rfl ?_
          refine g_iload_n C dX0_noteLeastCounts_41 rfl rfl ?_
          refine g_iconst (v := (-1)) C dX0_noteLeastCounts_42 (by decide) ?_
          refine g_icmp_ne (tgt := 51) C dX0_noteLeastCounts_43 (by decide) (fun c_43 => ?_) (fun c_43 => ?_)
          · exact absurd rfl c_43
          · have eJ : (1000000 : Int32) = LJx σ τ nw nl p := by
              rw [← LJx_s (XS_tr (NL_s hN) hX2)]
              unfold LJx
              rw [e2]
            refine g_ldc C dX0_noteLeastCounts_46 mwX0_noteLeastCounts_c151 ?_
            refine g_goto (tgt := 63) C dX0_noteLeastCounts_48 (by decide) ?_
            refine g_iastN C (p) dX0_noteLeastCounts_63 rfl rfl (show p < 16 by omega) (by decide) rfl ?_
            refine g_iinc C 1 [(1, _), (2, _), (0, _)] dX0_noteLeastCounts_64 rfl (nI_i1 p) (by decide) rfl ?_
            refine g_goto (tgt := 2) C dX0_noteLeastCounts_67 (by decide) ?_
            refine g_lv [0, 2] [(1, _), (0, _)] rfl ?_
            exact ih (p + 1) _ (by omega) (NL_next hN eA eJ)
        · refine g_topi (show _ = nI (a2 * 100 + b2) by rw [e2]) ?_
          refine g_istore_n C [(2, _), (1, _), (0, _)] dX0_noteLeastCounts_35 rfl (by decide) rfl ?_
          refine g_aload_n C dX0_noteLeastCounts_36 rfl rfl ?_
          refine g_getX C 13 dX0_noteLeastCounts_37 mwX0_noteLeastCounts_inX (by decide) mwX0_noteLeastCounts_f51 rfl rfl ?_
          refine g_iload_n C dX0_noteLeastCounts_40 rfl rfl ?_
          refine g_iload_n C dX0_noteLeastCounts_41 rfl rfl ?_
          refine g_iconst (v := (-1)) C dX0_noteLeastCounts_42 (by decide) ?_
          refine g_icmp_ne (tgt := 51) C dX0_noteLeastCounts_43 (by decide) (fun c_43 => ?_) (fun c_43 => ?_)
          · have eJ : cn (σ 4) ((uT τ' 12 p (cn (σ 4) (τ' 0 a))) 0 a2 + (uT τ' 12 p (cn (σ 4) (τ' 0 a))) 0 b2) = LJx σ τ nw nl p := by
              rw [← LJx_s (XS_tr (NL_s hN) hX2)]
              unfold LJx
              rw [e2]
            refine g_aload_n C dX0_noteLeastCounts_51 rfl rfl ?_
            refine g_iload_n C dX0_noteLeastCounts_52 rfl rfl ?_
            refine g_bipush (v := 100) C dX0_noteLeastCounts_53 (by decide) ?_
            refine g_idiv C dX0_noteLeastCounts_55 (by decide) ?_
            refine g_topi (pr_div (show a2 < 12 by omega) (show b2 < 12 by omega)) ?_
            refine g_iload_n C dX0_noteLeastCounts_56 rfl rfl ?_
            refine g_bipush (v := 100) C dX0_noteLeastCounts_57 (by decide) ?_
            refine g_irem C dX0_noteLeastCounts_59 (by decide) ?_
            refine g_topi (pr_rem (show a2 < 12 by omega) (show b2 < 12 by omega)) ?_
            refine g_callVEi (Cl := RX0) (T := TX0) (N := 18) (ci := 0) (q0 := 0) (na := 2) C dX0_noteLeastCounts_60 (c_cntPair hl (eG E) σ (uT τ' 12 p (cn (σ 4) (τ' 0 a))) o _ _ h4 (vp_in_nI (show a2 < 12 by omega) (by decide)) (vp_in_nI (show b2 < 12 by omega) (by decide))) gX0_noteLeastCounts_X0_countOfPair rfl rfl (by decide +kernel) rfl rfl rfl (Nat.le_of_ble_eq_true rfl) (by rw [R]; exact ⟨by decide, by decide⟩) (by rw [R]; exact ⟨by decide, by decide⟩) ?_
            rw [nI_clamp (show a2 < 2 ^ 31 by omega), nI_clamp (show b2 < 2 ^ 31 by omega)]
            refine g_iastN C (p) dX0_noteLeastCounts_63 rfl rfl (show p < 16 by omega) (by decide) rfl ?_
            refine g_iinc C 1 [(1, _), (2, _), (0, _)] dX0_noteLeastCounts_64 rfl (nI_i1 p) (by decide) rfl ?_
            refine g_goto (tgt := 2) C dX0_noteLeastCounts_67 (by decide) ?_
            refine g_lv [0, 2] [(1, _), (0, _)] rfl ?_
            exact ih (p + 1) _ (by omega) (NL_next hN eA eJ)
          · exact absurd c_43 (pr_ne (by omega) (by omega))
  refine g_iconst (v := 0) C dX0_noteLeastCounts_0 (by decide) ?_
  refine g_istore_n C [(1, _), (0, _)] dX0_noteLeastCounts_1 rfl (by decide) rfl ?_
  exact loop nl 0 τ (Nat.zero_add _) ⟨fun _ _ _ => rfl, fun q hq => absurd hq (Nat.not_lt_zero q)⟩
/-- what counts the least from a place on: m places from the end, and one less -/
def fw (A J : Nat → Int32) (nl : Nat) : Nat → Int32 × Int32
  | 0 => (0, 0)
  | m + 1 => (if J (nl - (m + 1)) + (fw A J nl m).2 < A (nl - (m + 1)) + (fw A J nl m).1 then J (nl - (m + 1)) + (fw A J nl m).2 else A (nl - (m + 1)) + (fw A J nl m).1, (fw A J nl m).1)
theorem fw_2 (A J : Nat → Int32) (nl m : Nat) : (fw A J nl (m + 1)).2 = (fw A J nl m).1 := rfl
def LI (τ : gT) (k nl r : Nat) (τ' : gT) : Prop := (∀ c, c ≠ 15 → τ' c = τ c) ∧ τ' 15 r = (fw (τ 12) (τ k) nl (nl - r)).1 ∧ τ' 15 (r + 1) = (fw (τ 12) (τ k) nl (nl - r)).2 ∧ ∀ q, r ≤ q → q ≤ nl → τ' 15 q = (fw (τ 12) (τ k) nl (nl - q)).1
theorem nI_pm (r : Nat) : nI (r + 1) - 1 + Int32.ofInt (-1) = nI r - 1 := by
  rw [nI_pred]
  cases r with
  | zero => decide
  | succ r => rw [nI_pred]; exact pk_m1 r
theorem nI_p1 (r : Nat) : nI (r + 1) - 1 + 1 = nI (r + 1) := by rw [nI_pred, nI_1]
theorem nI_p2 (r : Nat) : nI (r + 1) - 1 + 2 = nI (r + 2) := by
  rw [nI_pred, show (2 : Int32) = nI 2 from rfl, nI_add]
theorem LI_next {τ τ' : gT} {k nl r : Nat} (hk : k ≠ 15) (h : LI τ k nl (r + 1) τ') (hr : r + 1 ≤ nl) : LI τ k nl r (uT τ' 15 r (if τ' k r + τ' 15 (r + 2) < τ' 12 r + τ' 15 (r + 1) then τ' k r + τ' 15 (r + 2) else τ' 12 r + τ' 15 (r + 1))) := by
  obtain ⟨h1, h2, h3, h4⟩ := h
  have e : nl - r = (nl - (r + 1)) + 1 := by omega
  have e2 : nl - ((nl - (r + 1)) + 1) = r := by omega
  have key : (fw (τ 12) (τ k) nl (nl - r)).1 = (if τ' k r + τ' 15 (r + 2) < τ' 12 r + τ' 15 (r + 1) then τ' k r + τ' 15 (r + 2) else τ' 12 r + τ' 15 (r + 1)) := by
    rw [h1 k hk, h1 12 (by decide), h2, h3, e]
    show (if τ k (nl - ((nl - (r + 1)) + 1)) + _ < _ then _ else _) = _
    rw [e2]
  refine ⟨fun c hc => by rw [uT_ne hc, h1 c hc], ?_, ?_, fun q hq1 hq2 => ?_⟩
  · rw [uT_eq, upd_eq, key]
  · rw [uT_eq, upd_ne (by omega), h2, e, fw_2]
  · by_cases z : q = r
    · subst z
      rw [uT_eq, upd_eq, key]
    · rw [uT_eq, upd_ne z]
      exact h4 q (by omega) hq2
set_option maxRecDepth 100000 in
theorem mwX0_leastInAll_inX : ∀ w ∈ wsX00, w ∈ wsX0_leastInAll := by decide +kernel
set_option maxRecDepth 100000 in
theorem mwX0_leastInAll_f57 : Cond.fieldLink RX0 57 "TelegraphPrices" "leastFrom" "[I" ∈ wsX0_leastInAll := by decide +kernel
set_option maxRecDepth 100000 in
theorem mwX0_leastInAll_f48 : Cond.fieldLink RX0 48 "TelegraphPrices" "leastAlone" "[I" ∈ wsX0_leastInAll := by decide +kernel
set_option maxRecDepth 100000 in
theorem mwX0_leastInAll_l152 : Cond.methodLink RX0 152 Lib.Math.min.name ∈ wsX0_leastInAll := by decide +kernel
set_option maxRecDepth 100000 in
theorem mwX0_leastInAll_smin : Cond.static Lib.Math.min.name ∈ wsX0_leastInAll := by decide +kernel
set_option maxRecDepth 100000 in
theorem mwX0_leastInAll_iMath : Cond.initialized "java/lang/Math" ∈ wsX0_leastInAll := by decide +kernel
set_option maxRecDepth 100000 in
theorem mwX0_leastInAll_kmin : Cond.code Lib.Math.min.name Lib.Math.min.code 2 (some .int) ∈ wsX0_leastInAll := by decide +kernel
set_option maxRecDepth 100000 in
theorem mwX0_leastInAll_f39 : Cond.fieldLink RX0 39 "TelegraphPrices" "length" "I" ∈ wsX0_leastInAll := by decide +kernel
set_option maxHeartbeats 4000000 in
set_option maxRecDepth 100000 in
theorem c_leastInJ {l : Launch} (hl : l.stackTraces = false) (Γ : gG) (σ : gS) (τ : gT) (o : gO) (nl : Nat) (h9 : σ 9 = nI nl) (hnl : nl ≤ 16) : Ct l yX0_leastInAll wsX0_leastInAll 1 32 0 0 [.ref (Γ.2.1 100), .ref (Γ.2.1 13)] Γ σ τ o (pI (fun r σ' τ' o' => r = (fw (τ 12) (τ 13) nl (nl - 0)).1 ∧ σ' = σ ∧ o' = o ∧ (∀ c, c ≠ 15 → τ' c = τ c) ∧ ∀ q, q ≤ nl → τ' 15 q = (fw (τ 12) (τ 13) nl (nl - q)).1)) (noX) := by
  refine ct_of hl (by decide +kernel) rfl (Nat.le_of_ble_eq_true rfl) ?_
  intro E C F T hΓ hL R
  subst hΓ
  subst hL
  show G E 0 0 0 [(0, .ref ((eG E).2.1 100)), (1, .ref ((eG E).2.1 13))] [] σ τ o
  have loop : ∀ r : Nat, ∀ τ' : gT, r ≤ nl → LI τ 13 nl r τ' → G E 0 0 29 [(2, .int (nI r - 1)), (0, .ref ((eG E).2.1 100)), (1, .ref ((eG E).2.1 13))] [] σ τ' o := by
    intro r
    induction r with
    | zero =>
      intro τ' hr hN
      refine g_iload_n C dX0_leastInAll_29 rfl rfl ?_
      refine g_if_lt (tgt := 77) C dX0_leastInAll_30 (by decide) (fun c_30 => ?_) (fun c_30 => ?_)
      · refine g_aload_n C dX0_leastInAll_77 rfl rfl ?_
        refine g_getX C 15 dX0_leastInAll_78 mwX0_leastInAll_inX (by decide) mwX0_leastInAll_f57 rfl rfl ?_
        refine g_iconst (v := 0) C dX0_leastInAll_81 (by decide) ?_
        refine g_ialdN C (0) dX0_leastInAll_82 rfl rfl (show 0 < 18 by decide) (by decide) ?_
        exact g_iret C F dX0_leastInAll_83 (by decide) (by decide) ⟨_, rfl, hN.2.1, rfl, rfl, hN.1, fun q hq => hN.2.2.2 q (Nat.zero_le _) hq⟩
      · exact absurd (by decide) c_30
    | succ r ih =>
      intro τ' hr hN
      refine g_iload_n C dX0_leastInAll_29 rfl rfl ?_
      refine g_if_lt (tgt := 77) C dX0_leastInAll_30 (by decide) (fun c_30 => ?_) (fun c_30 => ?_)
      · exact absurd (by rw [nI_pred] at c_30; exact c_30) (nI_pos (by omega))
      · refine g_aload_n C dX0_leastInAll_33 rfl rfl ?_
        refine g_getX C 12 dX0_leastInAll_34 mwX0_leastInAll_inX (by decide) mwX0_leastInAll_f48 rfl rfl ?_
        refine g_iload_n C dX0_leastInAll_37 rfl rfl ?_
        refine g_ialdN C (r) dX0_leastInAll_38 rfl (nI_pred r) (show r < 16 by omega) (by decide) ?_
        refine g_aload_n C dX0_leastInAll_39 rfl rfl ?_
        refine g_getX C 15 dX0_leastInAll_40 mwX0_leastInAll_inX (by decide) mwX0_leastInAll_f57 rfl rfl ?_
        refine g_iload_n C dX0_leastInAll_43 rfl rfl ?_
        refine g_iconst (v := 1) C dX0_leastInAll_44 (by decide) ?_
        refine g_iadd C dX0_leastInAll_45 ?_
        refine g_ialdN C (r + 1) dX0_leastInAll_46 rfl (nI_p1 r) (show r + 1 < 18 by omega) (by decide) ?_
        refine g_iadd C dX0_leastInAll_47 ?_
        refine g_istore_n C [(3, _), (2, _), (0, _), (1, _)] dX0_leastInAll_48 rfl (by decide) rfl ?_
        refine g_aload_n C dX0_leastInAll_49 rfl rfl ?_
        refine g_getX C 15 dX0_leastInAll_50 mwX0_leastInAll_inX (by decide) mwX0_leastInAll_f57 rfl rfl ?_
        refine g_iload_n C dX0_leastInAll_53 rfl rfl ?_
        refine g_iload_n C dX0_leastInAll_54 rfl rfl ?_
        refine g_aload_n C dX0_leastInAll_55 rfl rfl ?_
        refine g_iload_n C dX0_leastInAll_56 rfl rfl ?_
        refine g_ialdN C (r) dX0_leastInAll_57 rfl (nI_pred r) (show r < 16 by omega) (by decide) ?_
        refine g_aload_n C dX0_leastInAll_58 rfl rfl ?_
        refine g_getX C 15 dX0_leastInAll_59 mwX0_leastInAll_inX (by decide) mwX0_leastInAll_f57 rfl rfl ?_
        refine g_iload_n C dX0_leastInAll_62 rfl rfl ?_
        refine g_iconst (v := 2) C dX0_leastInAll_63 (by decide) ?_
        refine g_iadd C dX0_leastInAll_64 ?_
        refine g_ialdN C (r + 2) dX0_leastInAll_65 rfl (nI_p2 r) (show r + 2 < 18 by omega) (by decide) ?_
        refine g_iadd C dX0_leastInAll_66 ?_
        refine g_mmin C dX0_leastInAll_67 mwX0_leastInAll_l152 mwX0_leastInAll_smin mwX0_leastInAll_iMath mwX0_leastInAll_kmin (by rw [R]; exact ⟨by decide, Nat.le_of_ble_eq_true rfl, by decide, by decide⟩) ?_
        refine g_iastN C (r) dX0_leastInAll_70 rfl (nI_pred r) (show r < 18 by omega) (by decide) rfl ?_
        refine g_iinc C 1 [(2, _), (3, _), (0, _), (1, _)] dX0_leastInAll_71 rfl (nI_pm r) (by decide) rfl ?_
        refine g_goto (tgt := 29) C dX0_leastInAll_74 (by decide) ?_
        refine g_lv [0, 2, 3] [(2, _), (0, _), (1, _)] rfl ?_
        exact ih _ (by omega) (LI_next (by decide) hN hr)
  refine g_aload_n C dX0_leastInAll_0 rfl rfl ?_
  refine g_getX C 15 dX0_leastInAll_1 mwX0_leastInAll_inX (by decide) mwX0_leastInAll_f57 rfl rfl ?_
  refine g_aload_n C dX0_leastInAll_4 rfl rfl ?_
  refine g_getX C 9 dX0_leastInAll_5 mwX0_leastInAll_inX (by decide) mwX0_leastInAll_f39 rfl rfl ?_
  refine g_iconst (v := 0) C dX0_leastInAll_8 (by decide) ?_
  refine g_iastN C (nl) dX0_leastInAll_9 rfl h9 (show nl < 18 by omega) (by decide) rfl ?_
  refine g_aload_n C dX0_leastInAll_10 rfl rfl ?_
  refine g_getX C 15 dX0_leastInAll_11 mwX0_leastInAll_inX (by decide) mwX0_leastInAll_f57 rfl rfl ?_
  refine g_aload_n C dX0_leastInAll_14 rfl rfl ?_
  refine g_getX C 9 dX0_leastInAll_15 mwX0_leastInAll_inX (by decide) mwX0_leastInAll_f39 rfl rfl ?_
  refine g_iconst (v := 1) C dX0_leastInAll_18 (by decide) ?_
  refine g_iadd C dX0_leastInAll_19 ?_
  refine g_iconst (v := 0) C dX0_leastInAll_20 (by decide) ?_
  refine g_iastN C (nl + 1) dX0_leastInAll_21 rfl (by rw [h9]; exact nI_1 nl) (show nl + 1 < 18 by omega) (by decide) rfl ?_
  refine g_aload_n C dX0_leastInAll_22 rfl rfl ?_
  refine g_getX C 9 dX0_leastInAll_23 mwX0_leastInAll_inX (by decide) mwX0_leastInAll_f39 rfl rfl ?_
  refine g_iconst (v := 1) C dX0_leastInAll_26 (by decide) ?_
  refine g_isub C dX0_leastInAll_27 ?_
  refine g_topi (show _ = nI nl - 1 by rw [h9]) ?_
  refine g_istore_n C [(2, _), (0, _), (1, _)] dX0_leastInAll_28 rfl (by decide) rfl ?_
  refine loop nl _ (Nat.le_refl _) ⟨fun c hc => by rw [uT_ne hc, uT_ne hc], ?_, ?_, fun q hq1 hq2 => ?_⟩
  · rw [Nat.sub_self, uT_eq, uT_eq, upd_ne (by omega), upd_eq]
    rfl
  · rw [Nat.sub_self, uT_eq, upd_eq]
    rfl
  · rw [show q = nl by omega, Nat.sub_self, uT_eq, uT_eq, upd_ne (by omega), upd_eq]
    rfl
set_option maxHeartbeats 4000000 in
set_option maxRecDepth 100000 in
theorem c_leastInT {l : Launch} (hl : l.stackTraces = false) (Γ : gG) (σ : gS) (τ : gT) (o : gO) (nl : Nat) (h9 : σ 9 = nI nl) (hnl : nl ≤ 16) : Ct l yX0_leastInAll wsX0_leastInAll 1 32 0 0 [.ref (Γ.2.1 100), .ref (Γ.2.1 14)] Γ σ τ o (pI (fun r σ' τ' o' => r = (fw (τ 12) (τ 14) nl (nl - 0)).1 ∧ σ' = σ ∧ o' = o ∧ (∀ c, c ≠ 15 → τ' c = τ c) ∧ ∀ q, q ≤ nl → τ' 15 q = (fw (τ 12) (τ 14) nl (nl - q)).1)) (noX) := by
  refine ct_of hl (by decide +kernel) rfl (Nat.le_of_ble_eq_true rfl) ?_
  intro E C F T hΓ hL R
  subst hΓ
  subst hL
  show G E 0 0 0 [(0, .ref ((eG E).2.1 100)), (1, .ref ((eG E).2.1 14))] [] σ τ o
  have loop : ∀ r : Nat, ∀ τ' : gT, r ≤ nl → LI τ 14 nl r τ' → G E 0 0 29 [(2, .int (nI r - 1)), (0, .ref ((eG E).2.1 100)), (1, .ref ((eG E).2.1 14))] [] σ τ' o := by
    intro r
    induction r with
    | zero =>
      intro τ' hr hN
      refine g_iload_n C dX0_leastInAll_29 rfl rfl ?_
      refine g_if_lt (tgt := 77) C dX0_leastInAll_30 (by decide) (fun c_30 => ?_) (fun c_30 => ?_)
      · refine g_aload_n C dX0_leastInAll_77 rfl rfl ?_
        refine g_getX C 15 dX0_leastInAll_78 mwX0_leastInAll_inX (by decide) mwX0_leastInAll_f57 rfl rfl ?_
        refine g_iconst (v := 0) C dX0_leastInAll_81 (by decide) ?_
        refine g_ialdN C (0) dX0_leastInAll_82 rfl rfl (show 0 < 18 by decide) (by decide) ?_
        exact g_iret C F dX0_leastInAll_83 (by decide) (by decide) ⟨_, rfl, hN.2.1, rfl, rfl, hN.1, fun q hq => hN.2.2.2 q (Nat.zero_le _) hq⟩
      · exact absurd (by decide) c_30
    | succ r ih =>
      intro τ' hr hN
      refine g_iload_n C dX0_leastInAll_29 rfl rfl ?_
      refine g_if_lt (tgt := 77) C dX0_leastInAll_30 (by decide) (fun c_30 => ?_) (fun c_30 => ?_)
      · exact absurd (by rw [nI_pred] at c_30; exact c_30) (nI_pos (by omega))
      · refine g_aload_n C dX0_leastInAll_33 rfl rfl ?_
        refine g_getX C 12 dX0_leastInAll_34 mwX0_leastInAll_inX (by decide) mwX0_leastInAll_f48 rfl rfl ?_
        refine g_iload_n C dX0_leastInAll_37 rfl rfl ?_
        refine g_ialdN C (r) dX0_leastInAll_38 rfl (nI_pred r) (show r < 16 by omega) (by decide) ?_
        refine g_aload_n C dX0_leastInAll_39 rfl rfl ?_
        refine g_getX C 15 dX0_leastInAll_40 mwX0_leastInAll_inX (by decide) mwX0_leastInAll_f57 rfl rfl ?_
        refine g_iload_n C dX0_leastInAll_43 rfl rfl ?_
        refine g_iconst (v := 1) C dX0_leastInAll_44 (by decide) ?_
        refine g_iadd C dX0_leastInAll_45 ?_
        refine g_ialdN C (r + 1) dX0_leastInAll_46 rfl (nI_p1 r) (show r + 1 < 18 by omega) (by decide) ?_
        refine g_iadd C dX0_leastInAll_47 ?_
        refine g_istore_n C [(3, _), (2, _), (0, _), (1, _)] dX0_leastInAll_48 rfl (by decide) rfl ?_
        refine g_aload_n C dX0_leastInAll_49 rfl rfl ?_
        refine g_getX C 15 dX0_leastInAll_50 mwX0_leastInAll_inX (by decide) mwX0_leastInAll_f57 rfl rfl ?_
        refine g_iload_n C dX0_leastInAll_53 rfl rfl ?_
        refine g_iload_n C dX0_leastInAll_54 rfl rfl ?_
        refine g_aload_n C dX0_leastInAll_55 rfl rfl ?_
        refine g_iload_n C dX0_leastInAll_56 rfl rfl ?_
        refine g_ialdN C (r) dX0_leastInAll_57 rfl (nI_pred r) (show r < 16 by omega) (by decide) ?_
        refine g_aload_n C dX0_leastInAll_58 rfl rfl ?_
        refine g_getX C 15 dX0_leastInAll_59 mwX0_leastInAll_inX (by decide) mwX0_leastInAll_f57 rfl rfl ?_
        refine g_iload_n C dX0_leastInAll_62 rfl rfl ?_
        refine g_iconst (v := 2) C dX0_leastInAll_63 (by decide) ?_
        refine g_iadd C dX0_leastInAll_64 ?_
        refine g_ialdN C (r + 2) dX0_leastInAll_65 rfl (nI_p2 r) (show r + 2 < 18 by omega) (by decide) ?_
        refine g_iadd C dX0_leastInAll_66 ?_
        refine g_mmin C dX0_leastInAll_67 mwX0_leastInAll_l152 mwX0_leastInAll_smin mwX0_leastInAll_iMath mwX0_leastInAll_kmin (by rw [R]; exact ⟨by decide, Nat.le_of_ble_eq_true rfl, by decide, by decide⟩) ?_
        refine g_iastN C (r) dX0_leastInAll_70 rfl (nI_pred r) (show r < 18 by omega) (by decide) rfl ?_
        refine g_iinc C 1 [(2, _), (3, _), (0, _), (1, _)] dX0_leastInAll_71 rfl (nI_pm r) (by decide) rfl ?_
        refine g_goto (tgt := 29) C dX0_leastInAll_74 (by decide) ?_
        refine g_lv [0, 2, 3] [(2, _), (0, _), (1, _)] rfl ?_
        exact ih _ (by omega) (LI_next (by decide) hN hr)
  refine g_aload_n C dX0_leastInAll_0 rfl rfl ?_
  refine g_getX C 15 dX0_leastInAll_1 mwX0_leastInAll_inX (by decide) mwX0_leastInAll_f57 rfl rfl ?_
  refine g_aload_n C dX0_leastInAll_4 rfl rfl ?_
  refine g_getX C 9 dX0_leastInAll_5 mwX0_leastInAll_inX (by decide) mwX0_leastInAll_f39 rfl rfl ?_
  refine g_iconst (v := 0) C dX0_leastInAll_8 (by decide) ?_
  refine g_iastN C (nl) dX0_leastInAll_9 rfl h9 (show nl < 18 by omega) (by decide) rfl ?_
  refine g_aload_n C dX0_leastInAll_10 rfl rfl ?_
  refine g_getX C 15 dX0_leastInAll_11 mwX0_leastInAll_inX (by decide) mwX0_leastInAll_f57 rfl rfl ?_
  refine g_aload_n C dX0_leastInAll_14 rfl rfl ?_
  refine g_getX C 9 dX0_leastInAll_15 mwX0_leastInAll_inX (by decide) mwX0_leastInAll_f39 rfl rfl ?_
  refine g_iconst (v := 1) C dX0_leastInAll_18 (by decide) ?_
  refine g_iadd C dX0_leastInAll_19 ?_
  refine g_iconst (v := 0) C dX0_leastInAll_20 (by decide) ?_
  refine g_iastN C (nl + 1) dX0_leastInAll_21 rfl (by rw [h9]; exact nI_1 nl) (show nl + 1 < 18 by omega) (by decide) rfl ?_
  refine g_aload_n C dX0_leastInAll_22 rfl rfl ?_
  refine g_getX C 9 dX0_leastInAll_23 mwX0_leastInAll_inX (by decide) mwX0_leastInAll_f39 rfl rfl ?_
  refine g_iconst (v := 1) C dX0_leastInAll_26 (by decide) ?_
  refine g_isub C dX0_leastInAll_27 ?_
  refine g_topi (show _ = nI nl - 1 by rw [h9]) ?_
  refine g_istore_n C [(2, _), (0, _), (1, _)] dX0_leastInAll_28 rfl (by decide) rfl ?_
  refine loop nl _ (Nat.le_refl _) ⟨fun c hc => by rw [uT_ne hc, uT_ne hc], ?_, ?_, fun q hq1 hq2 => ?_⟩
  · rw [Nat.sub_self, uT_eq, uT_eq, upd_ne (by omega), upd_eq]
    rfl
  · rw [Nat.sub_self, uT_eq, upd_eq]
    rfl
  · rw [show q = nl by omega, Nat.sub_self, uT_eq, uT_eq, upd_ne (by omega), upd_eq]
    rfl
set_option maxRecDepth 100000 in
theorem mwX0_noteCheapestAt_inX : ∀ w ∈ wsX00, w ∈ wsX0_noteCheapestAt := by decide +kernel
set_option maxRecDepth 100000 in
theorem mwX0_noteCheapestAt_f60 : Cond.fieldLink RX0 60 "TelegraphPrices" "cheapestWords" "[I" ∈ wsX0_noteCheapestAt := by decide +kernel
set_option maxRecDepth 100000 in
theorem mwX0_noteCheapestAt_f63 : Cond.fieldLink RX0 63 "TelegraphPrices" "cheapestJoined" "[Z" ∈ wsX0_noteCheapestAt := by decide +kernel
set_option maxHeartbeats 4000000 in
set_option maxRecDepth 100000 in
theorem c_noteAt {l : Launch} (hl : l.stackTraces = false) (Γ : gG) (σ : gS) (τ : gT) (o : gO) (p : Nat) (w x : Int32) (hp : p < 16) (hx : x = 0 ∨ x = 1) : Ct l yX0_noteCheapestAt wsX0_noteCheapestAt 1 32 0 0 [.ref (Γ.2.1 100), .int (nI p), .int w, .int x] Γ σ τ o (pE none σ (uT (uT τ 16 p w) 17 p x) o) (noX) := by
  refine ct_of hl (by decide +kernel) rfl (Nat.le_of_ble_eq_true rfl) ?_
  intro E C F T hΓ hL R
  subst hΓ
  subst hL
  show G E 0 0 0 [(0, .ref ((eG E).2.1 100)), (1, .int (nI p)), (2, .int w), (3, .int x)] [] σ τ o
  refine g_aload_n C dX0_noteCheapestAt_0 rfl rfl ?_
  refine g_getX C 16 dX0_noteCheapestAt_1 mwX0_noteCheapestAt_inX (by decide) mwX0_noteCheapestAt_f60 rfl rfl ?_
  refine g_iload_n C dX0_noteCheapestAt_4 rfl rfl ?_
  refine g_iload_n C dX0_noteCheapestAt_5 rfl rfl ?_
  refine g_iastN C (p) dX0_noteCheapestAt_6 rfl rfl hp (by decide) rfl ?_
  refine g_aload_n C dX0_noteCheapestAt_7 rfl rfl ?_
  refine g_getX C 17 dX0_noteCheapestAt_8 mwX0_noteCheapestAt_inX (by decide) mwX0_noteCheapestAt_f63 rfl rfl ?_
  refine g_iload_n C dX0_noteCheapestAt_11 rfl rfl ?_
  refine g_iload_n C dX0_noteCheapestAt_12 rfl rfl ?_
  refine g_zastN C (p) dX0_noteCheapestAt_13 rfl rfl hp (by decide) hx rfl ?_
  exact g_vret C F dX0_noteCheapestAt_14 (by decide) (by decide) ⟨rfl, rfl, rfl, rfl⟩
end
section
/-! the cheapest wording of the class -/
theorem fw_cong {A A' J J' : Nat → Int32} {nl : Nat} (hA : ∀ q, q < nl → A q = A' q) (hJ : ∀ q, q < nl → J q = J' q) : ∀ m, m ≤ nl → fw A J nl m = fw A' J' nl m := by
  intro m
  induction m with
  | zero => exact fun _ => rfl
  | succ m ih =>
    intro hm
    have e := ih (by omega)
    unfold fw
    rw [e, hA (nl - (m + 1)) (by omega), hJ (nl - (m + 1)) (by omega)]
def FX (σ : gS) (τ : gT) (nw nl m : Nat) : Int32 := (fw (LAx σ τ nw nl) (LJx σ τ nw nl) nl m).1
/-- which places are the second of a pair; what stands at a place, whether it is joined -/
def isSec (pr : Nat → Bool) : Nat → Bool
  | 0 => false
  | q + 1 => !isSec pr q && pr q
def cwd (pr : Nat → Bool) (S A B : Nat → Int32) (q : Nat) : Int32 := if isSec pr q = true then B (q - 1) else if pr q = true then A q else S q
def cjd (pr : Nat → Bool) (q : Nat) : Int32 := if isSec pr (q + 1) = true then 1 else 0
theorem cw_S {pr : Nat → Bool} {S A B : Nat → Int32} {p : Nat} (h1 : isSec pr p = false) (h2 : pr p = false) : cwd pr S A B p = S p ∧ cjd pr p = 0 ∧ isSec pr (p + 1) = false := by simp [cwd, cjd, isSec, h1, h2]
theorem cw_P {pr : Nat → Bool} {S A B : Nat → Int32} {p : Nat} (h1 : isSec pr p = false) (h2 : pr p = true) : cwd pr S A B p = A p ∧ cjd pr p = 1 ∧ cwd pr S A B (p + 1) = B p ∧ cjd pr (p + 1) = 0 ∧ isSec pr (p + 2) = false := by simp [cwd, cjd, isSec, h1, h2]
def bpx (σ : gS) (τ : gT) (nw nl p : Nat) : Int32 := (bp (σ 4) nw nl (τ 0) (τ 1) (τ 2) (τ 7) p nw).1
def Sx (σ : gS) (τ : gT) (nw nl p : Nat) : Int32 := (bw (σ 4) nl (τ 0) (τ 1) (τ 7) p nw).1
def Ax (σ : gS) (τ : gT) (nw nl p : Nat) : Int32 := bpx σ τ nw nl p / 100
def Bx (σ : gS) (τ : gT) (nw nl p : Nat) : Int32 := bpx σ τ nw nl p - bpx σ τ nw nl p / 100 * 100
def prx (σ : gS) (τ : gT) (nw nl p : Nat) : Bool := decide (¬ (bpx σ τ nw nl p = -1 ∨ LAx σ τ nw nl p + FX σ τ nw nl (nl - (p + 1)) = FX σ τ nw nl (nl - p)))
theorem bpx_s {σ : gS} {τ τ' : gT} {nw nl p : Nat} (h : XS τ τ') : bpx σ τ' nw nl p = bpx σ τ nw nl p := by
  unfold bpx
  rw [h 0 (by decide), h 1 (by decide), h 2 (by decide), h 7 (by decide)]
theorem Sx_s {σ : gS} {τ τ' : gT} {nw nl p : Nat} (h : XS τ τ') : Sx σ τ' nw nl p = Sx σ τ nw nl p := by
  unfold Sx
  rw [h 0 (by decide), h 1 (by decide), h 7 (by decide)]
def CH (σ : gS) (τ : gT) (nw nl p : Nat) (τ' : gT) : Prop := (∀ c, (c < 12 ∨ c = 14 ∨ 17 < c) → τ' c = τ c) ∧ (∀ q, q < nl → τ' 12 q = LAx σ τ nw nl q ∧ τ' 13 q = LJx σ τ nw nl q) ∧ (∀ q, q ≤ nl → τ' 15 q = FX σ τ nw nl (nl - q)) ∧ (∀ i, τ' 17 i = 0 ∨ τ' 17 i = 1) ∧
  ∀ q, q < p → τ' 16 q = cwd (prx σ τ nw nl) (Sx σ τ nw nl) (Ax σ τ nw nl) (Bx σ τ nw nl) q ∧ τ' 17 q = cjd (prx σ τ nw nl) q
theorem CH_xs {σ : gS} {τ τ' : gT} {nw nl p : Nat} (h : CH σ τ nw nl p τ') : XS τ τ' := fun c hc => h.1 c (by omega)
theorem CH_put {σ : gS} {τ τ' : gT} {nw nl p : Nat} {w x : Int32} (h : CH σ τ nw nl p τ') (hw : w = cwd (prx σ τ nw nl) (Sx σ τ nw nl) (Ax σ τ nw nl) (Bx σ τ nw nl) p) (hx : x = cjd (prx σ τ nw nl) p) : CH σ τ nw nl (p + 1) (uT (uT τ' 16 p w) 17 p x) := by
  obtain ⟨h1, h2, h3, h4, h5⟩ := h
  refine ⟨fun c hc => by rw [uT_ne (by omega), uT_ne (by omega), h1 c hc], fun q hq => by rw [uT_ne (by omega), uT_ne (by omega), uT_ne (by omega), uT_ne (by omega)]; exact h2 q hq, fun q hq => by rw [uT_ne (by omega), uT_ne (by omega)]; exact h3 q hq, fun i => ?_, fun q hq => ?_⟩
  · rw [uT_eq, uT_ne (show (17 : Nat) ≠ 16 by decide)]
    by_cases e : i = p
    · subst e
      rw [upd_eq, hx]
      unfold cjd
      split
      · exact Or.inr rfl
      · exact Or.inl rfl
    · rw [upd_ne e]
      exact h4 i
  · rw [uT_ne (show (16 : Nat) ≠ 17 by decide), uT_eq, uT_eq, uT_ne (show (17 : Nat) ≠ 16 by decide)]
    by_cases e : q = p
    · subst e
      rw [upd_eq, upd_eq]
      exact ⟨hw, hx⟩
    · rw [upd_ne e, upd_ne e]
      exact h5 q (by omega)
set_option maxRecDepth 100000 in
theorem mwX0_noteCheapestWording_inX : ∀ w ∈ wsX00, w ∈ wsX0_noteCheapestWording := by decide +kernel
set_option maxRecDepth 100000 in
theorem mwX0_noteCheapestWording_f39 : Cond.fieldLink RX0 39 "TelegraphPrices" "length" "I" ∈ wsX0_noteCheapestWording := by decide +kernel
set_option maxRecDepth 100000 in
theorem mwX0_noteCheapestWording_f48 : Cond.fieldLink RX0 48 "TelegraphPrices" "leastAlone" "[I" ∈ wsX0_noteCheapestWording := by decide +kernel
set_option maxRecDepth 100000 in
theorem mwX0_noteCheapestWording_f57 : Cond.fieldLink RX0 57 "TelegraphPrices" "leastFrom" "[I" ∈ wsX0_noteCheapestWording := by decide +kernel
set_option maxRecDepth 100000 in
theorem mwX0_noteCheapestWording_f51 : Cond.fieldLink RX0 51 "TelegraphPrices" "leastJoined" "[I" ∈ wsX0_noteCheapestWording := by decide +kernel
set_option maxHeartbeats 4000000 in
set_option maxRecDepth 100000 in
theorem c_noteWording {l : Launch} (hl : l.stackTraces = false) (Γ : gG) (σ : gS) (τ : gT) (o : gO) (nw nl lm : Nat) (I : IX σ τ nw nl lm) : Ct l yX0_noteCheapestWording wsX0_noteCheapestWording 5 160 0 0 [.ref (Γ.2.1 100)] Γ σ τ o (pV (fun σ' τ' o' => σ' = σ ∧ o' = o ∧ CH σ τ nw nl nl τ')) (noX) := by
  refine ct_of hl (by decide +kernel) rfl (Nat.le_of_ble_eq_true rfl) ?_
  intro E C F T hΓ hL R
  subst hΓ
  subst hL
  show G E 0 0 0 [(0, .ref ((eG E).2.1 100))] [] σ τ o
  have hnw := Iv_nw I
  have hnl := Iv_nl I
  have h3 : σ 3 = nI nw := Iv_h3 I
  have h9 : σ 9 = nI nl := Iv_h9 I
  have h4 : ¬ σ 4 = 0 := Iv_ne I
  have fin : ∀ τ' : gT, CH σ τ nw nl nl τ' → G E (0 + 0 + 0) (0 + 0 + 0) 15 [(1, .int (nI nl)), (0, .ref ((eG E).2.1 100))] [] σ τ' o := by
    intro τ' hN
    refine g_iload_n C dX0_noteCheapestWording_15 rfl rfl ?_
    refine g_aload_n C dX0_noteCheapestWording_16 rfl rfl ?_
    refine g_getX C 9 dX0_noteCheapestWording_17 mwX0_noteCheapestWording_inX (by decide) mwX0_noteCheapestWording_f39 rfl rfl ?_
    refine g_icmp_ge (tgt := 103) C dX0_noteCheapestWording_20 (by decide) (fun c_20 => ?_) (fun c_20 => ?_)
    · exact g_vret C F dX0_noteCheapestWording_103 (by decide) (by decide) ⟨rfl, rfl, rfl, hN⟩
    · exact absurd (by rw [h9]; exact i_rf _) c_20
  have loop : ∀ m p : Nat, ∀ τ' : gT, p ≤ nl → nl - p ≤ m → isSec (prx σ τ nw nl) p = false → CH σ τ nw nl p τ' → G E (0 + 0 + 0) (0 + 0 + 0) 15 [(1, .int (nI p)), (0, .ref ((eG E).2.1 100))] [] σ τ' o := by
    intro m
    induction m with
    | zero =>
      intro p τ' hp hm hs hN
      have e : p = nl := by omega
      subst e
      exact fin τ' hN
    | succ m ih =>
      intro p τ' hp hm hs hN
      rcases Nat.lt_or_ge p nl with hpl | hpl
      rotate_left
      · have e : p = nl := by omega
        subst e
        exact fin τ' hN
      have I1 : IX σ τ' nw nl lm := IX_cong I (CH_xs hN) hN.2.2.2.1
      refine g_iload_n C dX0_noteCheapestWording_15 rfl rfl ?_
      refine g_aload_n C dX0_noteCheapestWording_16 rfl rfl ?_
      refine g_getX C 9 dX0_noteCheapestWording_17 mwX0_noteCheapestWording_inX (by decide) mwX0_noteCheapestWording_f39 rfl rfl ?_
      refine g_icmp_ge (tgt := 103) C dX0_noteCheapestWording_20 (by decide) (fun c_20 => ?_) (fun c_20 => ?_)
      · exact absurd (by rw [h9] at c_20; exact c_20) (nI_ge (by omega) (by omega))
      · refine g_aload_n C dX0_noteCheapestWording_23 rfl rfl ?_
        refine g_iload_n C dX0_noteCheapestWording_24 rfl rfl ?_
        refine g_callVEi (Cl := RX0) (T := TX0) (N := 18) (ci := 0) (q0 := 0) (na := 1) C dX0_noteCheapestWording_25 (c_bestPairAt hl (eG E) σ τ' o nw nl lm p I1 hpl) gX0_noteCheapestWording_X0_bestPairAt rfl rfl (by decide +kernel) rfl rfl rfl (Nat.le_of_ble_eq_true rfl) (by rw [R]; exact ⟨by decide, by decide⟩) (by rw [R]; exact ⟨by decide, by decide⟩) ?_
        refine g_topi (show _ = bpx σ τ nw nl p from bpx_s (CH_xs hN)) ?_
        refine g_istore_n C [(2, _), (1, _), (0, _)] dX0_noteCheapestWording_28 rfl (by decide) rfl ?_
        refine g_iload_n C dX0_noteCheapestWording_29 rfl rfl ?_
        refine g_iconst (v := (-1)) C dX0_noteCheapestWording_30 (by decide) ?_
        refine g_icmp_eq (tgt := 58) C dX0_noteCheapestWording_31 (by decide) (fun c_31 => ?_) (fun c_31 => ?_)
        · have hpr : prx σ τ nw nl p = false := decide_eq_false (fun z => z (Or.inl c_31))
          refine g_aload_n C dX0_noteCheapestWording_58 rfl rfl ?_
          refine g_iload_n C dX0_noteCheapestWording_59 rfl rfl ?_
          refine g_aload_n C dX0_noteCheapestWording_60 rfl rfl ?_
          refine g_iload_n C dX0_noteCheapestWording_61 rfl rfl ?_
          refine g_callVEi (Cl := RX0) (T := TX0) (N := 18) (ci := 0) (q0 := 0) (na := 1) C dX0_noteCheapestWording_62 (c_bestWordAt hl (eG E) σ τ' o nw nl lm p I1 hpl) gX0_noteCheapestWording_X0_bestWordAt rfl rfl (by decide +kernel) rfl rfl rfl (Nat.le_of_ble_eq_true rfl) (by rw [R]; exact ⟨by decide, by decide⟩) (by rw [R]; exact ⟨by decide, by decide⟩) ?_
          refine g_topi (show _ = Sx σ τ nw nl p from Sx_s (CH_xs hN)) ?_
          refine g_iconst (v := 0) C dX0_noteCheapestWording_65 (by decide) ?_
          refine g_callVEv (Cl := RX0) (T := TX0) (N := 18) (ci := 0) (q0 := 0) (na := 3) C dX0_noteCheapestWording_66 (c_noteAt hl (eG E) σ τ' o p (Sx σ τ nw nl p) 0 (by omega) (Or.inl rfl)) gX0_noteCheapestWording_X0_noteCheapestAt rfl rfl (by decide +kernel) rfl rfl rfl (Nat.le_of_ble_eq_true rfl) (by rw [R]; exact ⟨by decide, by decide⟩) (by rw [R]; exact ⟨by decide, by decide⟩) ?_
          refine g_iinc C 1 [(1, _), (2, _), (0, _)] dX0_noteCheapestWording_69 rfl (nI_i1 p) (by decide) rfl ?_
          refine g_goto (tgt := 100) C dX0_noteCheapestWording_72 (by decide) ?_
          refine g_goto (tgt := 15) C dX0_noteCheapestWording_100 (by decide) ?_
          refine g_lv [0, 2] [(1, _), (0, _)] rfl ?_
          obtain ⟨g1, g2, g3⟩ := cw_S (S := Sx σ τ nw nl) (A := Ax σ τ nw nl) (B := Bx σ τ nw nl) hs hpr
          exact ih (p + 1) _ (by omega) (by omega) g3 (CH_put hN g1.symm g2.symm)
        · refine g_aload_n C dX0_noteCheapestWording_34 rfl rfl ?_
          refine g_getX C 12 dX0_noteCheapestWording_35 mwX0_noteCheapestWording_inX (by decide) mwX0_noteCheapestWording_f48 rfl rfl ?_
          refine g_iload_n C dX0_noteCheapestWording_38 rfl rfl ?_
          refine g_ialdN C (p) dX0_noteCheapestWording_39 rfl rfl (show p < 16 by omega) (by decide) ?_
          refine g_aload_n C dX0_noteCheapestWording_40 rfl rfl ?_
          refine g_getX C 15 dX0_noteCheapestWording_41 mwX0_noteCheapestWording_inX (by decide) mwX0_noteCheapestWording_f57 rfl rfl ?_
          refine g_iload_n C dX0_noteCheapestWording_44 rfl rfl ?_
          refine g_iconst (v := 1) C dX0_noteCheapestWording_45 (by decide) ?_
          refine g_iadd C dX0_noteCheapestWording_46 ?_
          refine g_ialdN C (p + 1) dX0_noteCheapestWording_47 rfl (nI_1 p) (show p + 1 < 18 by omega) (by decide) ?_
          refine g_iadd C dX0_noteCheapestWording_48 ?_
          refine g_aload_n C dX0_noteCheapestWording_49 rfl rfl ?_
          refine g_getX C 15 dX0_noteCheapestWording_50 mwX0_noteCheapestWording_inX (by decide) mwX0_noteCheapestWording_f57 rfl rfl ?_
          refine g_iload_n C dX0_noteCheapestWording_53 rfl rfl ?_
          refine g_ialdN C (p) dX0_noteCheapestWording_54 rfl rfl (show p < 18 by omega) (by decide) ?_
          rw [(hN.2.1 p hpl).1, hN.2.2.1 (p + 1) (by omega), hN.2.2.1 p hp]
          refine g_icmp_ne (tgt := 75) C dX0_noteCheapestWording_55 (by decide) (fun c_55 => ?_) (fun c_55 => ?_)
          · have hpr : prx σ τ nw nl p = true := decide_eq_true (fun z => z.elim c_31 c_55)
            obtain ⟨g1, g2, g3, g4, g5⟩ := cw_P (S := Sx σ τ nw nl) (A := Ax σ τ nw nl) (B := Bx σ τ nw nl) hs hpr
            have hp1 : p + 1 < nl := by
              rcases bp_fin (p := p) (J := τ 2) I with ⟨-, e⟩ | ⟨a, b, -, -, hq, -⟩
              · exact absurd (by unfold bpx; rw [e]) c_31
              · have z := hq.2.1
                unfold mh at z
                by_cases y : p + 1 < nl
                · exact y
                · rw [if_neg y] at z; exact absurd rfl z
            refine g_aload_n C dX0_noteCheapestWording_75 rfl rfl ?_
            refine g_iload_n C dX0_noteCheapestWording_76 rfl rfl ?_
            refine g_iload_n C dX0_noteCheapestWording_77 rfl rfl ?_
            refine g_bipush (v := 100) C dX0_noteCheapestWording_78 (by decide) ?_
            refine g_idiv C dX0_noteCheapestWording_80 (by decide) ?_
            refine g_iconst (v := 1) C dX0_noteCheapestWording_81 (by decide) ?_
            refine g_callVEv (Cl := RX0) (T := TX0) (N := 18) (ci := 0) (q0 := 0) (na := 3) C dX0_noteCheapestWording_82 (c_noteAt hl (eG E) σ τ' o p (Ax σ τ nw nl p) 1 (by omega) (Or.inr rfl)) gX0_noteCheapestWording_X0_noteCheapestAt rfl rfl (by decide +kernel) rfl rfl rfl (Nat.le_of_ble_eq_true rfl) (by rw [R]; exact ⟨by decide, by decide⟩) (by rw [R]; exact ⟨by decide, by decide⟩) ?_
            refine g_aload_n C dX0_noteCheapestWording_85 rfl rfl ?_
            refine g_iload_n C dX0_noteCheapestWording_86 rfl rfl ?_
            refine g_iconst (v := 1) C dX0_noteCheapestWording_87 (by decide) ?_
            refine g_iadd C dX0_noteCheapestWording_88 ?_
            refine g_topi (nI_1 p) ?_
            refine g_iload_n C dX0_noteCheapestWording_89 rfl rfl ?_
            refine g_bipush (v := 100) C dX0_noteCheapestWording_90 (by decide) ?_
            refine g_irem C dX0_noteCheapestWording_92 (by decide) ?_
            refine g_iconst (v := 0) C dX0_noteCheapestWording_93 (by decide) ?_
            refine g_callVEv (Cl := RX0) (T := TX0) (N := 18) (ci := 0) (q0 := 0) (na := 3) C dX0_noteCheapestWording_94 (c_noteAt hl (eG E) σ (uT (uT τ' 16 p (Ax σ τ nw nl p)) 17 p 1) o (p + 1) (Bx σ τ nw nl p) 0 (by omega) (Or.inl rfl)) gX0_noteCheapestWording_X0_noteCheapestAt rfl rfl (by decide +kernel) rfl rfl rfl (Nat.le_of_ble_eq_true rfl) (by rw [R]; exact ⟨by decide, by decide⟩) (by rw [R]; exact ⟨by decide, by decide⟩) ?_
            refine g_iinc C 1 [(1, _), (2, _), (0, _)] dX0_noteCheapestWording_97 rfl (nI_i2 p) (by decide) rfl ?_
            refine g_goto (tgt := 15) C dX0_noteCheapestWording_100 (by decide) ?_
            refine g_lv [0, 2] [(1, _), (0, _)] rfl ?_
            exact ih (p + 2) _ (by omega) (by omega) g5 (CH_put (CH_put hN g1.symm g2.symm) g3.symm g4.symm)
          · have hpr : prx σ τ nw nl p = false := decide_eq_false (fun z => z (Or.inr c_55))
            refine g_aload_n C dX0_noteCheapestWording_58 rfl rfl ?_
            refine g_iload_n C dX0_noteCheapestWording_59 rfl rfl ?_
            refine g_aload_n C dX0_noteCheapestWording_60 rfl rfl ?_
            refine g_iload_n C dX0_noteCheapestWording_61 rfl rfl ?_
            refine g_callVEi (Cl := RX0) (T := TX0) (N := 18) (ci := 0) (q0 := 0) (na := 1) C dX0_noteCheapestWording_62 (c_bestWordAt hl (eG E) σ τ' o nw nl lm p I1 hpl) gX0_noteCheapestWording_X0_bestWordAt rfl rfl (by decide +kernel) rfl rfl rfl (Nat.le_of_ble_eq_true rfl) (by rw [R]; exact ⟨by decide, by decide⟩) (by rw [R]; exact ⟨by decide, by decide⟩) ?_
            refine g_topi (show _ = Sx σ τ nw nl p from Sx_s (CH_xs hN)) ?_
            refine g_iconst (v := 0) C dX0_noteCheapestWording_65 (by decide) ?_
            refine g_callVEv (Cl := RX0) (T := TX0) (N := 18) (ci := 0) (q0 := 0) (na := 3) C dX0_noteCheapestWording_66 (c_noteAt hl (eG E) σ τ' o p (Sx σ τ nw nl p) 0 (by omega) (Or.inl rfl)) gX0_noteCheapestWording_X0_noteCheapestAt rfl rfl (by decide +kernel) rfl rfl rfl (Nat.le_of_ble_eq_true rfl) (by rw [R]; exact ⟨by decide, by decide⟩) (by rw [R]; exact ⟨by decide, by decide⟩) ?_
            refine g_iinc C 1 [(1, _), (2, _), (0, _)] dX0_noteCheapestWording_69 rfl (nI_i1 p) (by decide) rfl ?_
            refine g_goto (tgt := 100) C dX0_noteCheapestWording_72 (by decide) ?_
            refine g_goto (tgt := 15) C dX0_noteCheapestWording_100 (by decide) ?_
            refine g_lv [0, 2] [(1, _), (0, _)] rfl ?_
            obtain ⟨g1, g2, g3⟩ := cw_S (S := Sx σ τ nw nl) (A := Ax σ τ nw nl) (B := Bx σ τ nw nl) hs hpr
            exact ih (p + 1) _ (by omega) (by omega) g3 (CH_put hN g1.symm g2.symm)
  refine g_aload_n C dX0_noteCheapestWording_0 rfl rfl ?_
  refine g_callVv (Cl := RX0) (T := TX0) (N := 18) (ci := 0) (q0 := 0) (na := 0) C dX0_noteCheapestWording_1 (c_noteLeast hl (eG E) σ τ o nw nl lm I) gX0_noteCheapestWording_X0_noteLeastCounts rfl rfl (by decide +kernel) rfl rfl rfl (Nat.le_of_ble_eq_true rfl) (by rw [R]; exact ⟨by decide, by decide⟩) (by rw [R]; exact ⟨by decide, by decide⟩) noX_kx (fun σ1 τ1 o1 hN1 => ?_)
  obtain ⟨e1, e2, hN⟩ := hN1
  rw [e1, e2]
  refine g_aload_n C dX0_noteCheapestWording_4 rfl rfl ?_
  refine g_aload_n C dX0_noteCheapestWording_5 rfl rfl ?_
  refine g_getX C 13 dX0_noteCheapestWording_6 mwX0_noteCheapestWording_inX (by decide) mwX0_noteCheapestWording_f51 rfl rfl ?_
  refine g_callVi (Cl := RX0) (T := TX0) (N := 18) (ci := 0) (q0 := 0) (na := 1) C dX0_noteCheapestWording_9 (c_leastInJ hl (eG E) σ τ1 o nl h9 hnl) gX0_noteCheapestWording_X0_leastInAll rfl rfl (by decide +kernel) rfl rfl rfl (Nat.le_of_ble_eq_true rfl) (by rw [R]; exact ⟨by decide, by decide⟩) (by rw [R]; exact ⟨by decide, by decide⟩) noX_kx (fun r2 σ2 τ2 o2 hN2 => ?_)
  obtain ⟨-, e3, e4, e5, e6⟩ := hN2
  rw [e3, e4]
  refine g_pop C dX0_noteCheapestWording_12 rfl ?_
  refine g_iconst (v := 0) C dX0_noteCheapestWording_13 (by decide) ?_
  refine g_istore_n C [(1, _), (0, _)] dX0_noteCheapestWording_14 rfl (by decide) rfl ?_
  refine loop nl 0 τ2 (Nat.zero_le _) (by omega) rfl ⟨fun c hc => by rw [e5 c (by omega), hN.1 c (by omega) (by omega)], fun q hq => by rw [e5 12 (by decide), e5 13 (by decide)]; exact hN.2 q hq, fun q hq => ?_, fun i => by rw [e5 17 (by decide), hN.1 17 (by decide) (by decide)]; exact Iv_cj I i, fun q hq => absurd hq (Nat.not_lt_zero q)⟩
  rw [e6 q hq, fw_cong (fun q hq => (hN.2 q hq).1) (fun q hq => (hN.2 q hq).2) (nl - q) (by omega)]
  rfl
set_option maxRecDepth 100000 in
theorem mwX0_cheapestCount_inX : ∀ w ∈ wsX00, w ∈ wsX0_cheapestCount := by decide +kernel
set_option maxRecDepth 100000 in
theorem mwX0_cheapestCount_f51 : Cond.fieldLink RX0 51 "TelegraphPrices" "leastJoined" "[I" ∈ wsX0_cheapestCount := by decide +kernel
set_option maxHeartbeats 4000000 in
set_option maxRecDepth 100000 in
theorem c_cheapestCount {l : Launch} (hl : l.stackTraces = false) (Γ : gG) (σ : gS) (τ : gT) (o : gO) (nw nl lm : Nat) (I : IX σ τ nw nl lm) : Ct l yX0_cheapestCount wsX0_cheapestCount 5 160 0 0 [.ref (Γ.2.1 100)] Γ σ τ o (pI (fun r σ' τ' o' => r = al nl (σ 5) (FX σ τ nw nl nl) ∧ σ' = σ ∧ o' = o ∧ (∀ c, c ≠ 12 → c ≠ 13 → c ≠ 15 → τ' c = τ c) ∧ ∀ q, q < nl → τ' 12 q = LAx σ τ nw nl q ∧ τ' 13 q = LJx σ τ nw nl q)) (noX) := by
  refine ct_of hl (by decide +kernel) rfl (Nat.le_of_ble_eq_true rfl) ?_
  intro E C F T hΓ hL R
  subst hΓ
  subst hL
  show G E 0 0 0 [(0, .ref ((eG E).2.1 100))] [] σ τ o
  have hnw := Iv_nw I
  have hnl := Iv_nl I
  have h3 : σ 3 = nI nw := Iv_h3 I
  have h9 : σ 9 = nI nl := Iv_h9 I
  have h4 : ¬ σ 4 = 0 := Iv_ne I
  refine g_aload_n C dX0_cheapestCount_0 rfl rfl ?_
  refine g_callVv (Cl := RX0) (T := TX0) (N := 18) (ci := 0) (q0 := 0) (na := 0) C dX0_cheapestCount_1 (c_noteLeast hl (eG E) σ τ o nw nl lm I) gX0_cheapestCount_X0_noteLeastCounts rfl rfl (by decide +kernel) rfl rfl rfl (Nat.le_of_ble_eq_true rfl) (by rw [R]; exact ⟨by decide, by decide⟩) (by rw [R]; exact ⟨by decide, by decide⟩) noX_kx (fun σ1 τ1 o1 hN1 => ?_)
  obtain ⟨e1, e2, hN⟩ := hN1
  rw [e1, e2]
  refine g_aload_n C dX0_cheapestCount_4 rfl rfl ?_
  refine g_aload_n C dX0_cheapestCount_5 rfl rfl ?_
  refine g_aload_n C dX0_cheapestCount_6 rfl rfl ?_
  refine g_getX C 13 dX0_cheapestCount_7 mwX0_cheapestCount_inX (by decide) mwX0_cheapestCount_f51 rfl rfl ?_
  refine g_callVi (Cl := RX0) (T := TX0) (N := 18) (ci := 0) (q0 := 0) (na := 1) C dX0_cheapestCount_10 (c_leastInJ hl (eG E) σ τ1 o nl h9 hnl) gX0_cheapestCount_X0_leastInAll rfl rfl (by decide +kernel) rfl rfl rfl (Nat.le_of_ble_eq_true rfl) (by rw [R]; exact ⟨by decide, by decide⟩) (by rw [R]; exact ⟨by decide, by decide⟩) noX_kx (fun r2 σ2 τ2 o2 hN2 => ?_)
  obtain ⟨e7, e3, e4, e5, e6⟩ := hN2
  rw [e3, e4]
  refine g_topi (y := FX σ τ nw nl nl) (by rw [e7, fw_cong (fun q hq => (hN.2 q hq).1) (fun q hq => (hN.2 q hq).2) (nl - 0) (by omega)]; rfl) ?_
  refine g_callVEi (Cl := RX0) (T := TX0) (N := 18) (ci := 0) (q0 := 0) (na := 1) C dX0_cheapestCount_13 (c_alc hl (eG E) σ τ2 o nl _ h9 hnl) gX0_cheapestCount_X0_atLeastTheLeastCount rfl rfl (by decide +kernel) rfl rfl rfl (Nat.le_of_ble_eq_true rfl) (by rw [R]; exact ⟨by decide, by decide⟩) (by rw [R]; exact ⟨by decide, by decide⟩) ?_
  exact g_iret C F dX0_cheapestCount_16 (by decide) (by decide) ⟨_, rfl, rfl, rfl, rfl, fun c h1 h2 h3 => by rw [e5 c h3, hN.1 c h1 h2], fun q hq => by rw [e5 12 (by decide), e5 13 (by decide)]; exact hN.2 q hq⟩
/-- the row with a join more: does the pair fit at the place -/
def ft (nl : Nat) (S Tg : Nat → Int32) (a b p : Nat) : Prop := mh nl S Tg p (nI a) ≠ 0 ∧ mh nl S Tg (p + 1) (nI b) ≠ 0
def mn (x y : Int32) : Int32 := if x < y then x else y
noncomputable def LTx (σ : gS) (τ : gT) (nw nl a b p : Nat) : Int32 := haveI := Classical.propDecidable; if ft nl (τ 1) (τ 7) a b p then mn (cn (σ 4) (τ 0 a + τ 0 b)) (LJx σ τ nw nl p) else LJx σ τ nw nl p
theorem LTx_y {σ : gS} {τ : gT} {nw nl a b p : Nat} (h : ft nl (τ 1) (τ 7) a b p) : LTx σ τ nw nl a b p = (if cn (σ 4) (τ 0 a + τ 0 b) < LJx σ τ nw nl p then cn (σ 4) (τ 0 a + τ 0 b) else LJx σ τ nw nl p) := by
  unfold LTx
  rw [if_pos h]
  rfl
theorem LTx_n {σ : gS} {τ : gT} {nw nl a b p : Nat} (h : ¬ ft nl (τ 1) (τ 7) a b p) : LTx σ τ nw nl a b p = LJx σ τ nw nl p := by
  unfold LTx
  rw [if_neg h]
noncomputable def FT (σ : gS) (τ : gT) (nw nl a b : Nat) : Int32 := (fw (LAx σ τ nw nl) (LTx σ τ nw nl a b) nl nl).1
/-- the search's rows 12, 13 are noted; 14 up to p -/
def TR (σ : gS) (τ : gT) (nw nl a b p : Nat) (τ' : gT) : Prop := (∀ c, c ≠ 12 → c ≠ 13 → c ≠ 14 → c ≠ 15 → τ' c = τ c) ∧ (∀ q, q < nl → τ' 12 q = LAx σ τ nw nl q ∧ τ' 13 q = LJx σ τ nw nl q) ∧ ∀ q, q < p → τ' 14 q = LTx σ τ nw nl a b q
theorem TR_put {σ : gS} {τ τ' : gT} {nw nl a b p : Nat} {x : Int32} (h : TR σ τ nw nl a b p τ') (hx : x = LTx σ τ nw nl a b p) : TR σ τ nw nl a b (p + 1) (uT τ' 14 p x) := by
  obtain ⟨h1, h2, h3⟩ := h
  refine ⟨fun c c1 c2 c3 c4 => by rw [uT_ne c3, h1 c c1 c2 c3 c4], fun q hq => by rw [uT_ne (by decide), uT_ne (by decide)]; exact h2 q hq, fun q hq => ?_⟩
  rw [uT_eq]
  by_cases e : q = p
  · subst e
    rw [upd_eq, hx]
  · rw [upd_ne e]
    exact h3 q (by omega)
theorem TR_xs {σ : gS} {τ τ' : gT} {nw nl a b p : Nat} (h : TR σ τ nw nl a b p τ') : XS τ τ' := fun c hc => h.1 c (by omega) (by omega) (by omega) (by omega)
set_option maxRecDepth 100000 in
theorem mwX0_cheapestCountWithJoin_inX : ∀ w ∈ wsX00, w ∈ wsX0_cheapestCountWithJoin := by decide +kernel
set_option maxRecDepth 100000 in
theorem mwX0_cheapestCountWithJoin_f39 : Cond.fieldLink RX0 39 "TelegraphPrices" "length" "I" ∈ wsX0_cheapestCountWithJoin := by decide +kernel
set_option maxRecDepth 100000 in
theorem mwX0_cheapestCountWithJoin_f54 : Cond.fieldLink RX0 54 "TelegraphPrices" "leastTried" "[I" ∈ wsX0_cheapestCountWithJoin := by decide +kernel
set_option maxRecDepth 100000 in
theorem mwX0_cheapestCountWithJoin_f51 : Cond.fieldLink RX0 51 "TelegraphPrices" "leastJoined" "[I" ∈ wsX0_cheapestCountWithJoin := by decide +kernel
set_option maxRecDepth 100000 in
theorem mwX0_cheapestCountWithJoin_l152 : Cond.methodLink RX0 152 Lib.Math.min.name ∈ wsX0_cheapestCountWithJoin := by decide +kernel
set_option maxRecDepth 100000 in
theorem mwX0_cheapestCountWithJoin_smin : Cond.static Lib.Math.min.name ∈ wsX0_cheapestCountWithJoin := by decide +kernel
set_option maxRecDepth 100000 in
theorem mwX0_cheapestCountWithJoin_iMath : Cond.initialized "java/lang/Math" ∈ wsX0_cheapestCountWithJoin := by decide +kernel
set_option maxRecDepth 100000 in
theorem mwX0_cheapestCountWithJoin_kmin : Cond.code Lib.Math.min.name Lib.Math.min.code 2 (some .int) ∈ wsX0_cheapestCountWithJoin := by decide +kernel
set_option maxHeartbeats 4000000 in
set_option maxRecDepth 100000 in
theorem c_withJoin {l : Launch} (hl : l.stackTraces = false) (Γ : gG) (σ : gS) (τ : gT) (o : gO) (τ0 : gT) (nw nl lm a b : Nat) (I : IX σ τ nw nl lm) (ha : a < nw) (hb : b < nw) (h0 : (∀ c, c ≠ 12 → c ≠ 13 → c ≠ 14 → c ≠ 15 → τ0 c = τ c) ∧ ∀ q, q < nl → τ0 12 q = LAx σ τ nw nl q ∧ τ0 13 q = LJx σ τ nw nl q) : Ct l yX0_cheapestCountWithJoin wsX0_cheapestCountWithJoin 3 96 0 0 [.ref (Γ.2.1 100), .int (nI a), .int (nI b)] Γ σ τ0 o (pI (fun r σ' τ' o' => r = al nl (σ 5) (FT σ τ nw nl a b) ∧ σ' = σ ∧ o' = o ∧ (∀ c, c ≠ 12 → c ≠ 13 → c ≠ 14 → c ≠ 15 → τ' c = τ c) ∧ ∀ q, q < nl → τ' 12 q = LAx σ τ nw nl q ∧ τ' 13 q = LJx σ τ nw nl q)) (noX) := by
  refine ct_of hl (by decide +kernel) rfl (Nat.le_of_ble_eq_true rfl) ?_
  intro E C F T hΓ hL R
  subst hΓ
  subst hL
  show G E 0 0 0 [(0, .ref ((eG E).2.1 100)), (1, .int (nI a)), (2, .int (nI b))] [] σ τ0 o
  have hnw := Iv_nw I
  have hnl := Iv_nl I
  have h3 : σ 3 = nI nw := Iv_h3 I
  have h9 : σ 9 = nI nl := Iv_h9 I
  have h4 : ¬ σ 4 = 0 := Iv_ne I
  have loop : ∀ m p : Nat, ∀ τ' : gT, p + m = nl → TR σ τ nw nl a b p τ' → G E (0 + 0) (0 + 0) 10 [(4, .int (nI p)), (3, .int (cn (σ 4) (τ 0 a + τ 0 b))), (0, .ref ((eG E).2.1 100)), (1, .int (nI a)), (2, .int (nI b))] [] σ τ' o := by
    intro m
    induction m with
    | zero =>
      intro p τ' hp hN
      refine g_iload C dX0_cheapestCountWithJoin_10 rfl ?_
      refine g_aload_n C dX0_cheapestCountWithJoin_12 rfl rfl ?_
      refine g_getX C 9 dX0_cheapestCountWithJoin_13 mwX0_cheapestCountWithJoin_inX (by decide) mwX0_cheapestCountWithJoin_f39 rfl rfl ?_
      refine g_icmp_ge (tgt := 87) C dX0_cheapestCountWithJoin_16 (by decide) (fun c_16 => ?_) (fun c_16 => ?_)
      · refine g_aload_n C dX0_cheapestCountWithJoin_87 rfl rfl ?_
        refine g_aload_n C dX0_cheapestCountWithJoin_88 rfl rfl ?_
        refine g_aload_n C dX0_cheapestCountWithJoin_89 rfl rfl ?_
        refine g_getX C 14 dX0_cheapestCountWithJoin_90 mwX0_cheapestCountWithJoin_inX (by decide) mwX0_cheapestCountWithJoin_f54 rfl rfl ?_
        refine g_callVi (Cl := RX0) (T := TX0) (N := 18) (ci := 0) (q0 := 0) (na := 1) C dX0_cheapestCountWithJoin_93 (c_leastInT hl (eG E) σ τ' o nl h9 hnl) gX0_cheapestCountWithJoin_X0_leastInAll rfl rfl (by decide +kernel) rfl rfl rfl (Nat.le_of_ble_eq_true rfl) (by rw [R]; exact ⟨by decide, by decide⟩) (by rw [R]; exact ⟨by decide, by decide⟩) noX_kx (fun r2 σ2 τ2 o2 hN2 => ?_)
        obtain ⟨e7, e3, e4, e5, e6⟩ := hN2
        rw [e3, e4]
        refine g_topi (y := FT σ τ nw nl a b) (by rw [e7, fw_cong (fun q hq => (hN.2.1 q hq).1) (fun q hq => hN.2.2 q (by omega)) (nl - 0) (by omega)]; rfl) ?_
        refine g_callVEi (Cl := RX0) (T := TX0) (N := 18) (ci := 0) (q0 := 0) (na := 1) C dX0_cheapestCountWithJoin_96 (c_alc hl (eG E) σ τ2 o nl _ h9 hnl) gX0_cheapestCountWithJoin_X0_atLeastTheLeastCount rfl rfl (by decide +kernel) rfl rfl rfl (Nat.le_of_ble_eq_true rfl) (by rw [R]; exact ⟨by decide, by decide⟩) (by rw [R]; exact ⟨by decide, by decide⟩) ?_
        exact g_iret C F dX0_cheapestCountWithJoin_99 (by decide) (by decide) ⟨_, rfl, rfl, rfl, rfl, fun c h1 h2 h3 h4 => by rw [e5 c h4, hN.1 c h1 h2 h3 h4], fun q hq => by rw [e5 12 (by decide), e5 13 (by decide)]; exact hN.2.1 q hq⟩
      · exact absurd (by rw [h9]; exact nI_le (by omega) (by omega)) c_16
    | succ m ih =>
      intro p τ' hp hN
      have hpl : p < nl := by omega
      have hX := TR_xs hN
      have tin : ∀ q, q < nl → vp_in (τ' 7 q) 12 := fun q hq => by rw [hX 7 (by decide)]; exact Iv_tin I hq
      have eM : ∀ q w, mh nl (τ' 1) (τ' 7) q w = mh nl (τ 1) (τ 7) q w := fun q w => by rw [hX 1 (by decide), hX 7 (by decide)]
      refine g_iload C dX0_cheapestCountWithJoin_10 rfl ?_
      refine g_aload_n C dX0_cheapestCountWithJoin_12 rfl rfl ?_
      refine g_getX C 9 dX0_cheapestCountWithJoin_13 mwX0_cheapestCountWithJoin_inX (by decide) mwX0_cheapestCountWithJoin_f39 rfl rfl ?_
      refine g_icmp_ge (tgt := 87) C dX0_cheapestCountWithJoin_16 (by decide) (fun c_16 => ?_) (fun c_16 => ?_)
      · exact absurd (by rw [h9] at c_16; exact c_16) (nI_ge (by omega) (by omega))
      · refine g_aload_n C dX0_cheapestCountWithJoin_19 rfl rfl ?_
        refine g_iload C dX0_cheapestCountWithJoin_20 rfl ?_
        refine g_iload_n C dX0_cheapestCountWithJoin_22 rfl rfl ?_
        refine g_callVEi (Cl := RX0) (T := TX0) (N := 18) (ci := 0) (q0 := 0) (na := 2) C dX0_cheapestCountWithJoin_23 (c_mayHold hl (eG E) σ τ' o nl p _ h9 hnl (by omega) (fun h => tin p h)) gX0_cheapestCountWithJoin_X0_mayHold rfl rfl (by decide +kernel) rfl rfl rfl (Nat.le_of_ble_eq_true rfl) (by rw [R]; exact ⟨by decide, by decide⟩) (by rw [R]; exact ⟨by decide, by decide⟩) ?_
        refine g_if_eq (tgt := 45) C dX0_cheapestCountWithJoin_26 (by decide) (fun c_26 => ?_) (fun c_26 => ?_)
        · have hft : ¬ ft nl (τ 1) (τ 7) a b p := fun z => z.1 (by rw [← eM]; exact c_26)
          refine g_iconst (v := 0) C dX0_cheapestCountWithJoin_45 (by decide) ?_
          refine g_istore C [(5, _), (4, _), (3, _), (0, _), (1, _), (2, _)] dX0_cheapestCountWithJoin_46 (by decide) rfl ?_
          refine g_aload_n C dX0_cheapestCountWithJoin_48 rfl rfl ?_
          refine g_getX C 14 dX0_cheapestCountWithJoin_49 mwX0_cheapestCountWithJoin_inX (by decide) mwX0_cheapestCountWithJoin_f54 rfl rfl ?_
          refine g_iload C dX0_cheapestCountWithJoin_52 rfl ?_
          refine g_iload C dX0_cheapestCountWithJoin_54 rfl ?_
          refine g_if_eq (tgt := 73) C dX0_cheapestCountWithJoin_56 (by decide) (fun c_56 => ?_) (fun c_56 => ?_)
          · have eT : τ' 13 p = LTx σ τ nw nl a b p := by rw [LTx_n hft]; exact (hN.2.1 p hpl).2
            refine g_aload_n C dX0_cheapestCountWithJoin_73 rfl rfl ?_
            refine g_getX C 13 dX0_cheapestCountWithJoin_74 mwX0_cheapestCountWithJoin_inX (by decide) mwX0_cheapestCountWithJoin_f51 rfl rfl ?_
            refine g_iload C dX0_cheapestCountWithJoin_77 rfl ?_
            refine g_ialdN C (p) dX0_cheapestCountWithJoin_79 rfl rfl (show p < 16 by omega) (by decide) ?_
            refine g_iastN C (p) dX0_cheapestCountWithJoin_80 rfl rfl (show p < 16 by omega) (by decide) rfl ?_
            refine g_iinc C 1 [(4, _), (5, _), (3, _), (0, _), (1, _), (2, _)] dX0_cheapestCountWithJoin_81 rfl (nI_i1 p) (by decide) rfl ?_
            refine g_goto (tgt := 10) C dX0_cheapestCountWithJoin_84 (by decide) ?_
            refine g_lv [0, 2, 3, 4, 5] [(4, _), (3, _), (0, _), (1, _), (2, _)] rfl ?_
            exact ih (p + 1) _ (by omega) (TR_put hN eT)
          · exact absurd rfl c_56
        · refine g_aload_n C dX0_cheapestCountWithJoin_29 rfl rfl ?_
          refine g_iload C dX0_cheapestCountWithJoin_30 rfl ?_
          refine g_iconst (v := 1) C dX0_cheapestCountWithJoin_32 (by decide) ?_
          refine g_iadd C dX0_cheapestCountWithJoin_33 ?_
          refine g_topi (nI_1 p) ?_
          refine g_iload_n C dX0_cheapestCountWithJoin_34 rfl rfl ?_
          refine g_callVEi (Cl := RX0) (T := TX0) (N := 18) (ci := 0) (q0 := 0) (na := 2) C dX0_cheapestCountWithJoin_35 (c_mayHold hl (eG E) σ τ' o nl (p + 1) _ h9 hnl (by omega) (fun h => tin (p + 1) h)) gX0_cheapestCountWithJoin_X0_mayHold rfl rfl (by decide +kernel) rfl rfl rfl (Nat.le_of_ble_eq_true rfl) (by rw [R]; exact ⟨by decide, by decide⟩) (by rw [R]; exact ⟨by decide, by decide⟩) ?_
          refine g_if_eq (tgt := 45) C dX0_cheapestCountWithJoin_38 (by decide) (fun c_38 => ?_) (fun c_38 => ?_)
          · have hft : ¬ ft nl (τ 1) (τ 7) a b p := fun z => z.2 (by rw [← eM]; exact c_38)
            refine g_iconst (v := 0) C dX0_cheapestCountWithJoin_45 (by decide) ?_
            refine g_istore C [(5, _), (4, _), (3, _), (0, _), (1, _), (2, _)] dX0_cheapestCountWithJoin_46 (by decide) rfl ?_
            refine g_aload_n C dX0_cheapestCountWithJoin_48 rfl rfl ?_
            refine g_getX C 14 dX0_cheapestCountWithJoin_49 mwX0_cheapestCountWithJoin_inX (by decide) mwX0_cheapestCountWithJoin_f54 rfl rfl ?_
            refine g_iload C dX0_cheapestCountWithJoin_52 rfl ?_
            refine g_iload C dX0_cheapestCountWithJoin_54 rfl ?_
            refine g_if_eq (tgt := 73) C dX0_cheapestCountWithJoin_56 (by decide) (fun c_56 => ?_) (fun c_56 => ?_)
            · have eT : τ' 13 p = LTx σ τ nw nl a b p := by rw [LTx_n hft]; exact (hN.2.1 p hpl).2
              refine g_aload_n C dX0_cheapestCountWithJoin_73 rfl rfl ?_
              refine g_getX C 13 dX0_cheapestCountWithJoin_74 mwX0_cheapestCountWithJoin_inX (by decide) mwX0_cheapestCountWithJoin_f51 rfl rfl ?_
              refine g_iload C dX0_cheapestCountWithJoin_77 rfl ?_
              refine g_ialdN C (p) dX0_cheapestCountWithJoin_79 rfl rfl (show p < 16 by omega) (by decide) ?_
              refine g_iastN C (p) dX0_cheapestCountWithJoin_80 rfl rfl (show p < 16 by omega) (by decide) rfl ?_
              refine g_iinc C 1 [(4, _), (5, _), (3, _), (0, _), (1, _), (2, _)] dX0_cheapestCountWithJoin_81 rfl (nI_i1 p) (by decide) rfl ?_
              refine g_goto (tgt := 10) C dX0_cheapestCountWithJoin_84 (by decide) ?_
              refine g_lv [0, 2, 3, 4, 5] [(4, _), (3, _), (0, _), (1, _), (2, _)] rfl ?_
              exact ih (p + 1) _ (by omega) (TR_put hN eT)
            · exact absurd rfl c_56
          · have hft : ft nl (τ 1) (τ 7) a b p := ⟨by rw [← eM]; exact c_26, by rw [← eM]; exact c_38⟩
            refine g_iconst (v := 1) C dX0_cheapestCountWithJoin_41 (by decide) ?_
            refine g_goto (tgt := 46) C dX0_cheapestCountWithJoin_42 (by decide) ?_
            refine g_istore C [(5, _), (4, _), (3, _), (0, _), (1, _), (2, _)] dX0_cheapestCountWithJoin_46 (by decide) rfl ?_
            refine g_aload_n C dX0_cheapestCountWithJoin_48 rfl rfl ?_
            refine g_getX C 14 dX0_cheapestCountWithJoin_49 mwX0_cheapestCountWithJoin_inX (by decide) mwX0_cheapestCountWithJoin_f54 rfl rfl ?_
            refine g_iload C dX0_cheapestCountWithJoin_52 rfl ?_
            refine g_iload C dX0_cheapestCountWithJoin_54 rfl ?_
            refine g_if_eq (tgt := 73) C dX0_cheapestCountWithJoin_56 (by decide) (fun c_56 => ?_) (fun c_56 => ?_)
            · exact absurd c_56 (by decide)
            · have eT : (if cn (σ 4) (τ 0 a + τ 0 b) < τ' 13 p then cn (σ 4) (τ 0 a + τ 0 b) else τ' 13 p) = LTx σ τ nw nl a b p := by rw [LTx_y hft, (hN.2.1 p hpl).2]
              refine g_aload_n C dX0_cheapestCountWithJoin_59 rfl rfl ?_
              refine g_getX C 13 dX0_cheapestCountWithJoin_60 mwX0_cheapestCountWithJoin_inX (by decide) mwX0_cheapestCountWithJoin_f51 rfl rfl ?_
              refine g_iload C dX0_cheapestCountWithJoin_63 rfl ?_
              refine g_ialdN C (p) dX0_cheapestCountWithJoin_65 rfl rfl (show p < 16 by omega) (by decide) ?_
              refine g_iload_n C dX0_cheapestCountWithJoin_66 rfl rfl ?_
              refine g_mmin C dX0_cheapestCountWithJoin_67 mwX0_cheapestCountWithJoin_l152 mwX0_cheapestCountWithJoin_smin mwX0_cheapestCountWithJoin_iMath mwX0_cheapestCountWithJoin_kmin (by rw [R]; exact ⟨by decide, Nat.le_of_ble_eq_true rfl, by decide, by decide⟩) ?_
              refine g_goto (tgt := 80) C dX0_cheapestCountWithJoin_70 (by decide) ?_
              refine g_iastN C (p) dX0_cheapestCountWithJoin_80 rfl rfl (show p < 16 by omega) (by decide) rfl ?_
              refine g_iinc C 1 [(4, _), (5, _), (3, _), (0, _), (1, _), (2, _)] dX0_cheapestCountWithJoin_81 rfl (nI_i1 p) (by decide) rfl ?_
              refine g_goto (tgt := 10) C dX0_cheapestCountWithJoin_84 (by decide) ?_
              refine g_lv [0, 2, 3, 4, 5] [(4, _), (3, _), (0, _), (1, _), (2, _)] rfl ?_
              exact ih (p + 1) _ (by omega) (TR_put hN eT)
  refine g_aload_n C dX0_cheapestCountWithJoin_0 rfl rfl ?_
  refine g_iload_n C dX0_cheapestCountWithJoin_1 rfl rfl ?_
  refine g_iload_n C dX0_cheapestCountWithJoin_2 rfl rfl ?_
  refine g_callVEi (Cl := RX0) (T := TX0) (N := 18) (ci := 0) (q0 := 0) (na := 2) C dX0_cheapestCountWithJoin_3 (c_cntPair hl (eG E) σ τ0 o _ _ h4 (vp_in_nI (show a < 12 by omega) (by decide)) (vp_in_nI (show b < 12 by omega) (by decide))) gX0_cheapestCountWithJoin_X0_countOfPair rfl rfl (by decide +kernel) rfl rfl rfl (Nat.le_of_ble_eq_true rfl) (by rw [R]; exact ⟨by decide, by decide⟩) (by rw [R]; exact ⟨by decide, by decide⟩) ?_
  rw [nI_clamp (show a < 2 ^ 31 by omega), nI_clamp (show b < 2 ^ 31 by omega), h0.1 0 (by decide) (by decide) (by decide) (by decide)]
  refine g_istore_n C [(3, _), (0, _), (1, _), (2, _)] dX0_cheapestCountWithJoin_6 rfl (by decide) rfl ?_
  refine g_iconst (v := 0) C dX0_cheapestCountWithJoin_7 (by decide) ?_
  refine g_istore C [(4, _), (3, _), (0, _), (1, _), (2, _)] dX0_cheapestCountWithJoin_8 (by decide) rfl ?_
  exact loop nl 0 τ0 (Nat.zero_add _) ⟨h0.1, h0.2, fun q hq => absurd hq (Nat.not_lt_zero q)⟩
end
section
/-! bestJoin, count and what stands on it -/
/-- the pair whose join would count the least: first word a, behind b second words; J says which may be joined already, c what it would count -/
def bj2 (J : Nat → Int32) (c : Nat → Nat → Int32) (a : Nat) (s : Int32 × Int32) : Nat → Int32 × Int32
  | 0 => s
  | b + 1 => if hb (J a) (nI b) = 0 ∧ c a b < (bj2 J c a s b).2 then (nI a * 100 + nI b, c a b) else bj2 J c a s b
theorem bj2_no {J : Nat → Int32} {c : Nat → Nat → Int32} {a b : Nat} {s : Int32 × Int32} (h : ¬ (hb (J a) (nI b) = 0 ∧ c a b < (bj2 J c a s b).2)) : bj2 J c a s (b + 1) = bj2 J c a s b := by
  show (if _ then _ else _) = _
  rw [if_neg h]
theorem bj2_yes {J : Nat → Int32} {c : Nat → Nat → Int32} {a b : Nat} {s : Int32 × Int32} (h : hb (J a) (nI b) = 0 ∧ c a b < (bj2 J c a s b).2) : bj2 J c a s (b + 1) = (nI a * 100 + nI b, c a b) := by
  show (if _ then _ else _) = _
  rw [if_pos h]
def bj (nw : Nat) (J : Nat → Int32) (c : Nat → Nat → Int32) (s0 : Int32 × Int32) : Nat → Int32 × Int32
  | 0 => s0
  | a + 1 => bj2 J c a (bj nw J c s0 a) nw
theorem bj2_cong {J J' : Nat → Int32} {c c' : Nat → Nat → Int32} {a nw : Nat} {s : Int32 × Int32} (hJ : J a = J' a) (hc : ∀ b, b < nw → hb (J a) (nI b) = 0 → c a b = c' a b) : ∀ b, b ≤ nw → bj2 J c a s b = bj2 J' c' a s b := by
  intro b
  induction b with
  | zero => exact fun _ => rfl
  | succ b ih =>
    intro hb9
    have e := ih (by omega)
    by_cases h : hb (J a) (nI b) = 0 ∧ c a b < (bj2 J c a s b).2
    · rw [bj2_yes h, bj2_yes (by rw [← e, ← hJ, ← hc b (by omega) h.1]; exact h), hc b (by omega) h.1]
    · rw [bj2_no h, bj2_no (fun z => h (by
        rw [← e, ← hJ] at z
        exact ⟨z.1, by rw [hc b (by omega) z.1]; exact z.2⟩)), e]
theorem bj_cong {J J' : Nat → Int32} {c c' : Nat → Nat → Int32} {nw : Nat} {s : Int32 × Int32} (hJ : ∀ a, a < nw → J a = J' a) (hc : ∀ a b, a < nw → b < nw → hb (J a) (nI b) = 0 → c a b = c' a b) : ∀ a, a ≤ nw → bj nw J c s a = bj nw J' c' s a := by
  intro a
  induction a with
  | zero => exact fun _ => rfl
  | succ a ih =>
    intro ha
    show bj2 J c a (bj nw J c s a) nw = bj2 J' c' a (bj nw J' c' s a) nw
    rw [ih (by omega)]
    exact bj2_cong (hJ a (by omega)) (fun b hb9 => hc a b (by omega) hb9) nw (Nat.le_refl _)
/-- what would count so much with the join -/
noncomputable def CJ (σ : gS) (τ : gT) (nw nl a b : Nat) : Int32 := al nl (σ 5) (FT σ τ nw nl a b)
def CC0 (σ : gS) (τ : gT) (nw nl : Nat) : Int32 := al nl (σ 5) (FX σ τ nw nl nl)
def H0 (σ : gS) (τ : gT) (nw nl : Nat) (τ0 : gT) : Prop := (∀ c, c ≠ 12 → c ≠ 13 → c ≠ 14 → c ≠ 15 → τ0 c = τ c) ∧ ∀ q, q < nl → τ0 12 q = LAx σ τ nw nl q ∧ τ0 13 q = LJx σ τ nw nl q
/-- the telegram's count from place p on, s before it -/
def ct (lm : Int32) (nl : Nat) (L Tg Jd : Nat → Int32) : Nat → Nat → Int32 → Int32
  | 0, _, s => s
  | f + 1, p, s => if p < nl then (if Jd p ≠ 0 then ct lm nl L Tg Jd f (p + 2) (s + cn lm (L (Tg p).toNatClampNeg + L (Tg (p + 1)).toNatClampNeg)) else ct lm nl L Tg Jd f (p + 1) (s + cn lm (L (Tg p).toNatClampNeg))) else s
theorem ct_e {lm : Int32} {nl f : Nat} {L Tg Jd : Nat → Int32} {s : Int32} : ct lm nl L Tg Jd f nl s = s := by
  cases f with
  | zero => rfl
  | succ f =>
    show (if _ then _ else _) = _
    rw [if_neg (Nat.lt_irrefl _)]
theorem ct_2 {lm : Int32} {nl f p : Nat} {L Tg Jd : Nat → Int32} {s : Int32} (h : p < nl) (h2 : Jd p ≠ 0) : ct lm nl L Tg Jd (f + 1) p s = ct lm nl L Tg Jd f (p + 2) (s + cn lm (L (Tg p).toNatClampNeg + L (Tg (p + 1)).toNatClampNeg)) := by
  show (if _ then _ else _) = _
  rw [if_pos h, if_pos h2]
theorem ct_1 {lm : Int32} {nl f p : Nat} {L Tg Jd : Nat → Int32} {s : Int32} (h : p < nl) (h2 : Jd p = 0) : ct lm nl L Tg Jd (f + 1) p s = ct lm nl L Tg Jd f (p + 1) (s + cn lm (L (Tg p).toNatClampNeg)) := by
  show (if _ then _ else _) = _
  rw [if_pos h, if_neg (fun z => z h2)]
def CTx (σ : gS) (τ : gT) (nl : Nat) : Int32 := al nl (σ 5) (ct (σ 4) nl (τ 0) (τ 7) (τ 8) nl 0 0)
/-- a joined place isn't the last one -/
theorem Iv_jl {nw nl lm : Nat} {a3 a9 a4 : Int32} {L S Tg Jd Cj : Nat → Int32} (I : Iv nw nl lm a3 a9 a4 L S Tg Jd Cj) {p : Nat} (hp : p < nl) (h : Jd p ≠ 0) : p + 1 < nl := by
  rcases Nat.lt_or_ge (p + 1) nl with q | q
  · exact q
  · exact absurd (by rw [show p = nl - 1 by omega]; exact Iv_last I (by omega)) h
set_option maxRecDepth 100000 in
theorem mwX0_bestJoin_inX : ∀ w ∈ wsX00, w ∈ wsX0_bestJoin := by decide +kernel
set_option maxRecDepth 100000 in
theorem mwX0_bestJoin_f19 : Cond.fieldLink RX0 19 "TelegraphPrices" "words" "I" ∈ wsX0_bestJoin := by decide +kernel
set_option maxRecDepth 100000 in
theorem mwX0_bestJoin_f16 : Cond.fieldLink RX0 16 "TelegraphPrices" "joins" "[I" ∈ wsX0_bestJoin := by decide +kernel
set_option maxHeartbeats 4000000 in
set_option maxRecDepth 100000 in
theorem c_bestJoin {l : Launch} (hl : l.stackTraces = false) (Γ : gG) (σ : gS) (τ : gT) (o : gO) (nw nl lm : Nat) (I : IX σ τ nw nl lm) : Ct l yX0_bestJoin wsX0_bestJoin 6 192 0 0 [.ref (Γ.2.1 100)] Γ σ τ o (pI (fun r σ' τ' o' => r = (bj nw (τ 2) (CJ σ τ nw nl) (-1, CC0 σ τ nw nl) nw).1 ∧ σ' = σ ∧ o' = o ∧ (∀ c, c ≠ 12 → c ≠ 13 → c ≠ 14 → c ≠ 15 → τ' c = τ c))) (noX) := by
  refine ct_of hl (by decide +kernel) rfl (Nat.le_of_ble_eq_true rfl) ?_
  intro E C F T hΓ hL R
  subst hΓ
  subst hL
  show G E 0 0 0 [(0, .ref ((eG E).2.1 100))] [] σ τ o
  have hnw := Iv_nw I
  have hnl := Iv_nl I
  have h3 : σ 3 = nI nw := Iv_h3 I
  have h9 : σ 9 = nI nl := Iv_h9 I
  have h4 : ¬ σ 4 = 0 := Iv_ne I
  have loop : ∀ m a : Nat, ∀ τ' : gT, a + m = nw → H0 σ τ nw nl τ' → G E (0 + 0) (0 + 0) 9 [(3, .int (nI a)), (2, .int (bj nw (τ 2) (CJ σ τ nw nl) (-1, CC0 σ τ nw nl) a).1), (1, .int (bj nw (τ 2) (CJ σ τ nw nl) (-1, CC0 σ τ nw nl) a).2), (0, .ref ((eG E).2.1 100))] [] σ τ' o := by
    intro m
    induction m with
    | zero =>
      intro a τ' ha hN
      refine g_iload_n C dX0_bestJoin_9 rfl rfl ?_
      refine g_aload_n C dX0_bestJoin_10 rfl rfl ?_
      refine g_getX C 3 dX0_bestJoin_11 mwX0_bestJoin_inX (by decide) mwX0_bestJoin_f19 rfl rfl ?_
      refine g_icmp_ge (tgt := 81) C dX0_bestJoin_14 (by decide) (fun c_14 => ?_) (fun c_14 => ?_)
      · refine g_iload_n C dX0_bestJoin_81 rfl rfl ?_
        exact g_iret C F dX0_bestJoin_82 (by decide) (by decide) ⟨_, rfl, by rw [show a = nw by omega], rfl, rfl, fun c h1 h2 h3 h4 => hN.1 c h1 h2 h3 h4⟩
      · exact absurd (by rw [h3]; exact nI_le (by omega) (by omega)) c_14
    | succ m ih =>
      intro a τ' ha hN
      have inner : ∀ k b : Nat, ∀ τ' : gT, b + k = nw → H0 σ τ nw nl τ' → G E (0 + 0) (0 + 0) 20 [(4, .int (nI b)), (3, .int (nI a)), (2, .int (bj2 (τ 2) (CJ σ τ nw nl) a (bj nw (τ 2) (CJ σ τ nw nl) (-1, CC0 σ τ nw nl) a) b).1), (1, .int (bj2 (τ 2) (CJ σ τ nw nl) a (bj nw (τ 2) (CJ σ τ nw nl) (-1, CC0 σ τ nw nl) a) b).2), (0, .ref ((eG E).2.1 100))] [] σ τ' o := by
        intro k
        induction k with
        | zero =>
          intro b τ' hb9 hN
          refine g_iload C dX0_bestJoin_20 rfl ?_
          refine g_aload_n C dX0_bestJoin_22 rfl rfl ?_
          refine g_getX C 3 dX0_bestJoin_23 mwX0_bestJoin_inX (by decide) mwX0_bestJoin_f19 rfl rfl ?_
          refine g_icmp_ge (tgt := 75) C dX0_bestJoin_26 (by decide) (fun c_26 => ?_) (fun c_26 => ?_)
          · refine g_iinc C 1 [(3, _), (4, _), (2, _), (1, _), (0, _)] dX0_bestJoin_75 rfl (nI_i1 a) (by decide) rfl ?_
            refine g_goto (tgt := 9) C dX0_bestJoin_78 (by decide) ?_
            refine g_lv [0, 2, 3, 4] [(3, _), (2, _), (1, _), (0, _)] rfl ?_
            have g := ih (a + 1) τ' (by omega) hN
            rw [show b = nw by omega]
            exact g
          · exact absurd (by rw [h3]; exact nI_le (by omega) (by omega)) c_26
        | succ k ih2 =>
          intro b τ' hb9 hN
          have e2 : τ' 2 = τ 2 := hN.1 2 (by decide) (by decide) (by decide) (by decide)
          refine g_iload C dX0_bestJoin_20 rfl ?_
          refine g_aload_n C dX0_bestJoin_22 rfl rfl ?_
          refine g_getX C 3 dX0_bestJoin_23 mwX0_bestJoin_inX (by decide) mwX0_bestJoin_f19 rfl rfl ?_
          refine g_icmp_ge (tgt := 75) C dX0_bestJoin_26 (by decide) (fun c_26 => ?_) (fun c_26 => ?_)
          · exact absurd (by rw [h3] at c_26; exact c_26) (nI_ge (by omega) (by omega))
          · refine g_aload_n C dX0_bestJoin_29 rfl rfl ?_
            refine g_getX C 2 dX0_bestJoin_30 mwX0_bestJoin_inX (by decide) mwX0_bestJoin_f16 rfl rfl ?_
            refine g_iload_n C dX0_bestJoin_33 rfl rfl ?_
            refine g_ialdN C (a) dX0_bestJoin_34 rfl rfl (show a < 12 by omega) (by decide) ?_
            rw [e2]
            refine g_iload C dX0_bestJoin_35 rfl ?_
            refine g_callSEi (na := 2) C dX0_bestJoin_37 (c_hasBit hl (eG E) σ τ' o _ _) gX0_bestJoin_X0_hasBit rfl rfl (by decide +kernel) rfl (Nat.le_of_ble_eq_true rfl) (by rw [R]; exact ⟨by decide, by decide⟩) (by rw [R]; exact ⟨by decide, by decide⟩) ?_
            refine g_if_ne (tgt := 69) C dX0_bestJoin_40 (by decide) (fun c_40 => ?_) (fun c_40 => ?_)
            · have e : bj2 (τ 2) (CJ σ τ nw nl) a (bj nw (τ 2) (CJ σ τ nw nl) (-1, CC0 σ τ nw nl) a) (b + 1) = bj2 (τ 2) (CJ σ τ nw nl) a (bj nw (τ 2) (CJ σ τ nw nl) (-1, CC0 σ τ nw nl) a) b := bj2_no (fun q => c_40 q.1)
              refine g_iinc C 0 [(4, _), (3, _), (2, _), (1, _), (0, _)] dX0_bestJoin_69 rfl (nI_i1 b) (by decide) rfl ?_
              refine g_goto (tgt := 20) C dX0_bestJoin_72 (by decide) ?_
              have g := ih2 (b + 1) τ' (by omega) hN
              rw [e] at g
              exact g
            · refine g_aload_n C dX0_bestJoin_43 rfl rfl ?_
              refine g_iload_n C dX0_bestJoin_44 rfl rfl ?_
              refine g_iload C dX0_bestJoin_45 rfl ?_
              refine g_callVi (Cl := RX0) (T := TX0) (N := 18) (ci := 0) (q0 := 0) (na := 2) C dX0_bestJoin_47 (c_withJoin hl (eG E) σ τ o τ' nw nl lm a b I (by omega) (by omega) hN) gX0_bestJoin_X0_cheapestCountWithJoin rfl rfl (by decide +kernel) rfl rfl rfl (Nat.le_of_ble_eq_true rfl) (by rw [R]; exact ⟨by decide, by decide⟩) (by rw [R]; exact ⟨by decide, by decide⟩) noX_kx (fun r2 σ2 τ2 o2 hN3 => ?_)
              obtain ⟨e7, e3, e4, hN2⟩ := hN3
              rw [e7, e3, e4]
              refine g_istore C [(5, _), (4, _), (3, _), (2, _), (1, _), (0, _)] dX0_bestJoin_50 (by decide) rfl ?_
              refine g_iload C dX0_bestJoin_52 rfl ?_
              refine g_iload_n C dX0_bestJoin_54 rfl rfl ?_
              refine g_icmp_ge (tgt := 69) C dX0_bestJoin_55 (by decide) (fun c_55 => ?_) (fun c_55 => ?_)
              · have e : bj2 (τ 2) (CJ σ τ nw nl) a (bj nw (τ 2) (CJ σ τ nw nl) (-1, CC0 σ τ nw nl) a) (b + 1) = bj2 (τ 2) (CJ σ τ nw nl) a (bj nw (τ 2) (CJ σ τ nw nl) (-1, CC0 σ τ nw nl) a) b := bj2_no (fun q => absurd q.2 (i_ng c_55))
                refine g_iinc C 1 [(4, _), (5, _), (3, _), (2, _), (1, _), (0, _)] dX0_bestJoin_69 rfl (nI_i1 b) (by decide) rfl ?_
                refine g_goto (tgt := 20) C dX0_bestJoin_72 (by decide) ?_
                refine g_lv [0, 2, 3, 4, 5] [(4, _), (3, _), (2, _), (1, _), (0, _)] rfl ?_
                have g := ih2 (b + 1) τ2 (by omega) hN2
                rw [e] at g
                exact g
              · have e : bj2 (τ 2) (CJ σ τ nw nl) a (bj nw (τ 2) (CJ σ τ nw nl) (-1, CC0 σ τ nw nl) a) (b + 1) = (nI a * 100 + nI b, CJ σ τ nw nl a b) := bj2_yes ⟨c_40, i_nle c_55⟩
                refine g_iload C dX0_bestJoin_58 rfl ?_
                refine g_istore_n C [(1, _), (5, _), (4, _), (3, _), (2, _), (0, _)] dX0_bestJoin_60 rfl (by decide) rfl ?_
                refine g_iload_n C dX0_bestJoin_61 rfl rfl ?_
                refine g_bipush (v := 100) C dX0_bestJoin_62 (by decide) ?_
                refine g_imul C dX0_bestJoin_64 ?_
                refine g_iload C dX0_bestJoin_65 rfl ?_
                refine g_iadd C dX0_bestJoin_67 ?_
                refine g_istore_n C [(2, _), (1, _), (5, _), (4, _), (3, _), (0, _)] dX0_bestJoin_68 rfl (by decide) rfl ?_
                refine g_iinc C 3 [(4, _), (2, _), (1, _), (5, _), (3, _), (0, _)] dX0_bestJoin_69 rfl (nI_i1 b) (by decide) rfl ?_
                refine g_goto (tgt := 20) C dX0_bestJoin_72 (by decide) ?_
                refine g_lv [0, 4, 1, 2, 5] [(4, _), (3, _), (2, _), (1, _), (0, _)] rfl ?_
                have g := ih2 (b + 1) τ2 (by omega) hN2
                rw [e] at g
                exact g
      refine g_iload_n C dX0_bestJoin_9 rfl rfl ?_
      refine g_aload_n C dX0_bestJoin_10 rfl rfl ?_
      refine g_getX C 3 dX0_bestJoin_11 mwX0_bestJoin_inX (by decide) mwX0_bestJoin_f19 rfl rfl ?_
      refine g_icmp_ge (tgt := 81) C dX0_bestJoin_14 (by decide) (fun c_14 => ?_) (fun c_14 => ?_)
      · exact absurd (by rw [h3] at c_14; exact c_14) (nI_ge (by omega) (by omega))
      · refine g_iconst (v := 0) C dX0_bestJoin_17 (by decide) ?_
        refine g_istore C [(4, _), (3, _), (2, _), (1, _), (0, _)] dX0_bestJoin_18 (by decide) rfl ?_
        exact inner nw 0 τ' (Nat.zero_add _) hN
  refine g_aload_n C dX0_bestJoin_0 rfl rfl ?_
  refine g_callVi (Cl := RX0) (T := TX0) (N := 18) (ci := 0) (q0 := 0) (na := 0) C dX0_bestJoin_1 (c_cheapestCount hl (eG E) σ τ o nw nl lm I) gX0_bestJoin_X0_cheapestCount rfl rfl (by decide +kernel) rfl rfl rfl (Nat.le_of_ble_eq_true rfl) (by rw [R]; exact ⟨by decide, by decide⟩) (by rw [R]; exact ⟨by decide, by decide⟩) noX_kx (fun r1 σ1 τ1 o1 hN1 => ?_)
  obtain ⟨e0, e1, e2, hN⟩ := hN1
  rw [e0, e1, e2]
  refine g_istore_n C [(1, _), (0, _)] dX0_bestJoin_4 rfl (by decide) rfl ?_
  refine g_iconst (v := (-1)) C dX0_bestJoin_5 (by decide) ?_
  refine g_istore_n C [(2, _), (1, _), (0, _)] dX0_bestJoin_6 rfl (by decide) rfl ?_
  refine g_iconst (v := 0) C dX0_bestJoin_7 (by decide) ?_
  refine g_istore_n C [(3, _), (2, _), (1, _), (0, _)] dX0_bestJoin_8 rfl (by decide) rfl ?_
  exact loop nw 0 τ1 (Nat.zero_add _) ⟨fun c h1 h2 _ h4 => hN.1 c h1 h2 h4, hN.2⟩
set_option maxRecDepth 100000 in
theorem mwX0_count_inX : ∀ w ∈ wsX00, w ∈ wsX0_count := by decide +kernel
set_option maxRecDepth 100000 in
theorem mwX0_count_f39 : Cond.fieldLink RX0 39 "TelegraphPrices" "length" "I" ∈ wsX0_count := by decide +kernel
set_option maxRecDepth 100000 in
theorem mwX0_count_f35 : Cond.fieldLink RX0 35 "TelegraphPrices" "joined" "[Z" ∈ wsX0_count := by decide +kernel
set_option maxRecDepth 100000 in
theorem mwX0_count_f9 : Cond.fieldLink RX0 9 "TelegraphPrices" "letters" "[I" ∈ wsX0_count := by decide +kernel
set_option maxRecDepth 100000 in
theorem mwX0_count_f32 : Cond.fieldLink RX0 32 "TelegraphPrices" "telegram" "[I" ∈ wsX0_count := by decide +kernel
set_option maxHeartbeats 4000000 in
set_option maxRecDepth 100000 in
theorem c_count {l : Launch} (hl : l.stackTraces = false) (Γ : gG) (σ : gS) (τ : gT) (o : gO) (nw nl lm : Nat) (I : IX σ τ nw nl lm) : Ct l yX0_count wsX0_count 3 96 0 0 [.ref (Γ.2.1 100)] Γ σ τ o (pE (some (.int (CTx σ τ nl))) σ τ o) (noX) := by
  refine ct_of hl (by decide +kernel) rfl (Nat.le_of_ble_eq_true rfl) ?_
  intro E C F T hΓ hL R
  subst hΓ
  subst hL
  show G E 0 0 0 [(0, .ref ((eG E).2.1 100))] [] σ τ o
  have hnw := Iv_nw I
  have hnl := Iv_nl I
  have h3 : σ 3 = nI nw := Iv_h3 I
  have h9 : σ 9 = nI nl := Iv_h9 I
  have h4 : ¬ σ 4 = 0 := Iv_ne I
  have fin : ∀ f : Nat, ∀ s : Int32, ct (σ 4) nl (τ 0) (τ 7) (τ 8) nl 0 0 = ct (σ 4) nl (τ 0) (τ 7) (τ 8) f nl s → G E 0 0 4 [(2, .int (nI nl)), (1, .int s), (0, .ref ((eG E).2.1 100))] [] σ τ o := by
    intro f s e
    rw [ct_e] at e
    refine g_iload_n C dX0_count_4 rfl rfl ?_
    refine g_aload_n C dX0_count_5 rfl rfl ?_
    refine g_getX C 9 dX0_count_6 mwX0_count_inX (by decide) mwX0_count_f39 rfl rfl ?_
    refine g_icmp_ge (tgt := 82) C dX0_count_9 (by decide) (fun c_9 => ?_) (fun c_9 => ?_)
    · refine g_aload_n C dX0_count_82 rfl rfl ?_
      refine g_iload_n C dX0_count_83 rfl rfl ?_
      refine g_callVEi (Cl := RX0) (T := TX0) (N := 18) (ci := 0) (q0 := 0) (na := 1) C dX0_count_84 (c_alc hl (eG E) σ τ o nl _ h9 hnl) gX0_count_X0_atLeastTheLeastCount rfl rfl (by decide +kernel) rfl rfl rfl (Nat.le_of_ble_eq_true rfl) (by rw [R]; exact ⟨by decide, by decide⟩) (by rw [R]; exact ⟨by decide, by decide⟩) ?_
      exact g_iret C F dX0_count_87 (by decide) (by decide) ⟨by rw [← e]; rfl, rfl, rfl, rfl⟩
    · exact absurd (by rw [h9]; exact i_rf _) c_9
  have loop : ∀ f p : Nat, ∀ s : Int32, p ≤ nl → nl - p ≤ f → ct (σ 4) nl (τ 0) (τ 7) (τ 8) nl 0 0 = ct (σ 4) nl (τ 0) (τ 7) (τ 8) f p s → G E 0 0 4 [(2, .int (nI p)), (1, .int s), (0, .ref ((eG E).2.1 100))] [] σ τ o := by
    intro f
    induction f with
    | zero =>
      intro p s hp hf e
      have e1 : p = nl := by omega
      subst e1
      exact fin 0 s e
    | succ f ih =>
      intro p s hp hf e
      rcases Nat.lt_or_ge p nl with hpl | hpl
      rotate_left
      · have e1 : p = nl := by omega
        subst e1
        exact fin (f + 1) s e
      refine g_iload_n C dX0_count_4 rfl rfl ?_
      refine g_aload_n C dX0_count_5 rfl rfl ?_
      refine g_getX C 9 dX0_count_6 mwX0_count_inX (by decide) mwX0_count_f39 rfl rfl ?_
      refine g_icmp_ge (tgt := 82) C dX0_count_9 (by decide) (fun c_9 => ?_) (fun c_9 => ?_)
      · exact absurd (by rw [h9] at c_9; exact c_9) (nI_ge (by omega) (by omega))
      · refine g_aload_n C dX0_count_12 rfl rfl ?_
        refine g_getX C 8 dX0_count_13 mwX0_count_inX (by decide) mwX0_count_f35 rfl rfl ?_
        refine g_iload_n C dX0_count_16 rfl rfl ?_
        refine g_zaldN C (p) dX0_count_17 rfl rfl (show p < 16 by omega) (by decide) ?_
        refine g_if_eq (tgt := 58) C dX0_count_18 (by decide) (fun c_18 => ?_) (fun c_18 => ?_)
        · refine g_iload_n C dX0_count_58 rfl rfl ?_
          refine g_aload_n C dX0_count_59 rfl rfl ?_
          refine g_aload_n C dX0_count_60 rfl rfl ?_
          refine g_getX C 0 dX0_count_61 mwX0_count_inX (by decide) mwX0_count_f9 rfl rfl ?_
          refine g_aload_n C dX0_count_64 rfl rfl ?_
          refine g_getX C 7 dX0_count_65 mwX0_count_inX (by decide) mwX0_count_f32 rfl rfl ?_
          refine g_iload_n C dX0_count_68 rfl rfl ?_
          refine g_ialdN C (p) dX0_count_69 rfl rfl (show p < 16 by omega) (by decide) ?_
          refine g_iald C dX0_count_70 rfl (Iv_tin I hpl) ?_
          refine g_callVEi (Cl := RX0) (T := TX0) (N := 18) (ci := 0) (q0 := 0) (na := 1) C dX0_count_71 (c_cnt hl (eG E) σ τ o _ h4) gX0_count_X0_countOfLetters rfl rfl (by decide +kernel) rfl rfl rfl (Nat.le_of_ble_eq_true rfl) (by rw [R]; exact ⟨by decide, by decide⟩) (by rw [R]; exact ⟨by decide, by decide⟩) ?_
          refine g_iadd C dX0_count_74 ?_
          refine g_istore_n C [(1, _), (2, _), (0, _)] dX0_count_75 rfl (by decide) rfl ?_
          refine g_iinc C 1 [(2, _), (1, _), (0, _)] dX0_count_76 rfl (nI_i1 p) (by decide) rfl ?_
          refine g_goto (tgt := 4) C dX0_count_79 (by decide) ?_
          exact ih (p + 1) _ (by omega) (by omega) (by rw [← ct_1 hpl c_18]; exact e)
        · have hp1 := Iv_jl I hpl c_18
          refine g_iload_n C dX0_count_21 rfl rfl ?_
          refine g_iconst (v := 1) C dX0_count_22 (by decide) ?_
          refine g_iadd C dX0_count_23 ?_
          refine g_aload_n C dX0_count_24 rfl rfl ?_
          refine g_getX C 9 dX0_count_25 mwX0_count_inX (by decide) mwX0_count_f39 rfl rfl ?_
          refine g_icmp_ge (tgt := 58) C dX0_count_28 (by decide) (fun c_28 => ?_) (fun c_28 => ?_)
          · exact absurd (by rw [nI_1, h9] at c_28; exact c_28) (nI_ge (by omega) (by omega))
          · refine g_iload_n C dX0_count_31 rfl rfl ?_
            refine g_aload_n C dX0_count_32 rfl rfl ?_
            refine g_aload_n C dX0_count_33 rfl rfl ?_
            refine g_getX C 7 dX0_count_34 mwX0_count_inX (by decide) mwX0_count_f32 rfl rfl ?_
            refine g_iload_n C dX0_count_37 rfl rfl ?_
            refine g_ialdN C (p) dX0_count_38 rfl rfl (show p < 16 by omega) (by decide) ?_
            refine g_aload_n C dX0_count_39 rfl rfl ?_
            refine g_getX C 7 dX0_count_40 mwX0_count_inX (by decide) mwX0_count_f32 rfl rfl ?_
            refine g_iload_n C dX0_count_43 rfl rfl ?_
            refine g_iconst (v := 1) C dX0_count_44 (by decide) ?_
            refine g_iadd C dX0_count_45 ?_
            refine g_ialdN C (p + 1) dX0_count_46 rfl (nI_1 p) (show p + 1 < 16 by omega) (by decide) ?_
            refine g_callVEi (Cl := RX0) (T := TX0) (N := 18) (ci := 0) (q0 := 0) (na := 2) C dX0_count_47 (c_cntPair hl (eG E) σ τ o _ _ h4 (Iv_tin I hpl) (Iv_tin I hp1)) gX0_count_X0_countOfPair rfl rfl (by decide +kernel) rfl rfl rfl (Nat.le_of_ble_eq_true rfl) (by rw [R]; exact ⟨by decide, by decide⟩) (by rw [R]; exact ⟨by decide, by decide⟩) ?_
            refine g_iadd C dX0_count_50 ?_
            refine g_istore_n C [(1, _), (2, _), (0, _)] dX0_count_51 rfl (by decide) rfl ?_
            refine g_iinc C 1 [(2, _), (1, _), (0, _)] dX0_count_52 rfl (nI_i2 p) (by decide) rfl ?_
            refine g_goto (tgt := 4) C dX0_count_55 (by decide) ?_
            exact ih (p + 2) _ (by omega) (by omega) (by rw [← ct_2 hpl c_18]; exact e)
  refine g_iconst (v := 0) C dX0_count_0 (by decide) ?_
  refine g_istore_n C [(1, _), (0, _)] dX0_count_1 rfl (by decide) rfl ?_
  refine g_iconst (v := 0) C dX0_count_2 (by decide) ?_
  refine g_istore_n C [(2, _), (1, _), (0, _)] dX0_count_3 rfl (by decide) rfl ?_
  exact loop nl 0 0 (Nat.zero_le _) (Nat.sub_le _ _) rfl
set_option maxRecDepth 100000 in
theorem mwX0_price_inX : ∀ w ∈ wsX00, w ∈ wsX0_price := by decide +kernel
set_option maxRecDepth 100000 in
theorem mwX0_price_f29 : Cond.fieldLink RX0 29 "TelegraphPrices" "coins" "I" ∈ wsX0_price := by decide +kernel
set_option maxHeartbeats 4000000 in
set_option maxRecDepth 100000 in
theorem c_price {l : Launch} (hl : l.stackTraces = false) (Γ : gG) (σ : gS) (τ : gT) (o : gO) (nw nl lm : Nat) (I : IX σ τ nw nl lm) : Ct l yX0_price wsX0_price 4 128 0 0 [.ref (Γ.2.1 100)] Γ σ τ o (pE (some (.int (CTx σ τ nl * σ 6))) σ τ o) (noX) := by
  refine ct_of hl (by decide +kernel) rfl (Nat.le_of_ble_eq_true rfl) ?_
  intro E C F T hΓ hL R
  subst hΓ
  subst hL
  show G E 0 0 0 [(0, .ref ((eG E).2.1 100))] [] σ τ o
  have hnw := Iv_nw I
  have hnl := Iv_nl I
  have h3 : σ 3 = nI nw := Iv_h3 I
  have h9 : σ 9 = nI nl := Iv_h9 I
  have h4 : ¬ σ 4 = 0 := Iv_ne I
  refine g_aload_n C dX0_price_0 rfl rfl ?_
  refine g_callVEi (Cl := RX0) (T := TX0) (N := 18) (ci := 0) (q0 := 0) (na := 0) C dX0_price_1 (c_count hl (eG E) σ τ o nw nl lm I) gX0_price_X0_count rfl rfl (by decide +kernel) rfl rfl rfl (Nat.le_of_ble_eq_true rfl) (by rw [R]; exact ⟨by decide, by decide⟩) (by rw [R]; exact ⟨by decide, by decide⟩) ?_
  refine g_aload_n C dX0_price_4 rfl rfl ?_
  refine g_getX C 6 dX0_price_5 mwX0_price_inX (by decide) mwX0_price_f29 rfl rfl ?_
  refine g_imul C dX0_price_8 ?_
  exact g_iret C F dX0_price_9 (by decide) (by decide) ⟨rfl, rfl, rfl, rfl⟩
set_option maxHeartbeats 4000000 in
set_option maxRecDepth 100000 in
theorem c_priceTo {l : Launch} (hl : l.stackTraces = false) (Γ : gG) (σ : gS) (τ : gT) (o : gO) (nw nl lm : Nat) (z : Int32) (I : IX σ τ nw nl lm) (hz : ¬ z < 0 ∧ z < 4) : Ct l yX0_priceTo wsX0_priceTo 5 160 0 0 [.ref (Γ.2.1 100), .int z] Γ σ τ o (pE (some (.int (CTx σ τ nl * σ 6 * (z + 2) / 2))) σ τ o) (noX) := by
  refine ct_of hl (by decide +kernel) rfl (Nat.le_of_ble_eq_true rfl) ?_
  intro E C F T hΓ hL R
  subst hΓ
  subst hL
  show G E 0 0 0 [(0, .ref ((eG E).2.1 100)), (1, .int z)] [] σ τ o
  have hnw := Iv_nw I
  have hnl := Iv_nl I
  have h3 : σ 3 = nI nw := Iv_h3 I
  have h9 : σ 9 = nI nl := Iv_h9 I
  have h4 : ¬ σ 4 = 0 := Iv_ne I
  refine g_iload_n C dX0_priceTo_0 rfl rfl ?_
  refine g_if_lt (tgt := 9) C dX0_priceTo_1 (by decide) (fun c_1 => ?_) (fun c_1 => ?_)
  · exact absurd c_1 hz.1
  · refine g_iload_n C dX0_priceTo_4 rfl rfl ?_
    refine g_iconst (v := 4) C dX0_priceTo_5 (by decide) ?_
    refine g_icmp_lt (tgt := 19) C dX0_priceTo_6 (by decide) (fun c_6 => ?_) (fun c_6 => ?_)
    · refine g_aload_n C dX0_priceTo_19 rfl rfl ?_
      refine g_callVEi (Cl := RX0) (T := TX0) (N := 18) (ci := 0) (q0 := 0) (na := 0) C dX0_priceTo_20 (c_price hl (eG E) σ τ o nw nl lm I) gX0_priceTo_X0_price rfl rfl (by decide +kernel) rfl rfl rfl (Nat.le_of_ble_eq_true rfl) (by rw [R]; exact ⟨by decide, by decide⟩) (by rw [R]; exact ⟨by decide, by decide⟩) ?_
      refine g_iload_n C dX0_priceTo_23 rfl rfl ?_
      refine g_iconst (v := 2) C dX0_priceTo_24 (by decide) ?_
      refine g_iadd C dX0_priceTo_25 ?_
      refine g_imul C dX0_priceTo_26 ?_
      refine g_iconst (v := 2) C dX0_priceTo_27 (by decide) ?_
      refine g_idiv C dX0_priceTo_28 (by decide) ?_
      exact g_iret C F dX0_priceTo_29 (by decide) (by decide) ⟨rfl, rfl, rfl, rfl⟩
    · exact absurd hz.2 c_6
set_option maxRecDepth 100000 in
theorem mwX0_priceTo_k133 : Cond.classLink RX0 133 "java/lang/IndexOutOfBoundsException" ∈ wsX0_priceTo := by decide +kernel
set_option maxRecDepth 100000 in
theorem mwX0_priceTo_n133 : Cond.initialized "java/lang/IndexOutOfBoundsException" ∈ wsX0_priceTo := by decide +kernel
set_option maxRecDepth 100000 in
theorem mwX0_priceTo_a133 : ∀ w ∈ (vx_atS RX0 137 "java/lang/IndexOutOfBoundsException" ["java/lang/RuntimeException", "java/lang/Exception"]).filter goodWord, w ∈ wsX0_priceTo := by decide +kernel
set_option maxHeartbeats 4000000 in
set_option maxRecDepth 100000 in
theorem c_priceToX {l : Launch} (hl : l.stackTraces = false) (Γ : gG) (σ : gS) (τ : gT) (o : gO) (z : Int32) (hz : z < 0 ∨ ¬ z < 4) : Ct l yX0_priceTo wsX0_priceTo 6 192 1 6 [.ref (Γ.2.1 100), .int z] Γ σ τ o (noP) (pxE "java/lang/IndexOutOfBoundsException" σ τ o) := by
  refine ct_of hl (by decide +kernel) rfl (Nat.le_of_ble_eq_true rfl) ?_
  intro E C F T hΓ hL R
  subst hΓ
  subst hL
  show G E 0 0 0 [(0, .ref ((eG E).2.1 100)), (1, .int z)] [] σ τ o
  refine g_iload_n C dX0_priceTo_0 rfl rfl ?_
  refine g_if_lt (tgt := 9) C dX0_priceTo_1 (by decide) (fun c_1 => ?_) (fun c_1 => ?_)
  · exact g_throw (text := "the zones are 0 to 3") C F T dX0_priceTo_9 dX0_priceTo_12 dX0_priceTo_13 dX0_priceTo_15 dX0_priceTo_18 (by decide +kernel) (by decide +kernel) mwX0_priceTo_k133 mwX0_priceTo_n133 (by decide +kernel) (by decide +kernel) g_at137 mwX0_priceTo_a133 (by rw [R]; exact ⟨by decide, by decide, by decide, by decide⟩) (by decide) (by decide) ⟨rfl, rfl, rfl, rfl⟩
  · refine g_iload_n C dX0_priceTo_4 rfl rfl ?_
    refine g_iconst (v := 4) C dX0_priceTo_5 (by decide) ?_
    refine g_icmp_lt (tgt := 19) C dX0_priceTo_6 (by decide) (fun c_6 => ?_) (fun c_6 => ?_)
    · rcases hz with hz | hz
      · exact absurd hz c_1
      · exact absurd c_6 hz
    · exact g_throw (text := "the zones are 0 to 3") C F T dX0_priceTo_9 dX0_priceTo_12 dX0_priceTo_13 dX0_priceTo_15 dX0_priceTo_18 (by decide +kernel) (by decide +kernel) mwX0_priceTo_k133 mwX0_priceTo_n133 (by decide +kernel) (by decide +kernel) g_at137 mwX0_priceTo_a133 (by rw [R]; exact ⟨by decide, by decide, by decide, by decide⟩) (by decide) (by decide) ⟨rfl, rfl, rfl, rfl⟩
set_option maxRecDepth 100000 in
theorem mwX0_saves_inX : ∀ w ∈ wsX00, w ∈ wsX0_saves := by decide +kernel
set_option maxRecDepth 100000 in
theorem mwX0_saves_f29 : Cond.fieldLink RX0 29 "TelegraphPrices" "coins" "I" ∈ wsX0_saves := by decide +kernel
set_option maxHeartbeats 4000000 in
set_option maxRecDepth 100000 in
theorem c_saves {l : Launch} (hl : l.stackTraces = false) (Γ : gG) (σ : gS) (τ : gT) (o : gO) (nw nl lm : Nat) (I : IX σ τ nw nl lm) : Ct l yX0_saves wsX0_saves 6 192 0 0 [.ref (Γ.2.1 100)] Γ σ τ o (pI (fun r σ' τ' o' => r = CTx σ τ nl * σ 6 - CC0 σ τ nw nl * σ 6 ∧ σ' = σ ∧ o' = o ∧ (∀ c, c ≠ 12 → c ≠ 13 → c ≠ 14 → c ≠ 15 → τ' c = τ c))) (noX) := by
  refine ct_of hl (by decide +kernel) rfl (Nat.le_of_ble_eq_true rfl) ?_
  intro E C F T hΓ hL R
  subst hΓ
  subst hL
  show G E 0 0 0 [(0, .ref ((eG E).2.1 100))] [] σ τ o
  have hnw := Iv_nw I
  have hnl := Iv_nl I
  have h3 : σ 3 = nI nw := Iv_h3 I
  have h9 : σ 9 = nI nl := Iv_h9 I
  have h4 : ¬ σ 4 = 0 := Iv_ne I
  refine g_aload_n C dX0_saves_0 rfl rfl ?_
  refine g_callVEi (Cl := RX0) (T := TX0) (N := 18) (ci := 0) (q0 := 0) (na := 0) C dX0_saves_1 (c_price hl (eG E) σ τ o nw nl lm I) gX0_saves_X0_price rfl rfl (by decide +kernel) rfl rfl rfl (Nat.le_of_ble_eq_true rfl) (by rw [R]; exact ⟨by decide, by decide⟩) (by rw [R]; exact ⟨by decide, by decide⟩) ?_
  refine g_aload_n C dX0_saves_4 rfl rfl ?_
  refine g_callVi (Cl := RX0) (T := TX0) (N := 18) (ci := 0) (q0 := 0) (na := 0) C dX0_saves_5 (c_cheapestCount hl (eG E) σ τ o nw nl lm I) gX0_saves_X0_cheapestCount rfl rfl (by decide +kernel) rfl rfl rfl (Nat.le_of_ble_eq_true rfl) (by rw [R]; exact ⟨by decide, by decide⟩) (by rw [R]; exact ⟨by decide, by decide⟩) noX_kx (fun r1 σ1 τ1 o1 hN1 => ?_)
  obtain ⟨e0, e1, e2, hN⟩ := hN1
  rw [e0, e1, e2]
  refine g_aload_n C dX0_saves_8 rfl rfl ?_
  refine g_getX C 6 dX0_saves_9 mwX0_saves_inX (by decide) mwX0_saves_f29 rfl rfl ?_
  refine g_imul C dX0_saves_12 ?_
  refine g_isub C dX0_saves_13 ?_
  exact g_iret C F dX0_saves_14 (by decide) (by decide) ⟨_, rfl, rfl, rfl, rfl, fun c h1 h2 _ h4 => hN.1 c h1 h2 h4⟩
end
section
theorem zz_last : True := trivial
end
