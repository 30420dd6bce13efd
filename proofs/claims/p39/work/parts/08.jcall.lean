/-! calls over any world; a Sim's cells, the class's cells -/
section JCALL
variable {E : gE} {cc : ByteArray} {nL : Nat} {own : String} {ws : List Cond} {x : jS} {k n pc : Nat} {lv : List (Nat × Value)} {st : List Value} {w : va_W}
theorem jAd_in (C : jC E cc nL own ws x) {H : Heap} {locs : List Loc} (hD : va_D (eA E) w) (hS : va_S (eA E) (eS E).heap H locs) : ∀ q, va_A w H.size q → eA E q := fun q h => by
  rcases h with ⟨j, e, h⟩ | h
  · exact hD.2 j (q, e) h
  · exact C.2.2.2.2.2.2.1 q (Nat.le_trans hS.1 h)
theorem j_pre {x' : jS} (C : jC E cc nL own ws x) (hx : jX x' (eA E) (eS E) (eS E).heap) {H : Heap} {locs : List Loc} {As : List Value} (hP : va_P (eG E).1 vwCl w H) (hD : va_D (eA E) w) (hS : va_S (eA E) (eS E).heap H locs) : ∀ U : State, U.heap = H → (eS E).WarmedH U.vm → va_Pc As (jP (eG E) w x' H.size) As.toArray U := fun U hU hW =>
  ⟨rfl, by rw [hU], by rw [hU]; exact hP, va_K.moved hW.alike C.2.2.2.2.2.1, hD.weaken (fun _ _ _ _ => trivial), uZ_pass C.2.2.2.2.2.2.2.1 hS hW hU (jAd_in C hD hS), jN_warm C.2.2.2.2.2.2.2.2.1 hW, jX_pass hx hS hW.alike hU (jAd_in C hD hS)⟩
theorem j_run {post : jPost} {mc ms : Nat} {rest : List Value} {a : Array Value} (C : jC E cc nL own ws x)
    (hr : ∀ (H : Heap) (locs : List Loc) (ls : Array Slot), va_P (eG E).1 vwCl w H → va_D (eA E) w → va_S (eA E) (eS E).heap H locs → lv_has ls (eC E).maxLocals lv →
      va_Run (eP E) (eL E) (eE E) (eR E) (eS E) (eM E) (eV E) (eB E) (eMt E) (eC E) H locs k n mc ms (F0 (eM E) pc ls st) rest (jQ (eG E) (va_A w H.size) post a) (va_A w H.size))
    (kk : ∀ v w', post v w' → J E (k + mc) (n + ms) (pc + 3) lv (v.toList ++ rest) w') : J E k n pc lv st w := by
  intro H locs ls hP hD hS hl T hT X
  have hA := jAd_in C hD hS
  obtain ⟨v, st₀, t, T', L, h0, X', hL, e1, e2, ⟨⟨v', w', hv, hp, hP', hK', hD'⟩, hF⟩, hg⟩ := hr H locs ls hP hD hS hl T hT X
  cases hv
  obtain ⟨k1, k2, k3⟩ := vx_keep h0 e1 hS (fun q _ h => hA q h) hA hL hF
  obtain ⟨t2, a1, b1⟩ := kk v w' hp T'.heap (locs ++ L) ls (by rw [e1]; exact hP') (hD'.weaken (fun _ _ _ h => hA _ h)) k3 hl T' rfl X'
  exact ⟨t2, hg t2 a1, b1⟩
theorem j_callV {post : jPost} {x' : jS} {fr lo mc ms idx maxL na : Nat} {y : MethodName} {bytes : ByteArray} {ret : Option FieldType} {wy wy' : List Cond} {Cl : String} {T : u_T} {N ci q0 b : Nat} {fs : List Value} {As rest : List Value} (C : jC E cc nL own ws x) (hx : jX x' (eA E) (eS E) (eS E).heap)
    (d : decode cc pc = .ok (.invokevirtual idx, 3)) (hM : CtJ (eL E) y wy fr lo mc ms (.ref b :: As) (eG E) x' w post) (hT : GoodIn ws (wsV own idx Cl y wy)) (hw : wy = Cond.code y bytes maxL ret :: wy')
    (hna : As.length = na) (hy : y.cls = Cl ∧ y.cls ≠ "java/lang/invoke/MethodHandle" ∧ y.cls ≠ "java/lang/invoke/VarHandle" ∧ (parseMethodDescriptor y.desc).map (fun d => d.parameters.length) = some na)
    (hq : w[q0]? = some (b, .inr (ci, fs))) (hc : vwCl[ci]? = some (Cl, T, N))
    (hst : st = As.reverse ++ .ref b :: rest) (hW : (rest.map fun v => v.category).sum ≤ 8)
    (hR : fr + 1 ≤ (eR E).frames ∧ 8 + (maxL + 11) + lo ≤ (eR E).locals) (hf : k + mc ≤ (eR E).cells ∧ n + ms ≤ (eR E).slots)
    (kk : ∀ v w', post v w' → J E (k + mc) (n + ms) (pc + 3) lv (v.toList ++ rest) w') : J E k n pc lv st w := by
  refine j_run (a := (Value.ref b :: As).toArray) C (fun H locs ls hP hD hS hl => ?_) kk
  exact va_runV (As := As) (rest := rest) ⟨C.1, C.2.1, C.2.2.1, C.2.2.2.1, C.2.2.2.2.1⟩ (hM H.size) (cwV na C.2.2.2.2.1 hT hw rfl rfl hy hR) ⟨jP_blind, va_recv C.2.2.2.2.2.1 hP hc hq, j_pre C hx hP hD hS⟩ rfl hna (hl.1.trans C.2.2.1) hst (lv_room hW) d hf
theorem j_callS {post : jPost} {x' : jS} {fr lo mc ms idx maxL na : Nat} {y : MethodName} {bytes : ByteArray} {ret : Option FieldType} {wy wy' : List Cond} {As rest : List Value} (C : jC E cc nL own ws x) (hx : jX x' (eA E) (eS E) (eS E).heap)
    (d : decode cc pc = .ok (.invokestatic idx, 3)) (hM : CtJ (eL E) y wy fr lo mc ms As (eG E) x' w post) (hT : GoodIn ws (va_wsS own idx y wy)) (hw : wy = Cond.code y bytes maxL ret :: wy')
    (hna : As.length = na) (hy : y.cls ≠ "java/lang/invoke/MethodHandle" ∧ y.cls ≠ "java/lang/invoke/VarHandle" ∧ (parseMethodDescriptor y.desc).map (fun d => d.parameters.length) = some na)
    (hst : st = As.reverse ++ rest) (hW : (rest.map fun v => v.category).sum ≤ 8)
    (hR : fr + 1 ≤ (eR E).frames ∧ 8 + (maxL + 11) + lo ≤ (eR E).locals) (hf : k + mc ≤ (eR E).cells ∧ n + ms ≤ (eR E).slots)
    (kk : ∀ v w', post v w' → J E (k + mc) (n + ms) (pc + 3) lv (v.toList ++ rest) w') : J E k n pc lv st w := by
  refine j_run (a := As.toArray) C (fun H locs ls hP hD hS hl => ?_) kk
  exact va_runS (As := As) (rest := rest) ⟨C.1, C.2.1, C.2.2.1, C.2.2.2.1, C.2.2.2.2.1⟩ (hM H.size) (va_cwS na C.2.2.2.2.1 hT hw rfl rfl hy hR) ⟨jP_blind, j_pre C hx hP hD hS⟩ rfl hna (hl.1.trans C.2.2.1) hst (lv_room hW) d hf
/-- a Sim's constructor, called by the Sim itself, and by the law (a nest mate) -/
theorem j_callI {post : jPost} {fr lo mc ms idx maxL b : Nat} {bytes : ByteArray} {wy wy' : List Cond} {rest : List Value} (C : jC E cc nL own ws x)
    (d : decode cc pc = .ok (.invokespecial idx, 3)) (hM : CtJ (eL E) yX1_init wy fr lo mc ms [.ref b] (eG E) none w post) (hT : GoodIn ws wy) (hw : wy = Cond.code yX1_init bytes maxL none :: wy')
    (h1 : Cond.initialized RX1 ∈ ws) (h2 : Cond.methodLink own idx yX1_init ∈ ws) (h3 : Cond.instanceMethod yX1_init ∈ ws)
    (hst : st = .ref b :: rest) (hW : (rest.map fun v => v.category).sum ≤ 8)
    (hR : fr + 1 ≤ (eR E).frames ∧ 8 + (maxL + 11) + lo ≤ (eR E).locals) (hf : k + mc ≤ (eR E).cells ∧ n + ms ≤ (eR E).slots)
    (kk : ∀ v w', post v w' → J E (k + mc) (n + ms) (pc + 3) lv (v.toList ++ rest) w') : J E k n pc lv st w := by
  refine j_run (a := (Value.ref b :: ([] : List Value)).toArray) C (fun H locs ls hP hD hS hl => ?_) kk
  exact va_runI (As := []) (rest := rest) ⟨C.1, C.2.1, C.2.2.1, C.2.2.2.1, C.2.2.2.2.1⟩ (hM H.size) (cwI 0 C.2.2.2.2.1 hT hw rfl rfl (C.2.2.2.2.1 _ h1) (C.2.2.2.2.1 _ h2) (C.2.2.2.2.1 _ h3) rfl (by decide +kernel) hR) ⟨jP_blind, j_pre C (jX_none C.2.2.2.2.2.2.2.2.2) hP hD hS⟩ rfl rfl (hl.1.trans C.2.2.1) hst (lv_room hW) d hf
theorem j_callIN {post : jPost} {fr lo mc ms maxL b : Nat} {bytes : ByteArray} {wy wy' : List Cond} {rest : List Value} (C : jC E cc nL RL ws x)
    (d : decode cc pc = .ok (.invokespecial 100, 3)) (hM : CtJ (eL E) yX1_init wy fr lo mc ms [.ref b] (eG E) none w post) (hT : GoodIn ws wy) (hw : wy = Cond.code yX1_init bytes maxL none :: wy')
    (h1 : Cond.initialized RX1 ∈ ws) (h3 : Cond.instanceMethod yX1_init ∈ ws)
    (hst : st = .ref b :: rest) (hW : (rest.map fun v => v.category).sum ≤ 8)
    (hR : fr + 1 ≤ (eR E).frames ∧ 8 + (maxL + 11) + lo ≤ (eR E).locals) (hf : k + mc ≤ (eR E).cells ∧ n + ms ≤ (eR E).slots)
    (kk : ∀ v w', post v w' → J E (k + mc) (n + ms) (pc + 3) lv (v.toList ++ rest) w') : J E k n pc lv st w := by
  refine j_run (a := (Value.ref b :: ([] : List Value)).toArray) C (fun H locs ls hP hD hS hl => ?_) kk
  exact va_runIN (As := []) (rest := rest) ⟨C.1, C.2.1, C.2.2.1, C.2.2.2.1, C.2.2.2.2.1⟩ (hM H.size) ⟨va_cnB 0 C.2.2.2.2.1 hT hw rfl rfl C.2.2.2.2.2.2.2.2.1.2 (C.2.2.2.2.1 _ h1) (by decide +kernel) hR, rfl, C.2.2.2.2.1 _ h3⟩ ⟨jP_blind, j_pre C (jX_none C.2.2.2.2.2.2.2.2.2) hP hD hS⟩ rfl rfl (hl.1.trans C.2.2.1) hst (lv_room hW) d hf
/-- the class's cells at the addresses ad, other cells behind them -/
abbrev jG (Γ : gG) (ad : Nat → Nat) (z : va_W) : gG := (Γ.1, ad, Γ.2.2.1, Γ.2.2.2.1, Γ.2.2.2.2.1, z)
def wX (Γ : gG) (ad : Nat → Nat) (σ : gS) (τ : gT) : va_W := wW (jG Γ ad []) σ τ zO
theorem wX_app (Γ : gG) (ad : Nat → Nat) (σ : gS) (τ : gT) (z : va_W) (o : gO) : wX Γ ad σ τ ++ z = wW (jG Γ ad z) σ τ o := rfl
/-- a call of the class's method -/
theorem j_callX {post : gPost} {fr lo mc ms idx maxL na : Nat} {y : MethodName} {bytes : ByteArray} {ret : Option FieldType} {wy wy' : List Cond} {As rest : List Value} {ad : Nat → Nat} {σ : gS} {τ : gT} {S z : va_W} (C : jC E cc nL own ws x)
    (d : decode cc pc = .ok (.invokevirtual idx, 3)) (hM : Ct (eL E) y wy fr lo mc ms (.ref (ad 100) :: As) (jG (eG E) ad (S ++ z)) σ τ zO post noX) (hT : GoodIn ws (wsV own idx RX0 y wy)) (hw : wy = Cond.code y bytes maxL ret :: wy')
    (hna : As.length = na) (hy : y.cls = RX0 ∧ y.cls ≠ "java/lang/invoke/MethodHandle" ∧ y.cls ≠ "java/lang/invoke/VarHandle" ∧ (parseMethodDescriptor y.desc).map (fun d => d.parameters.length) = some na)
    (hst : st = As.reverse ++ .ref (ad 100) :: rest) (hW : (rest.map fun v => v.category).sum ≤ 8)
    (hR : fr + 1 ≤ (eR E).frames ∧ 8 + (maxL + 11) + lo ≤ (eR E).locals) (hf : k + mc ≤ (eR E).cells ∧ n + ms ≤ (eR E).slots)
    (kk : ∀ v σ' τ' o', post v σ' τ' o' → J E (k + mc) (n + ms) (pc + 3) lv (v.toList ++ rest) (S ++ (wX (eG E) ad σ' τ' ++ z))) : J E k n pc lv st (S ++ (wX (eG E) ad σ τ ++ z)) := by
  refine j_swap ?_
  rw [wX_app (eG E) ad σ τ (S ++ z) zO]
  intro H locs ls hP hD hS hl T hT9 X
  have hA : ∀ q, uAd (jG (eG E) ad (S ++ z)) H.size q → eA E q := fun q h => jAd_in C hD hS q (uA_any h)
  have hu : ∀ U : State, U.heap = H → (eS E).WarmedH U.vm → va_Pc (.ref (ad 100) :: As) (uP (jG (eG E) ad (S ++ z)) H.size σ τ zO) (Value.ref (ad 100) :: As).toArray U := fun U hU hW => ⟨rfl, by rw [hU], ⟨by rw [hU]; exact hP, va_K.moved hW.alike C.2.2.2.2.2.1⟩, uD_any (hD.weaken (fun _ _ _ _ => trivial)), uZ_pass C.2.2.2.2.2.2.2.1 hS hW hU hA⟩
  rcases vx_runV (g := F0 (eM E) pc ls st) (As := As) (rest := rest) (p := eP E) (e := eE E) (below := eB E) (meth := eMt E) (locs := locs) (cells := k) (slots := n) ⟨C.1, C.2.1, C.2.2.1, C.2.2.2.1, C.2.2.2.2.1⟩ (hM H.size) (cwV na C.2.2.2.2.1 hT hw rfl rfl hy hR) ⟨uP_blind, va_recv (q0 := 0) C.2.2.2.2.2.1 hP rfl rfl, hu⟩ rfl hna (hl.1.trans C.2.2.1) hst (lv_room hW) d hf T hT9 X with ⟨v, st₀, t, T', L, h0, X', hL, e1, e2, ⟨⟨v', σ', τ', o', hv, hp, hB⟩, hF⟩, hg⟩ | ⟨q, st₀, t, T', L, Xn, ce, h0, X', hL, e1, e2, ⟨⟨σ', τ', o', hp, hB⟩, hF⟩, hce, hcv, hcl, hg⟩
  · cases hv
    obtain ⟨k1, k2, k3⟩ := vx_keep h0 e1 hS (fun q _ h => hA q h) hA hL hF
    have h9 : J E (k + mc) (n + ms) (pc + 3) lv (v.toList ++ rest) (wX (eG E) ad σ' τ' ++ (S ++ z)) := j_swap (kk v σ' τ' o' hp)
    obtain ⟨t2, a1, b1⟩ := h9 T'.heap (locs ++ L) ls (by rw [e1]; exact hB.1) (uD_any (o' := zO) hD) k3 hl T' rfl X'
    exact ⟨t2, hg t2 a1, b1⟩
  · exact hp.elim
end JCALL
/-- the start of a contract over any world -/
theorem ctj_of {l : Launch} {y : MethodName} {ws ws' : List Cond} {cc : ByteArray} {maxL fr lo mc ms : Nat} {ret : Option FieldType} {As : List Value} {Γ : gG} {x : jS} {w : va_W} {post : jPost} (hy : plainName y.cls = true) (hw : ws = Cond.code y cc maxL ret :: ws') (hn : (lg_sl As).length ≤ maxL)
    (body : ∀ E : gE, jC E cc maxL y.cls ws x → jF E post mc ms ret → (eMt E).name = y.name → eG E = Γ → eL E = l → eR E = { frames := fr, cells := mc, slots := ms, locals := lo } → J E 0 0 0 (lv_args 0 As) [] w) : CtJ l y ws fr lo mc ms As Γ x w post := by
  intro sz
  refine Met.ofW (cc := cc) (maxL := maxL) (ret := ret) hy hw ?_
  intro p e s m args below meth c s₁ B hml hv
  obtain ⟨rfl, hsz, hP, hK, hD0, hZ, hN, hX⟩ := hv
  subst hsz
  have hlv := lv_entry As hn
  rw [lg_entry_eq]
  exact body (p, l, e, (headSpec ws { frames := fr, cells := mc, slots := ms, locals := lo }).room, s, m, As.toArray, below, meth, c, Γ, va_A w s.heap.size, _) ⟨B.exec, B.bytes, hml, findClass_of_methodNamed B.named, atoms_spec (ws := ws) B.pre, hK, fun q h => Or.inr h, hZ, hN, hX⟩ ⟨rfl, B.notSynchronized, B.returns⟩ (name_of_methodNamed B.named B.method).1 rfl rfl rfl s.heap [] _ hP hD0.self va_S.rf (by rw [hml]; exact hlv)
/-- a Sim's cells: a: addresses by slot (100: itself, 20 + i, 40 + i: the rows of stand, of join), m, mj: how long the rows word, joined, s: numbers by slot, t: rows by slot -/
def sWr (Γ : gG) (a : Nat → Nat) (m mj : Nat) (s : gS) (t : gT) (r7 r8 : Nat → Option Nat) : va_W := [(a 100, .inr (1, [.int (s 0), .int (s 1), .int (s 2), .int (s 3), .int (s 4), .int (s 5), .ref (a 6), .ref (a 7), .ref (a 8), .ref (a 9), .ref (a 10)])), (a 6, .inl (Γ.2.2.1, 12, .inl (t 6))), (a 7, .inl (Γ.2.2.2.2.1, 12, .inr (.inr (.inr (.inr (r7)))))), (a 8, .inl (Γ.2.2.2.2.1, 12, .inr (.inr (.inr (.inr (r8)))))), (a 9, .inl (Γ.2.2.1, m, .inl (t 9))), (a 10, .inl (Γ.2.2.2.1, mj, .inl (t 10))), (a 20, .inl (Γ.2.2.2.1, 12, .inl (t 20))), (a 21, .inl (Γ.2.2.2.1, 12, .inl (t 21))), (a 22, .inl (Γ.2.2.2.1, 12, .inl (t 22))), (a 23, .inl (Γ.2.2.2.1, 12, .inl (t 23))), (a 24, .inl (Γ.2.2.2.1, 12, .inl (t 24))), (a 25, .inl (Γ.2.2.2.1, 12, .inl (t 25))), (a 26, .inl (Γ.2.2.2.1, 12, .inl (t 26))), (a 27, .inl (Γ.2.2.2.1, 12, .inl (t 27))), (a 28, .inl (Γ.2.2.2.1, 12, .inl (t 28))), (a 29, .inl (Γ.2.2.2.1, 12, .inl (t 29))), (a 30, .inl (Γ.2.2.2.1, 12, .inl (t 30))), (a 31, .inl (Γ.2.2.2.1, 12, .inl (t 31))), (a 40, .inl (Γ.2.2.2.1, 12, .inl (t 40))), (a 41, .inl (Γ.2.2.2.1, 12, .inl (t 41))), (a 42, .inl (Γ.2.2.2.1, 12, .inl (t 42))), (a 43, .inl (Γ.2.2.2.1, 12, .inl (t 43))), (a 44, .inl (Γ.2.2.2.1, 12, .inl (t 44))), (a 45, .inl (Γ.2.2.2.1, 12, .inl (t 45))), (a 46, .inl (Γ.2.2.2.1, 12, .inl (t 46))), (a 47, .inl (Γ.2.2.2.1, 12, .inl (t 47))), (a 48, .inl (Γ.2.2.2.1, 12, .inl (t 48))), (a 49, .inl (Γ.2.2.2.1, 12, .inl (t 49))), (a 50, .inl (Γ.2.2.2.1, 12, .inl (t 50))), (a 51, .inl (Γ.2.2.2.1, 12, .inl (t 51)))]
abbrev aR (a : Nat → Nat) (b : Nat) : Nat → Option Nat := fun i => if i < 12 then some (a (b + i)) else none
def sW (Γ : gG) (a : Nat → Nat) (m mj : Nat) (s : gS) (t : gT) : va_W := sWr Γ a m mj s t (aR a 20) (aR a 40)
theorem sW_st (Γ : gG) (a : Nat → Nat) (m mj : Nat) (s : gS) (t : gT) (z : va_W) : ∀ i, i < 12 → (sW Γ a m mj s t ++ z)[6 + i]? = some (a (20 + i), .inl (Γ.2.2.2.1, 12, .inl (t (20 + i))))
  | 0, _ => rfl
  | 1, _ => rfl
  | 2, _ => rfl
  | 3, _ => rfl
  | 4, _ => rfl
  | 5, _ => rfl
  | 6, _ => rfl
  | 7, _ => rfl
  | 8, _ => rfl
  | 9, _ => rfl
  | 10, _ => rfl
  | 11, _ => rfl
  | i + 12, h => absurd h (by omega)
theorem sW_st_set (Γ : gG) (a : Nat → Nat) (m mj : Nat) (s : gS) (t : gT) (z : va_W) (j : Nat) (v : Int32) : ∀ i, i < 12 → (sW Γ a m mj s t ++ z).set (6 + i) (a (20 + i), .inl (Γ.2.2.2.1, 12, .inl (upd (t (20 + i)) j v))) = sW Γ a m mj s (uT t (20 + i) j v) ++ z
  | 0, _ => rfl
  | 1, _ => rfl
  | 2, _ => rfl
  | 3, _ => rfl
  | 4, _ => rfl
  | 5, _ => rfl
  | 6, _ => rfl
  | 7, _ => rfl
  | 8, _ => rfl
  | 9, _ => rfl
  | 10, _ => rfl
  | 11, _ => rfl
  | i + 12, h => absurd h (by omega)
theorem sW_jn (Γ : gG) (a : Nat → Nat) (m mj : Nat) (s : gS) (t : gT) (z : va_W) : ∀ i, i < 12 → (sW Γ a m mj s t ++ z)[18 + i]? = some (a (40 + i), .inl (Γ.2.2.2.1, 12, .inl (t (40 + i))))
  | 0, _ => rfl
  | 1, _ => rfl
  | 2, _ => rfl
  | 3, _ => rfl
  | 4, _ => rfl
  | 5, _ => rfl
  | 6, _ => rfl
  | 7, _ => rfl
  | 8, _ => rfl
  | 9, _ => rfl
  | 10, _ => rfl
  | 11, _ => rfl
  | i + 12, h => absurd h (by omega)
theorem sW_jn_set (Γ : gG) (a : Nat → Nat) (m mj : Nat) (s : gS) (t : gT) (z : va_W) (j : Nat) (v : Int32) : ∀ i, i < 12 → (sW Γ a m mj s t ++ z).set (18 + i) (a (40 + i), .inl (Γ.2.2.2.1, 12, .inl (upd (t (40 + i)) j v))) = sW Γ a m mj s (uT t (40 + i) j v) ++ z
  | 0, _ => rfl
  | 1, _ => rfl
  | 2, _ => rfl
  | 3, _ => rfl
  | 4, _ => rfl
  | 5, _ => rfl
  | 6, _ => rfl
  | 7, _ => rfl
  | 8, _ => rfl
  | 9, _ => rfl
  | 10, _ => rfl
  | 11, _ => rfl
  | i + 12, h => absurd h (by omega)
section JS
variable {E : gE} {cc : ByteArray} {nL : Nat} {own : String} {ws : List Cond} {x : jS} {k n pc : Nat} {lv : List (Nat × Value)} {st : List Value} {a : Nat → Nat} {m mj : Nat} {s : gS} {t : gT} {z : va_W}
/-- a number of a Sim behind the cells F -/
theorem jS_put (C : jC E cc nL own ws x) (F : va_W) (p c : Nat) {idx : Nat} {fs : List Value} {v : Int32} (d : decode cc pc = .ok (.putfield idx, 3)) (hin : ∀ w ∈ wsX10, w ∈ ws) (hk : c < 11) (hw : Cond.fieldLink own idx RX1 (TX1 c).2.1 (TX1 c).2.2.1 ∈ ws) (hT : (TX1 c).1 = RX1) (hf : (TX1 c).2.2.2 = false) (hd : parseFieldDescriptor (TX1 c).2.2.1 = some .int) (he : (F ++ (sW (eG E) a m mj s t ++ z))[p]? = some (a 100, .inr (1, fs))) (hlen : c < fs.length) (hw' : (F ++ (sW (eG E) a m mj s t ++ z)).set p (a 100, .inr (1, fs.set c (.int v))) = F ++ (sW (eG E) a m mj (uS s c v) t ++ z)) (kk : J E k n (pc + 3) lv st (F ++ (sW (eG E) a m mj (uS s c v) t ++ z))) : J E k n pc lv (.int v :: .ref (a 100) :: st) (F ++ (sW (eG E) a m mj s t ++ z)) :=
  j_put C p c d hin hk hw hT hf he hd rfl rfl hlen hw' kk
/-- letters, words (c = 6, 9), joined (c = 10) of a Sim behind the cells F -/
theorem jS_iast (C : jC E cc nL own ws x) (F : va_W) (p c j : Nat) {N : Nat} {i v : Int32} (d : decode cc pc = .ok (.iastore, 1)) (ha : (F ++ (sW (eG E) a m mj s t ++ z))[p]? = some (a c, .inl (jC0 E, N, .inl (t c)))) (he : i = nI j) (hj : j < N) (hN : N < 1000) (hw : (F ++ (sW (eG E) a m mj s t ++ z)).set p (a c, .inl (jC0 E, N, .inl (upd (t c) j v))) = F ++ (sW (eG E) a m mj s (uT t c j v) ++ z)) (kk : J E k n (pc + 1) lv st (F ++ (sW (eG E) a m mj s (uT t c j v) ++ z))) : J E k n pc lv (.int v :: .int i :: .ref (a c) :: st) (F ++ (sW (eG E) a m mj s t ++ z)) := j_iast C p j d ha he hj hN hw kk
theorem jS_zast (C : jC E cc nL own ws x) (F : va_W) (p c j : Nat) {N : Nat} {i v : Int32} (d : decode cc pc = .ok (.bastore, 1)) (ha : (F ++ (sW (eG E) a m mj s t ++ z))[p]? = some (a c, .inl (jC1 E, N, .inl (t c)))) (he : i = nI j) (hj : j < N) (hN : N < 1000) (hv : v = 0 ∨ v = 1) (hw : (F ++ (sW (eG E) a m mj s t ++ z)).set p (a c, .inl (jC1 E, N, .inl (upd (t c) j v))) = F ++ (sW (eG E) a m mj s (uT t c j v) ++ z)) (kk : J E k n (pc + 1) lv st (F ++ (sW (eG E) a m mj s (uT t c j v) ++ z))) : J E k n pc lv (.int v :: .int i :: .ref (a c) :: st) (F ++ (sW (eG E) a m mj s t ++ z)) := j_zast C p j d ha he hj hN hv hw kk
/-- an array in front, behind another one -/
theorem jF_iast (C : jC E cc nL own ws x) (j : Nat) {q N : Nat} {f : Nat → Int32} {i v : Int32} {w : va_W} (d : decode cc pc = .ok (.iastore, 1)) (he : i = nI j) (hj : j < N) (hN : N < 1000) (kk : J E k n (pc + 1) lv st ((q, .inl (jC0 E, N, .inl (upd f j v))) :: w)) : J E k n pc lv (.int v :: .int i :: .ref q :: st) ((q, .inl (jC0 E, N, .inl f)) :: w) := j_iast C 0 j d rfl he hj hN rfl kk
theorem jF_iast1 (C : jC E cc nL own ws x) (j : Nat) {q N : Nat} {f : Nat → Int32} {i v : Int32} {c0 : Nat × va_E} {w : va_W} (d : decode cc pc = .ok (.iastore, 1)) (he : i = nI j) (hj : j < N) (hN : N < 1000) (kk : J E k n (pc + 1) lv st (c0 :: (q, .inl (jC0 E, N, .inl (upd f j v))) :: w)) : J E k n pc lv (.int v :: .int i :: .ref q :: st) (c0 :: (q, .inl (jC0 E, N, .inl f)) :: w) := j_iast C 1 j d rfl he hj hN rfl kk
theorem jF_zast (C : jC E cc nL own ws x) (j : Nat) {q N : Nat} {f : Nat → Int32} {i v : Int32} {w : va_W} (d : decode cc pc = .ok (.bastore, 1)) (he : i = nI j) (hj : j < N) (hN : N < 1000) (hv : v = 0 ∨ v = 1) (kk : J E k n (pc + 1) lv st ((q, .inl (jC1 E, N, .inl (upd f j v))) :: w)) : J E k n pc lv (.int v :: .int i :: .ref q :: st) ((q, .inl (jC1 E, N, .inl f)) :: w) := j_zast C 0 j d rfl he hj hN hv rfl kk
/-- the rows of stand (b = 20, f = 6), of join (b = 40, f = 18) -/
theorem jS_row (C : jC E cc nL own ws x) (p c b i : Nat) {w : va_W} {y : Int32} (d : decode cc pc = .ok (.aaload, 1)) (ha : w[p]? = some (a c, .inl (jC2 E, 12, .inr (.inr (.inr (.inr (fun i => if i < 12 then some (a (b + i)) else none))))))) (he : y = nI i) (hi : i < 12) (kk : J E k n (pc + 1) lv (.ref (a (b + i)) :: st) w) : J E k n pc lv (.int y :: .ref (a c) :: st) w := j_aald C p i d ha he hi (by decide) (if_pos hi) kk
theorem jS_st (C : jC E cc nL own ws x) (F : va_W) (i j : Nat) {y : Int32} (d : decode cc pc = .ok (.baload, 1)) (he : y = nI j) (hi : i < 12) (hj : j < 12) (kk : J E k n (pc + 1) lv (.int (t (20 + i) j) :: st) (F ++ (sW (eG E) a m mj s t ++ z))) : J E k n pc lv (.int y :: .ref (a (20 + i)) :: st) (F ++ (sW (eG E) a m mj s t ++ z)) := j_zald C (F.length + (6 + i)) j d (by rw [List.getElem?_append_right (Nat.le_add_right _ _), Nat.add_sub_cancel_left]; exact sW_st (eG E) a m mj s t z i hi) he hj (by decide) kk
theorem jS_jn (C : jC E cc nL own ws x) (F : va_W) (i j : Nat) {y : Int32} (d : decode cc pc = .ok (.baload, 1)) (he : y = nI j) (hi : i < 12) (hj : j < 12) (kk : J E k n (pc + 1) lv (.int (t (40 + i) j) :: st) (F ++ (sW (eG E) a m mj s t ++ z))) : J E k n pc lv (.int y :: .ref (a (40 + i)) :: st) (F ++ (sW (eG E) a m mj s t ++ z)) := j_zald C (F.length + (18 + i)) j d (by rw [List.getElem?_append_right (Nat.le_add_right _ _), Nat.add_sub_cancel_left]; exact sW_jn (eG E) a m mj s t z i hi) he hj (by decide) kk
theorem jS_set {F W W' : va_W} {q : Nat} {e : Nat × va_E} (h : W.set q e = W') : (F ++ W).set (F.length + q) e = F ++ W' := by
  rw [List.set_append_right _ _ (Nat.le_add_right _ _), Nat.add_sub_cancel_left, h]
theorem jS_stput (C : jC E cc nL own ws x) (F : va_W) (i j : Nat) {y v : Int32} (d : decode cc pc = .ok (.bastore, 1)) (he : y = nI j) (hi : i < 12) (hj : j < 12) (hv : v = 0 ∨ v = 1) (kk : J E k n (pc + 1) lv st (F ++ (sW (eG E) a m mj s (uT t (20 + i) j v) ++ z))) : J E k n pc lv (.int v :: .int y :: .ref (a (20 + i)) :: st) (F ++ (sW (eG E) a m mj s t ++ z)) := j_zast C (F.length + (6 + i)) j d (by rw [List.getElem?_append_right (Nat.le_add_right _ _), Nat.add_sub_cancel_left]; exact sW_st (eG E) a m mj s t z i hi) he hj (by decide) hv (jS_set (sW_st_set (eG E) a m mj s t z j v i hi)) kk
theorem jS_jnput (C : jC E cc nL own ws x) (F : va_W) (i j : Nat) {y v : Int32} (d : decode cc pc = .ok (.bastore, 1)) (he : y = nI j) (hi : i < 12) (hj : j < 12) (hv : v = 0 ∨ v = 1) (kk : J E k n (pc + 1) lv st (F ++ (sW (eG E) a m mj s (uT t (40 + i) j v) ++ z))) : J E k n pc lv (.int v :: .int y :: .ref (a (40 + i)) :: st) (F ++ (sW (eG E) a m mj s t ++ z)) := j_zast C (F.length + (18 + i)) j d (by rw [List.getElem?_append_right (Nat.le_add_right _ _), Nat.add_sub_cancel_left]; exact sW_jn (eG E) a m mj s t z i hi) he hj (by decide) hv (jS_set (sW_jn_set (eG E) a m mj s t z j v i hi)) kk
theorem jT_iast (C : jC E cc nL own ws x) (j : Nat) {q N : Nat} {f : Nat → Int32} {i v : Int32} (d : decode cc pc = .ok (.iastore, 1)) (he : i = nI j) (hj : j < N) (hN : N < 1000) (kk : J E k n (pc + 1) lv st (sW (eG E) a m mj s t ++ ((q, .inl (jC0 E, N, .inl (upd f j v))) :: z))) : J E k n pc lv (.int v :: .int i :: .ref q :: st) (sW (eG E) a m mj s t ++ ((q, .inl (jC0 E, N, .inl f)) :: z)) := j_iast C 30 j d rfl he hj hN rfl kk
theorem jT_iast1 (C : jC E cc nL own ws x) (j : Nat) {q N : Nat} {f : Nat → Int32} {i v : Int32} {c0 : Nat × va_E} (d : decode cc pc = .ok (.iastore, 1)) (he : i = nI j) (hj : j < N) (hN : N < 1000) (kk : J E k n (pc + 1) lv st (sW (eG E) a m mj s t ++ (c0 :: (q, .inl (jC0 E, N, .inl (upd f j v))) :: z))) : J E k n pc lv (.int v :: .int i :: .ref q :: st) (sW (eG E) a m mj s t ++ (c0 :: (q, .inl (jC0 E, N, .inl f)) :: z)) := j_iast C 31 j d rfl he hj hN rfl kk
theorem jT_zast (C : jC E cc nL own ws x) (j : Nat) {q N : Nat} {f : Nat → Int32} {i v : Int32} (d : decode cc pc = .ok (.bastore, 1)) (he : i = nI j) (hj : j < N) (hN : N < 1000) (hv : v = 0 ∨ v = 1) (kk : J E k n (pc + 1) lv st (sW (eG E) a m mj s t ++ ((q, .inl (jC1 E, N, .inl (upd f j v))) :: z))) : J E k n pc lv (.int v :: .int i :: .ref q :: st) (sW (eG E) a m mj s t ++ ((q, .inl (jC1 E, N, .inl f)) :: z)) := j_zast C 30 j d rfl he hj hN hv rfl kk
/-- the cell behind the Sim is forgotten -/
theorem j_drop1 {S c : va_W} {e : Nat × va_E} (kk : J E k n pc lv st (S ++ c)) : J E k n pc lv st (S ++ (e :: c)) := j_swap (a := S) (b := [e]) (c := c) (j_drop kk)
/-- the new cell goes behind the Sim -/
theorem j_behind {S c : va_W} {e : Nat × va_E} (kk : J E k n pc lv st (S ++ (e :: c))) : J E k n pc lv st (e :: (S ++ c)) := j_swap (a := [e]) (b := S) (c := c) kk
def aU (a : Nat → Nat) (c q : Nat) : Nat → Nat := fun x => if x = c then q else a x
/-- sim.word = .., sim.joined = .. -/
theorem aU_row {a : Nat → Nat} {b c q : Nat} (h : c < 20) (hb : 20 ≤ b) : aR (aU a c q) b = aR a b := by
  funext i
  have e : aU a c q (b + i) = a (b + i) := if_neg (show ¬ b + i = c by omega)
  show (if i < 12 then some (aU a c q (b + i)) else none) = _
  rw [e]
theorem jS_word (C : jC E cc nL own ws x) {idx q N : Nat} {f : Nat → Int32} (d : decode cc pc = .ok (.putfield idx, 3)) (hin : ∀ w ∈ wsX10, w ∈ ws) (hw : Cond.fieldLink own idx RX1 (TX1 9).2.1 (TX1 9).2.2.1 ∈ ws) (kk : J E k n (pc + 3) lv st (sW (eG E) (aU a 9 q) N mj s (uA1 t 9 f) ++ z)) : J E k n pc lv (.ref q :: .ref (a 100) :: st) (sW (eG E) a m mj s t ++ ((q, .inl (jC0 E, N, .inl f)) :: z)) := by
  refine j_put C 0 9 (ty := .array .int) d hin (by decide) hw rfl rfl rfl (by decide +kernel) rfl rfl (Nat.le_of_ble_eq_true rfl) rfl ?_
  have e : sW (eG E) (aU a 9 q) N mj s (uA1 t 9 f) = sWr (eG E) (aU a 9 q) N mj s (uA1 t 9 f) (aR a 20) (aR a 40) := by
    unfold sW
    rw [aU_row (c := 9) (by decide) (by decide), aU_row (c := 9) (by decide) (by decide)]
  rw [e] at kk
  exact j_part (X := ((sW (eG E) a m mj s t).set 0 (a 100, .inr (1, [.int (s 0), .int (s 1), .int (s 2), .int (s 3), .int (s 4), .int (s 5), .ref (a 6), .ref (a 7), .ref (a 8), .ref (a 9), .ref (a 10)].set 9 (.ref q)))) ++ [(q, .inl (jC0 E, N, .inl f))]) (cx := sWr (eG E) (aU a 9 q) N mj s (uA1 t 9 f) (aR a 20) (aR a 40)) (pl := z) [0, 1, 2, 3, 30, 5, 6, 7, 8, 9, 10, 11, 12, 13, 14, 15, 16, 17, 18, 19, 20, 21, 22, 23, 24, 25, 26, 27, 28, 29] (by decide) rfl kk
theorem jS_joined (C : jC E cc nL own ws x) {idx q N : Nat} {f : Nat → Int32} (d : decode cc pc = .ok (.putfield idx, 3)) (hin : ∀ w ∈ wsX10, w ∈ ws) (hw : Cond.fieldLink own idx RX1 (TX1 10).2.1 (TX1 10).2.2.1 ∈ ws) (kk : J E k n (pc + 3) lv st (sW (eG E) (aU a 10 q) m N s (uA1 t 10 f) ++ z)) : J E k n pc lv (.ref q :: .ref (a 100) :: st) (sW (eG E) a m mj s t ++ ((q, .inl (jC1 E, N, .inl f)) :: z)) := by
  refine j_put C 0 10 (ty := .array .boolean) d hin (by decide) hw rfl rfl rfl (by decide +kernel) rfl rfl (Nat.le_of_ble_eq_true rfl) rfl ?_
  have e : sW (eG E) (aU a 10 q) m N s (uA1 t 10 f) = sWr (eG E) (aU a 10 q) m N s (uA1 t 10 f) (aR a 20) (aR a 40) := by
    unfold sW
    rw [aU_row (c := 10) (by decide) (by decide), aU_row (c := 10) (by decide) (by decide)]
  rw [e] at kk
  exact j_part (X := ((sW (eG E) a m mj s t).set 0 (a 100, .inr (1, [.int (s 0), .int (s 1), .int (s 2), .int (s 3), .int (s 4), .int (s 5), .ref (a 6), .ref (a 7), .ref (a 8), .ref (a 9), .ref (a 10)].set 10 (.ref q)))) ++ [(q, .inl (jC1 E, N, .inl f))]) (cx := sWr (eG E) (aU a 10 q) m N s (uA1 t 10 f) (aR a 20) (aR a 40)) (pl := z) [0, 1, 2, 3, 4, 30, 6, 7, 8, 9, 10, 11, 12, 13, 14, 15, 16, 17, 18, 19, 20, 21, 22, 23, 24, 25, 26, 27, 28, 29] (by decide) rfl kk
theorem j_dropL (S : va_W) {c : va_W} (kk : J E k n pc lv st c) : J E k n pc lv st (S ++ c) := j_part (X := S) (cx := []) (pl := c) [] rfl rfl kk
end JS
section JCALL2
variable {E : gE} {cc : ByteArray} {nL : Nat} {own : String} {ws : List Cond} {x x' : jS} {k n pc : Nat} {lv : List (Nat × Value)} {st : List Value} {w w1 : va_W}
variable {fr lo mc ms idx maxL na : Nat} {y : MethodName} {bytes : ByteArray} {ret : Option FieldType} {wy wy' : List Cond} {q0 b : Nat} {fs : List Value} {As rest : List Value}
/-- a Sim's method that answers r, the world w1 behind it -/
theorem j_callE {v : Option Value} (C : jC E cc nL own ws x) (d : decode cc pc = .ok (.invokevirtual idx, 3)) (hM : CtJ (eL E) y wy fr lo mc ms (.ref b :: As) (eG E) none w (jE v w1)) (hT : GoodIn ws (wsV own idx RX1 y wy)) (hw : wy = Cond.code y bytes maxL ret :: wy') (hna : As.length = na) (hy : y.cls = RX1 ∧ y.cls ≠ "java/lang/invoke/MethodHandle" ∧ y.cls ≠ "java/lang/invoke/VarHandle" ∧ (parseMethodDescriptor y.desc).map (fun d => d.parameters.length) = some na) (hq : w[q0]? = some (b, .inr (1, fs))) (hst : st = As.reverse ++ .ref b :: rest) (hW : (rest.map fun v => v.category).sum ≤ 8) (hR : fr + 1 ≤ (eR E).frames ∧ 8 + (maxL + 11) + lo ≤ (eR E).locals) (hf : k + mc ≤ (eR E).cells ∧ n + ms ≤ (eR E).slots) (kk : J E (k + mc) (n + ms) (pc + 3) lv (v.toList ++ rest) w1) : J E k n pc lv st w := j_callV C (jX_none C.2.2.2.2.2.2.2.2.2) d hM hT hw hna hy hq rfl hst hW hR hf (fun v' w' h => by
  obtain ⟨rfl, rfl⟩ := h
  exact kk)
theorem j_callP {post : jPost} (C : jC E cc nL own ws x) (d : decode cc pc = .ok (.invokevirtual idx, 3)) (hM : CtJ (eL E) y wy fr lo mc ms (.ref b :: As) (eG E) none w post) (hT : GoodIn ws (wsV own idx RX1 y wy)) (hw : wy = Cond.code y bytes maxL ret :: wy') (hna : As.length = na) (hy : y.cls = RX1 ∧ y.cls ≠ "java/lang/invoke/MethodHandle" ∧ y.cls ≠ "java/lang/invoke/VarHandle" ∧ (parseMethodDescriptor y.desc).map (fun d => d.parameters.length) = some na) (hq : w[q0]? = some (b, .inr (1, fs))) (hst : st = As.reverse ++ .ref b :: rest) (hW : (rest.map fun v => v.category).sum ≤ 8) (hR : fr + 1 ≤ (eR E).frames ∧ 8 + (maxL + 11) + lo ≤ (eR E).locals) (hf : k + mc ≤ (eR E).cells ∧ n + ms ≤ (eR E).slots) (kk : ∀ v w', post v w' → J E (k + mc) (n + ms) (pc + 3) lv (v.toList ++ rest) w') : J E k n pc lv st w := j_callV C (jX_none C.2.2.2.2.2.2.2.2.2) d hM hT hw hna hy hq rfl hst hW hR hf kk
/-- the class's method with the answer v, its world σ1 τ1 behind it -/
theorem j_callXE {v : Option Value} {ad : Nat → Nat} {σ σ1 : gS} {τ τ1 : gT} {o1 : gO} {S z : va_W} (C : jC E cc nL own ws x) (d : decode cc pc = .ok (.invokevirtual idx, 3)) (hM : Ct (eL E) y wy fr lo mc ms (.ref (ad 100) :: As) (jG (eG E) ad (S ++ z)) σ τ zO (pE v σ1 τ1 o1) noX) (hT : GoodIn ws (wsV own idx RX0 y wy)) (hw : wy = Cond.code y bytes maxL ret :: wy') (hna : As.length = na) (hy : y.cls = RX0 ∧ y.cls ≠ "java/lang/invoke/MethodHandle" ∧ y.cls ≠ "java/lang/invoke/VarHandle" ∧ (parseMethodDescriptor y.desc).map (fun d => d.parameters.length) = some na) (hst : st = As.reverse ++ .ref (ad 100) :: rest) (hW : (rest.map fun v => v.category).sum ≤ 8) (hR : fr + 1 ≤ (eR E).frames ∧ 8 + (maxL + 11) + lo ≤ (eR E).locals) (hf : k + mc ≤ (eR E).cells ∧ n + ms ≤ (eR E).slots) (kk : J E (k + mc) (n + ms) (pc + 3) lv (v.toList ++ rest) (S ++ (wX (eG E) ad σ1 τ1 ++ z))) : J E k n pc lv st (S ++ (wX (eG E) ad σ τ ++ z)) := j_callX C d hM hT hw hna hy hst hW hR hf (fun v' σ' τ' o' h => by
  obtain ⟨rfl, rfl, rfl, rfl⟩ := h
  exact kk)
theorem j_callXi {P : Int32 → gS → gT → gO → Prop} {ad : Nat → Nat} {σ : gS} {τ : gT} {S z : va_W} (C : jC E cc nL own ws x) (d : decode cc pc = .ok (.invokevirtual idx, 3)) (hM : Ct (eL E) y wy fr lo mc ms (.ref (ad 100) :: As) (jG (eG E) ad (S ++ z)) σ τ zO (pI P) noX) (hT : GoodIn ws (wsV own idx RX0 y wy)) (hw : wy = Cond.code y bytes maxL ret :: wy') (hna : As.length = na) (hy : y.cls = RX0 ∧ y.cls ≠ "java/lang/invoke/MethodHandle" ∧ y.cls ≠ "java/lang/invoke/VarHandle" ∧ (parseMethodDescriptor y.desc).map (fun d => d.parameters.length) = some na) (hst : st = As.reverse ++ .ref (ad 100) :: rest) (hW : (rest.map fun v => v.category).sum ≤ 8) (hR : fr + 1 ≤ (eR E).frames ∧ 8 + (maxL + 11) + lo ≤ (eR E).locals) (hf : k + mc ≤ (eR E).cells ∧ n + ms ≤ (eR E).slots) (kk : ∀ r σ' τ' o', P r σ' τ' o' → J E (k + mc) (n + ms) (pc + 3) lv (.int r :: rest) (S ++ (wX (eG E) ad σ' τ' ++ z))) : J E k n pc lv st (S ++ (wX (eG E) ad σ τ ++ z)) := j_callX C d hM hT hw hna hy hst hW hR hf (fun v' σ' τ' o' h => by
  obtain ⟨r, rfl, h⟩ := h
  exact kk r σ' τ' o' h)
theorem j_callSE {v : Option Value} (C : jC E cc nL own ws x) (hx : jX x' (eA E) (eS E) (eS E).heap) (d : decode cc pc = .ok (.invokestatic idx, 3)) (hM : CtJ (eL E) y wy fr lo mc ms As (eG E) x' w (jE v w1)) (hT : GoodIn ws (va_wsS own idx y wy)) (hw : wy = Cond.code y bytes maxL ret :: wy') (hna : As.length = na) (hy : y.cls ≠ "java/lang/invoke/MethodHandle" ∧ y.cls ≠ "java/lang/invoke/VarHandle" ∧ (parseMethodDescriptor y.desc).map (fun d => d.parameters.length) = some na) (hst : st = As.reverse ++ rest) (hW : (rest.map fun v => v.category).sum ≤ 8) (hR : fr + 1 ≤ (eR E).frames ∧ 8 + (maxL + 11) + lo ≤ (eR E).locals) (hf : k + mc ≤ (eR E).cells ∧ n + ms ≤ (eR E).slots) (kk : J E (k + mc) (n + ms) (pc + 3) lv (v.toList ++ rest) w1) : J E k n pc lv st w := j_callS C hx d hM hT hw hna hy hst hW hR hf (fun v' w' h => by
  obtain ⟨rfl, rfl⟩ := h
  exact kk)
end JCALL2
