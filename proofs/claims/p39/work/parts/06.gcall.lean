/-! calls, throws, the start of a contract, over the one world -/
theorem uZ_pass {A B : Nat → Prop} {s U : State} {H : Heap} {locs : List Loc} (h : uZ A s s.heap) (hS : va_S A s.heap H locs) (hW : s.WarmedH U.vm) (hU : U.heap = H) (hBA : ∀ q, B q → A q) : uZ B U U.heap := by
  rw [hU]
  exact ⟨((h.1.moved hW.alike).kept hS.2.1).narrow hBA, ((h.2.1.moved hW.alike).kept hS.2.1).narrow hBA, fun q hq => by
    obtain ⟨sa, hs⟩ := h.2.2.1 q hq
    exact ⟨sa, vk_R.warm hW hs⟩, fun X hX => va_Nw.warmC hW (h.2.2.2.1 X hX), fun x hx => va_Nw.warmD hW (h.2.2.2.2 x hx)⟩
theorem uP_blind {As : List Value} {Γ : gG} {sz : Nat} {σ : gS} {τ : gT} {o : gO} : FrameBlind (va_Pc As (uP Γ sz σ τ o)) := fun a U g mk q => by
  obtain ⟨q0, q1, ⟨qP, qK⟩, qD, q2, q3, q4, q5, q6⟩ := q
  exact ⟨q0, q1, ⟨qP, va_K.moved (u := U) (U := U.calling g mk a) (Vm.Alike.refl U.vm) qK⟩, qD, vx_Zq.moved (u := U) (U := U.calling g mk a) (Vm.Alike.refl U.vm) q2, vx_Zq.moved (u := U) (U := U.calling g mk a) (Vm.Alike.refl U.vm) q3, fun q hq => by
    obtain ⟨sa, hs⟩ := q4 q hq
    exact ⟨sa, vk_R.same (u := U) (U := U.calling g mk a) rfl hs⟩, fun X hX => va_Nw.same (u := U) (U := U.calling g mk a) rfl rfl (q5 X hX), fun x hx => va_Nw.same (u := U) (U := U.calling g mk a) rfl rfl (q6 x hx)⟩
section GCALL
variable {E : gE} {cc : ByteArray} {nL : Nat} {own : String} {ws : List Cond} {k n pc : Nat} {lv : List (Nat × Value)} {st : List Value} {σ : gS} {τ : gT} {o : gO}
theorem uAd_in (C : gC E cc nL own ws) {H : Heap} {locs : List Loc} (hS : va_S (eA E) (eS E).heap H locs) : ∀ q, uAd (eG E) H.size q → eA E q := fun q h => by
  rcases h with ⟨j, e, h⟩ | h
  · exact C.2.2.2.2.2.2.2.1.2 j (q, e) h
  · exact C.2.2.2.2.2.2.1 q (Nat.le_trans hS.1 h)
theorem g_pre (C : gC E cc nL own ws) {H : Heap} {locs : List Loc} {As : List Value} (hP : va_P (eG E).1 vwCl (wW (eG E) σ τ o) H) (hS : va_S (eA E) (eS E).heap H locs) : ∀ U : State, U.heap = H → (eS E).WarmedH U.vm → va_Pc As (uP (eG E) H.size σ τ o) As.toArray U := fun U hU hW =>
  ⟨rfl, by rw [hU], ⟨by rw [hU]; exact hP, va_K.moved hW.alike C.2.2.2.2.2.1⟩, C.2.2.2.2.2.2.2.1.weaken (fun _ _ _ _ => trivial), uZ_pass C.2.2.2.2.2.2.2.2.1 hS hW hU (uAd_in C hS)⟩
theorem g_run {post : gPost} {px : gPX} {mc ms : Nat} {rest : List Value} {a : Array Value} (C : gC E cc nL own ws)
    (hr : ∀ (H : Heap) (locs : List Loc) (ls : Array Slot), va_P (eG E).1 vwCl (wW (eG E) σ τ o) H → va_S (eA E) (eS E).heap H locs → lv_has ls (eC E).maxLocals lv →
      vx_Run (eP E) (eL E) (eE E) (eR E) (eS E) (eM E) (eV E) (eB E) (eMt E) (eC E) H locs k n mc ms (F0 (eM E) pc ls st) rest (uQ (eG E) (uAd (eG E) H.size) post a) (uX (eG E) (uAd (eG E) H.size) px) (uAd (eG E) H.size))
    (kx : ∀ X σ' τ' o', px X σ' τ' o' → GX E (k + mc) (n + ms) pc lv rest σ' τ' o' X)
    (kk : ∀ v σ' τ' o', post v σ' τ' o' → G E (k + mc) (n + ms) (pc + 3) lv (v.toList ++ rest) σ' τ' o') : G E k n pc lv st σ τ o := by
  intro H locs ls hP hS hl T hT X
  have hA := uAd_in C hS
  rcases hr H locs ls hP hS hl T hT X with ⟨v, st₀, t, T', L, h0, X', hL, e1, e2, ⟨⟨v', σ', τ', o', hv, hp, hB⟩, hF⟩, hg⟩ | ⟨q, st₀, t, T', L, Xn, ce, h0, X', hL, e1, e2, ⟨⟨σ', τ', o', hp, hB⟩, hF⟩, hce, hcv, hcl, hg⟩
  · cases hv
    obtain ⟨k1, k2, k3⟩ := vx_keep h0 e1 hS (fun q _ h => hA q h) hA hL hF
    obtain ⟨t2, a1, b1⟩ := kk v σ' τ' o' hp T'.heap (locs ++ L) ls (by rw [e1]; exact hB.1) k3 hl T' rfl X'
    exact ⟨t2, hg t2 a1, b1⟩
  · obtain ⟨k1, k2, k3⟩ := vx_keep h0 e1 hS (fun q _ h => hA q h) hA hL hF
    obtain ⟨t2, a1, b1⟩ := kx Xn σ' τ' o' hp T'.heap (locs ++ L) ls q ce (by rw [e1]; exact hB.1) k3 hl (by rw [e1]; exact hce) hcv hcl T' rfl X'
    exact ⟨t2, hg.trans a1, b1⟩
/-- a call of an instance method of the class (Cl, ci, q0 = RX0, 0, 0) or the reference (RX1, 1, 12) -/
theorem g_callV {post : gPost} {px : gPX} {fr lo mc ms idx maxL na : Nat} {y : MethodName} {bytes : ByteArray} {ret : Option FieldType} {wy wy' : List Cond} {Cl : String} {T : u_T} {N ci q0 b : Nat} {fs : List Value} {As rest : List Value} (C : gC E cc nL own ws)
    (d : decode cc pc = .ok (.invokevirtual idx, 3)) (hM : Ct (eL E) y wy fr lo mc ms (.ref b :: As) (eG E) σ τ o post px) (hT : GoodIn ws (wsV own idx Cl y wy)) (hw : wy = Cond.code y bytes maxL ret :: wy')
    (hna : As.length = na) (hy : y.cls = Cl ∧ y.cls ≠ "java/lang/invoke/MethodHandle" ∧ y.cls ≠ "java/lang/invoke/VarHandle" ∧ (parseMethodDescriptor y.desc).map (fun d => d.parameters.length) = some na)
    (hq : (wW (eG E) σ τ o)[q0]? = some (b, .inr (ci, fs))) (hc : vwCl[ci]? = some (Cl, T, N))
    (hst : st = As.reverse ++ .ref b :: rest) (hW : (rest.map fun v => v.category).sum ≤ 8)
    (hR : fr + 1 ≤ (eR E).frames ∧ 8 + (maxL + 11) + lo ≤ (eR E).locals) (hf : k + mc ≤ (eR E).cells ∧ n + ms ≤ (eR E).slots)
    (kx : ∀ X σ' τ' o', px X σ' τ' o' → GX E (k + mc) (n + ms) pc lv rest σ' τ' o' X)
    (kk : ∀ v σ' τ' o', post v σ' τ' o' → G E (k + mc) (n + ms) (pc + 3) lv (v.toList ++ rest) σ' τ' o') : G E k n pc lv st σ τ o := by
  refine g_run (a := (Value.ref b :: As).toArray) C (fun H locs ls hP hS hl => ?_) kx kk
  exact vx_runV (As := As) (rest := rest) ⟨C.1, C.2.1, C.2.2.1, C.2.2.2.1, C.2.2.2.2.1⟩ (hM H.size) (cwV na C.2.2.2.2.1 hT hw rfl rfl hy hR) ⟨uP_blind, va_recv C.2.2.2.2.2.1 hP hc hq, g_pre C hP hS⟩ rfl hna (hl.1.trans C.2.2.1) hst (lv_room hW) d hf
/-- a call of a static method of the own class or another -/
theorem g_callS {post : gPost} {px : gPX} {fr lo mc ms idx maxL na : Nat} {y : MethodName} {bytes : ByteArray} {ret : Option FieldType} {wy wy' : List Cond} {As rest : List Value} (C : gC E cc nL own ws)
    (d : decode cc pc = .ok (.invokestatic idx, 3)) (hM : Ct (eL E) y wy fr lo mc ms As (eG E) σ τ o post px) (hT : GoodIn ws (va_wsS own idx y wy)) (hw : wy = Cond.code y bytes maxL ret :: wy')
    (hna : As.length = na) (hy : y.cls ≠ "java/lang/invoke/MethodHandle" ∧ y.cls ≠ "java/lang/invoke/VarHandle" ∧ (parseMethodDescriptor y.desc).map (fun d => d.parameters.length) = some na)
    (hst : st = As.reverse ++ rest) (hW : (rest.map fun v => v.category).sum ≤ 8)
    (hR : fr + 1 ≤ (eR E).frames ∧ 8 + (maxL + 11) + lo ≤ (eR E).locals) (hf : k + mc ≤ (eR E).cells ∧ n + ms ≤ (eR E).slots)
    (kx : ∀ X σ' τ' o', px X σ' τ' o' → GX E (k + mc) (n + ms) pc lv rest σ' τ' o' X)
    (kk : ∀ v σ' τ' o', post v σ' τ' o' → G E (k + mc) (n + ms) (pc + 3) lv (v.toList ++ rest) σ' τ' o') : G E k n pc lv st σ τ o := by
  refine g_run (a := As.toArray) C (fun H locs ls hP hS hl => ?_) kx kk
  exact vx_runS (As := As) (rest := rest) ⟨C.1, C.2.1, C.2.2.1, C.2.2.2.1, C.2.2.2.2.1⟩ (hM H.size) (va_cwS na C.2.2.2.2.1 hT hw rfl rfl hy hR) ⟨uP_blind, g_pre C hP hS⟩ rfl hna (hl.1.trans C.2.2.1) hst (lv_room hW) d hf
/-- not caught here: on to the caller -/
theorem gx_out {post : gPost} {px : gPX} {mc ms : Nat} {ret : Option FieldType} {X : String} (C : gC E cc nL own ws) (F : gF E post px mc ms ret) (ht : ∀ x ∈ (eC E).exceptionTable.toList, False) (hk : k ≤ mc) (hn : n ≤ ms) (hp : px X σ τ o) : GX E k n pc lv st σ τ o X := fun H locs ls q ce hP hS hl hce hcv hcl => by
  rw [F.1]
  exact vx_out (fun x hx => (ht x hx).elim) F.2.1 hce hcv hcl (fun t ht hA => ⟨⟨σ, τ, o, hp, by rw [ht]; exact hP, va_K.moved hA C.2.2.2.2.2.1⟩, hS.F ht⟩) hS.2.2 hk hn
/-- throw new X("text") -/
theorem g_throw {post : gPost} {px : gPX} {mc ms ik is ic : Nat} {ret : Option FieldType} {cls text : String} {names : List String} (C : gC E cc nL RX0 ws) (F : gF E post px mc ms ret) (ht : ∀ x ∈ (eC E).exceptionTable.toList, False)
    (d0 : decode cc pc = .ok (.new ik, 3)) (d3 : decode cc (pc + 3) = .ok (.dup, 1)) (d4 : decode cc (pc + 4) = .ok (.ldc is, 2)) (d6 : decode cc (pc + 6) = .ok (.invokespecial ic, 3)) (d9 : decode cc (pc + 9) = .ok (.athrow, 1))
    (hcls : Bundle.fit cls = true) (hnames : ∀ n ∈ names, Bundle.fit n = true) (hk : Cond.classLink RX0 ik cls ∈ ws) (hini : Cond.initialized cls ∈ ws) (hK : (is, text) ∈ gK)
    (hX : cls ∈ gXc) (hall : (vx_atS RX0 ic cls names).all vx_ot = true ∧ ∀ w ∈ (vx_atS RX0 ic cls names).filter (fun w => !goodWord w), w ∈ Cond.castable cls cls :: gDc.map Cond.declares) (hat : ∀ w ∈ (vx_atS RX0 ic cls names).filter goodWord, w ∈ ws)
    (hR : names.length + 3 < (eR E).frames ∧ (st.map fun v => v.category).sum + (13 * (names.length + 1) + 43) ≤ (eR E).locals ∧ k + 1 ≤ (eR E).cells ∧ n + 6 ≤ (eR E).slots)
    (hc : k + 1 ≤ mc) (hs : n + 6 ≤ ms) (hp : px cls σ τ o) : G E k n pc lv st σ τ o := fun H locs ls hP hS hl => by
  rw [F.1]
  obtain ⟨z1, z2, z3, z4, z5⟩ := C.2.2.2.2.2.2.2.2.1
  obtain ⟨sa, hsa⟩ := z3 (is, text) hK
  have hg : ∀ w ∈ vx_atS RX0 ic cls names, vx_ot w = true := List.all_eq_true.mp hall.1
  have h3 : ∀ w ∈ Cond.castable cls cls :: gDc.map Cond.declares, w.before (eV E) (eS E) = true := by
    intro w hw
    rcases List.mem_cons.mp hw with rfl | hw
    · exact va_Nw.use rfl (z4 cls hX)
    · obtain ⟨x, hx, rfl⟩ := List.mem_map.mp hw
      exact va_Nw.use rfl (z5 x hx)
  refine vx_throwS (A := eA E) C.1 C.2.1 C.2.2.2.2.2.2.2.2.2 C.2.2.2.1 hcls hnames (C.2.2.2.2.1 _ hk) (C.2.2.2.2.1 _ hini) hsa (vx_hat (fun w hw => C.2.2.2.2.1 _ (hat w hw)) hall.2 h3) ?_ z1 z2 hS hl.1 d0 d3 d4 d6 d9 (fun x hx => (ht x hx).elim) hR.1 hR.2.1 hR.2.2.1 hR.2.2.2 F.2.1 ?_ hS.2.2 hc hs
  · intro w hw
    rcases List.mem_cons.mp hw with rfl | hw
    · rfl
    · rcases List.mem_cons.mp hw with rfl | hw
      · rfl
      · exact hg w hw
  · intro t hA hz hq
    exact ⟨⟨σ, τ, o, hp, hP.kept (fun j q hj => hq q.1 (hP j q hj).lt), va_K.moved hA C.2.2.2.2.2.1⟩, Nat.le_trans hS.1 hz, fun q h1 h2 => (hq q (Nat.lt_of_lt_of_le h1 hS.1)).trans (hS.2.1 q h1 h2)⟩
end GCALL
/-- a contract, from the walk of its body -/
theorem ct_of {l : Launch} {y : MethodName} {ws ws' : List Cond} {cc : ByteArray} {maxL fr lo mc ms : Nat} {ret : Option FieldType} {As : List Value} {Γ : gG} {σ : gS} {τ : gT} {o : gO} {post : gPost} {px : gPX} (hl : l.stackTraces = false) (hy : plainName y.cls = true) (hw : ws = Cond.code y cc maxL ret :: ws') (hn : (lg_sl As).length ≤ maxL)
    (body : ∀ E : gE, gC E cc maxL y.cls ws → gF E post px mc ms ret → (∀ x ∈ (eC E).exceptionTable.toList, False) → eG E = Γ → eL E = l → eR E = { frames := fr, cells := mc, slots := ms, locals := lo } → G E 0 0 0 (lv_args 0 As) [] σ τ o) : Ct l y ws fr lo mc ms As Γ σ τ o post px := by
  intro sz
  refine vx_ofW (cc := cc) (maxL := maxL) (ret := ret) hy hw ?_
  intro p e s m args below meth c s₁ B hml ht hv
  obtain ⟨rfl, hsz, hB, hD0, hZ⟩ := hv
  subst hsz
  have hD : va_D (uAd Γ s.heap.size) (wW Γ z0 zT zO) := hD0.self
  have hlv := lv_entry As hn
  rw [lg_entry_eq]
  exact body (p, l, e, (headSpec ws { frames := fr, cells := mc, slots := ms, locals := lo }).room, s, m, As.toArray, below, meth, c, Γ, uAd Γ s.heap.size, _) ⟨B.exec, B.bytes, hml, findClass_of_methodNamed B.named, atoms_spec (ws := ws) B.pre, hB.2, fun q h => Or.inr h, hD, hZ, hl⟩ ⟨rfl, B.notSynchronized, B.returns⟩ ht rfl rfl rfl s.heap [] _ hB.1 va_S.rf (by rw [hml]; exact hlv)
/-- more room than it needs -/
theorem noX_kx {E : gE} {k n pc : Nat} {lv : List (Nat × Value)} {st : List Value} : ∀ X σ' τ' o', noX X σ' τ' o' → GX E k n pc lv st σ' τ' o' X := fun _ _ _ _ h => h.elim
/-- the answer v, the world σ1 τ1 o1 -/
def pE (v : Option Value) (σ1 : gS) (τ1 : gT) (o1 : gO) : gPost := fun v' σ' τ' o' => v' = v ∧ σ' = σ1 ∧ τ' = τ1 ∧ o' = o1
/-- it throws X, the world as it was -/
def pxE (X : String) (σ1 : gS) (τ1 : gT) (o1 : gO) : gPX := fun X' σ' τ' o' => X' = X ∧ σ' = σ1 ∧ τ' = τ1 ∧ o' = o1
def noP : gPost := fun _ _ _ _ => False
theorem g_at137 : (vx_atS RX0 137 "java/lang/IndexOutOfBoundsException" ["java/lang/RuntimeException", "java/lang/Exception"]).all vx_ot = true ∧ ∀ w ∈ (vx_atS RX0 137 "java/lang/IndexOutOfBoundsException" ["java/lang/RuntimeException", "java/lang/Exception"]).filter (fun w => !goodWord w), w ∈ Cond.castable "java/lang/IndexOutOfBoundsException" "java/lang/IndexOutOfBoundsException" :: gDc.map Cond.declares := ⟨by decide +kernel, by decide +kernel⟩
theorem g_at70 : (vx_atS RX0 70 "java/lang/IllegalArgumentException" ["java/lang/RuntimeException", "java/lang/Exception"]).all vx_ot = true ∧ ∀ w ∈ (vx_atS RX0 70 "java/lang/IllegalArgumentException" ["java/lang/RuntimeException", "java/lang/Exception"]).filter (fun w => !goodWord w), w ∈ Cond.castable "java/lang/IllegalArgumentException" "java/lang/IllegalArgumentException" :: gDc.map Cond.declares := ⟨by decide +kernel, by decide +kernel⟩
theorem g_at77 : (vx_atS RX0 77 "java/lang/IllegalStateException" ["java/lang/RuntimeException", "java/lang/Exception"]).all vx_ot = true ∧ ∀ w ∈ (vx_atS RX0 77 "java/lang/IllegalStateException" ["java/lang/RuntimeException", "java/lang/Exception"]).filter (fun w => !goodWord w), w ∈ Cond.castable "java/lang/IllegalStateException" "java/lang/IllegalStateException" :: gDc.map Cond.declares := ⟨by decide +kernel, by decide +kernel⟩
section GCALL2
variable {E : gE} {cc : ByteArray} {nL : Nat} {own : String} {ws : List Cond} {k n pc : Nat} {lv : List (Nat × Value)} {st : List Value} {σ σ1 : gS} {τ τ1 : gT} {o o1 : gO}
variable {post : gPost} {px : gPX} {fr lo mc ms idx maxL na : Nat} {y : MethodName} {bytes : ByteArray} {ret : Option FieldType} {wy wy' : List Cond} {Cl : String} {T : u_T} {N ci q0 b : Nat} {fs : List Value} {As rest : List Value}
theorem g_callVEi {r : Int32} (C : gC E cc nL own ws) (d : decode cc pc = .ok (.invokevirtual idx, 3)) (hM : Ct (eL E) y wy fr lo mc ms (.ref b :: As) (eG E) σ τ o (pE (some (.int r)) σ1 τ1 o1) (noX)) (hT : GoodIn ws (wsV own idx Cl y wy)) (hw : wy = Cond.code y bytes maxL ret :: wy') (hna : As.length = na) (hy : y.cls = Cl ∧ y.cls ≠ "java/lang/invoke/MethodHandle" ∧ y.cls ≠ "java/lang/invoke/VarHandle" ∧ (parseMethodDescriptor y.desc).map (fun d => d.parameters.length) = some na) (hq : (wW (eG E) σ τ o)[q0]? = some (b, .inr (ci, fs))) (hc : vwCl[ci]? = some (Cl, T, N)) (hst : st = As.reverse ++ .ref b :: rest) (hW : (rest.map fun v => v.category).sum ≤ 8) (hR : fr + 1 ≤ (eR E).frames ∧ 8 + (maxL + 11) + lo ≤ (eR E).locals) (hf : k + mc ≤ (eR E).cells ∧ n + ms ≤ (eR E).slots) (kk : G E (k + mc) (n + ms) (pc + 3) lv (.int r :: rest) σ1 τ1 o1) : G E k n pc lv st σ τ o := g_callV C d hM hT hw hna hy hq hc hst hW hR hf noX_kx (fun v σ' τ' o' h => by
  obtain ⟨rfl, rfl, rfl, rfl⟩ := h
  exact kk)
theorem g_callVEl {r : Int64} (C : gC E cc nL own ws) (d : decode cc pc = .ok (.invokevirtual idx, 3)) (hM : Ct (eL E) y wy fr lo mc ms (.ref b :: As) (eG E) σ τ o (pE (some (.long r)) σ1 τ1 o1) (noX)) (hT : GoodIn ws (wsV own idx Cl y wy)) (hw : wy = Cond.code y bytes maxL ret :: wy') (hna : As.length = na) (hy : y.cls = Cl ∧ y.cls ≠ "java/lang/invoke/MethodHandle" ∧ y.cls ≠ "java/lang/invoke/VarHandle" ∧ (parseMethodDescriptor y.desc).map (fun d => d.parameters.length) = some na) (hq : (wW (eG E) σ τ o)[q0]? = some (b, .inr (ci, fs))) (hc : vwCl[ci]? = some (Cl, T, N)) (hst : st = As.reverse ++ .ref b :: rest) (hW : (rest.map fun v => v.category).sum ≤ 8) (hR : fr + 1 ≤ (eR E).frames ∧ 8 + (maxL + 11) + lo ≤ (eR E).locals) (hf : k + mc ≤ (eR E).cells ∧ n + ms ≤ (eR E).slots) (kk : G E (k + mc) (n + ms) (pc + 3) lv (.long r :: rest) σ1 τ1 o1) : G E k n pc lv st σ τ o := g_callV C d hM hT hw hna hy hq hc hst hW hR hf noX_kx (fun v σ' τ' o' h => by
  obtain ⟨rfl, rfl, rfl, rfl⟩ := h
  exact kk)
theorem g_callVEd {r : UInt64} (C : gC E cc nL own ws) (d : decode cc pc = .ok (.invokevirtual idx, 3)) (hM : Ct (eL E) y wy fr lo mc ms (.ref b :: As) (eG E) σ τ o (pE (some (.double r)) σ1 τ1 o1) (noX)) (hT : GoodIn ws (wsV own idx Cl y wy)) (hw : wy = Cond.code y bytes maxL ret :: wy') (hna : As.length = na) (hy : y.cls = Cl ∧ y.cls ≠ "java/lang/invoke/MethodHandle" ∧ y.cls ≠ "java/lang/invoke/VarHandle" ∧ (parseMethodDescriptor y.desc).map (fun d => d.parameters.length) = some na) (hq : (wW (eG E) σ τ o)[q0]? = some (b, .inr (ci, fs))) (hc : vwCl[ci]? = some (Cl, T, N)) (hst : st = As.reverse ++ .ref b :: rest) (hW : (rest.map fun v => v.category).sum ≤ 8) (hR : fr + 1 ≤ (eR E).frames ∧ 8 + (maxL + 11) + lo ≤ (eR E).locals) (hf : k + mc ≤ (eR E).cells ∧ n + ms ≤ (eR E).slots) (kk : G E (k + mc) (n + ms) (pc + 3) lv (.double r :: rest) σ1 τ1 o1) : G E k n pc lv st σ τ o := g_callV C d hM hT hw hna hy hq hc hst hW hR hf noX_kx (fun v σ' τ' o' h => by
  obtain ⟨rfl, rfl, rfl, rfl⟩ := h
  exact kk)
theorem g_callVEv (C : gC E cc nL own ws) (d : decode cc pc = .ok (.invokevirtual idx, 3)) (hM : Ct (eL E) y wy fr lo mc ms (.ref b :: As) (eG E) σ τ o (pE none σ1 τ1 o1) (noX)) (hT : GoodIn ws (wsV own idx Cl y wy)) (hw : wy = Cond.code y bytes maxL ret :: wy') (hna : As.length = na) (hy : y.cls = Cl ∧ y.cls ≠ "java/lang/invoke/MethodHandle" ∧ y.cls ≠ "java/lang/invoke/VarHandle" ∧ (parseMethodDescriptor y.desc).map (fun d => d.parameters.length) = some na) (hq : (wW (eG E) σ τ o)[q0]? = some (b, .inr (ci, fs))) (hc : vwCl[ci]? = some (Cl, T, N)) (hst : st = As.reverse ++ .ref b :: rest) (hW : (rest.map fun v => v.category).sum ≤ 8) (hR : fr + 1 ≤ (eR E).frames ∧ 8 + (maxL + 11) + lo ≤ (eR E).locals) (hf : k + mc ≤ (eR E).cells ∧ n + ms ≤ (eR E).slots) (kk : G E (k + mc) (n + ms) (pc + 3) lv rest σ1 τ1 o1) : G E k n pc lv st σ τ o := g_callV C d hM hT hw hna hy hq hc hst hW hR hf noX_kx (fun v σ' τ' o' h => by
  obtain ⟨rfl, rfl, rfl, rfl⟩ := h
  exact kk)
theorem g_callVi {P : Int32 → gS → gT → gO → Prop} (C : gC E cc nL own ws) (d : decode cc pc = .ok (.invokevirtual idx, 3)) (hM : Ct (eL E) y wy fr lo mc ms (.ref b :: As) (eG E) σ τ o (pI P) (px)) (hT : GoodIn ws (wsV own idx Cl y wy)) (hw : wy = Cond.code y bytes maxL ret :: wy') (hna : As.length = na) (hy : y.cls = Cl ∧ y.cls ≠ "java/lang/invoke/MethodHandle" ∧ y.cls ≠ "java/lang/invoke/VarHandle" ∧ (parseMethodDescriptor y.desc).map (fun d => d.parameters.length) = some na) (hq : (wW (eG E) σ τ o)[q0]? = some (b, .inr (ci, fs))) (hc : vwCl[ci]? = some (Cl, T, N)) (hst : st = As.reverse ++ .ref b :: rest) (hW : (rest.map fun v => v.category).sum ≤ 8) (hR : fr + 1 ≤ (eR E).frames ∧ 8 + (maxL + 11) + lo ≤ (eR E).locals) (hf : k + mc ≤ (eR E).cells ∧ n + ms ≤ (eR E).slots) (kx : ∀ X σ' τ' o', px X σ' τ' o' → GX E (k + mc) (n + ms) pc lv rest σ' τ' o' X) (kk : ∀ r σ' τ' o', P r σ' τ' o' → G E (k + mc) (n + ms) (pc + 3) lv (.int r :: rest) σ' τ' o') : G E k n pc lv st σ τ o := g_callV C d hM hT hw hna hy hq hc hst hW hR hf kx (fun v σ' τ' o' h => by
  obtain ⟨r, rfl, h⟩ := h
  exact kk r σ' τ' o' h)
theorem g_callVl {P : Int64 → gS → gT → gO → Prop} (C : gC E cc nL own ws) (d : decode cc pc = .ok (.invokevirtual idx, 3)) (hM : Ct (eL E) y wy fr lo mc ms (.ref b :: As) (eG E) σ τ o (pJ P) (px)) (hT : GoodIn ws (wsV own idx Cl y wy)) (hw : wy = Cond.code y bytes maxL ret :: wy') (hna : As.length = na) (hy : y.cls = Cl ∧ y.cls ≠ "java/lang/invoke/MethodHandle" ∧ y.cls ≠ "java/lang/invoke/VarHandle" ∧ (parseMethodDescriptor y.desc).map (fun d => d.parameters.length) = some na) (hq : (wW (eG E) σ τ o)[q0]? = some (b, .inr (ci, fs))) (hc : vwCl[ci]? = some (Cl, T, N)) (hst : st = As.reverse ++ .ref b :: rest) (hW : (rest.map fun v => v.category).sum ≤ 8) (hR : fr + 1 ≤ (eR E).frames ∧ 8 + (maxL + 11) + lo ≤ (eR E).locals) (hf : k + mc ≤ (eR E).cells ∧ n + ms ≤ (eR E).slots) (kx : ∀ X σ' τ' o', px X σ' τ' o' → GX E (k + mc) (n + ms) pc lv rest σ' τ' o' X) (kk : ∀ r σ' τ' o', P r σ' τ' o' → G E (k + mc) (n + ms) (pc + 3) lv (.long r :: rest) σ' τ' o') : G E k n pc lv st σ τ o := g_callV C d hM hT hw hna hy hq hc hst hW hR hf kx (fun v σ' τ' o' h => by
  obtain ⟨r, rfl, h⟩ := h
  exact kk r σ' τ' o' h)
theorem g_callVd {P : UInt64 → gS → gT → gO → Prop} (C : gC E cc nL own ws) (d : decode cc pc = .ok (.invokevirtual idx, 3)) (hM : Ct (eL E) y wy fr lo mc ms (.ref b :: As) (eG E) σ τ o (pD P) (px)) (hT : GoodIn ws (wsV own idx Cl y wy)) (hw : wy = Cond.code y bytes maxL ret :: wy') (hna : As.length = na) (hy : y.cls = Cl ∧ y.cls ≠ "java/lang/invoke/MethodHandle" ∧ y.cls ≠ "java/lang/invoke/VarHandle" ∧ (parseMethodDescriptor y.desc).map (fun d => d.parameters.length) = some na) (hq : (wW (eG E) σ τ o)[q0]? = some (b, .inr (ci, fs))) (hc : vwCl[ci]? = some (Cl, T, N)) (hst : st = As.reverse ++ .ref b :: rest) (hW : (rest.map fun v => v.category).sum ≤ 8) (hR : fr + 1 ≤ (eR E).frames ∧ 8 + (maxL + 11) + lo ≤ (eR E).locals) (hf : k + mc ≤ (eR E).cells ∧ n + ms ≤ (eR E).slots) (kx : ∀ X σ' τ' o', px X σ' τ' o' → GX E (k + mc) (n + ms) pc lv rest σ' τ' o' X) (kk : ∀ r σ' τ' o', P r σ' τ' o' → G E (k + mc) (n + ms) (pc + 3) lv (.double r :: rest) σ' τ' o') : G E k n pc lv st σ τ o := g_callV C d hM hT hw hna hy hq hc hst hW hR hf kx (fun v σ' τ' o' h => by
  obtain ⟨r, rfl, h⟩ := h
  exact kk r σ' τ' o' h)
theorem g_callVv {P : gS → gT → gO → Prop} (C : gC E cc nL own ws) (d : decode cc pc = .ok (.invokevirtual idx, 3)) (hM : Ct (eL E) y wy fr lo mc ms (.ref b :: As) (eG E) σ τ o (pV P) (px)) (hT : GoodIn ws (wsV own idx Cl y wy)) (hw : wy = Cond.code y bytes maxL ret :: wy') (hna : As.length = na) (hy : y.cls = Cl ∧ y.cls ≠ "java/lang/invoke/MethodHandle" ∧ y.cls ≠ "java/lang/invoke/VarHandle" ∧ (parseMethodDescriptor y.desc).map (fun d => d.parameters.length) = some na) (hq : (wW (eG E) σ τ o)[q0]? = some (b, .inr (ci, fs))) (hc : vwCl[ci]? = some (Cl, T, N)) (hst : st = As.reverse ++ .ref b :: rest) (hW : (rest.map fun v => v.category).sum ≤ 8) (hR : fr + 1 ≤ (eR E).frames ∧ 8 + (maxL + 11) + lo ≤ (eR E).locals) (hf : k + mc ≤ (eR E).cells ∧ n + ms ≤ (eR E).slots) (kx : ∀ X σ' τ' o', px X σ' τ' o' → GX E (k + mc) (n + ms) pc lv rest σ' τ' o' X) (kk : ∀ σ' τ' o', P σ' τ' o' → G E (k + mc) (n + ms) (pc + 3) lv rest σ' τ' o') : G E k n pc lv st σ τ o := g_callV C d hM hT hw hna hy hq hc hst hW hR hf kx (fun v σ' τ' o' h => by
  obtain ⟨rfl, h⟩ := h
  exact kk σ' τ' o' h)
theorem g_callVX {post2 : gPost} {px2 : gPX} {mc2 ms2 : Nat} {ret2 : Option FieldType} {X : String} (C : gC E cc nL own ws) (F : gF E post2 px2 mc2 ms2 ret2) (ht : ∀ x ∈ (eC E).exceptionTable.toList, False) (d : decode cc pc = .ok (.invokevirtual idx, 3)) (hM : Ct (eL E) y wy fr lo mc ms (.ref b :: As) (eG E) σ τ o (noP) (pxE X σ1 τ1 o1)) (hT : GoodIn ws (wsV own idx Cl y wy)) (hw : wy = Cond.code y bytes maxL ret :: wy') (hna : As.length = na) (hy : y.cls = Cl ∧ y.cls ≠ "java/lang/invoke/MethodHandle" ∧ y.cls ≠ "java/lang/invoke/VarHandle" ∧ (parseMethodDescriptor y.desc).map (fun d => d.parameters.length) = some na) (hq : (wW (eG E) σ τ o)[q0]? = some (b, .inr (ci, fs))) (hc : vwCl[ci]? = some (Cl, T, N)) (hst : st = As.reverse ++ .ref b :: rest) (hW : (rest.map fun v => v.category).sum ≤ 8) (hR : fr + 1 ≤ (eR E).frames ∧ 8 + (maxL + 11) + lo ≤ (eR E).locals) (hf : k + mc ≤ (eR E).cells ∧ n + ms ≤ (eR E).slots) (h1 : k + mc ≤ mc2) (h2 : n + ms ≤ ms2) (hp : px2 X σ1 τ1 o1) : G E k n pc lv st σ τ o := g_callV C d hM hT hw hna hy hq hc hst hW hR hf (fun X' σ' τ' o' h => by
  obtain ⟨rfl, rfl, rfl, rfl⟩ := h
  exact gx_out C F ht h1 h2 hp) (fun v σ' τ' o' h => h.elim)
theorem g_callSEi {r : Int32} (C : gC E cc nL own ws) (d : decode cc pc = .ok (.invokestatic idx, 3)) (hM : Ct (eL E) y wy fr lo mc ms As (eG E) σ τ o (pE (some (.int r)) σ1 τ1 o1) (noX)) (hT : GoodIn ws (va_wsS own idx y wy)) (hw : wy = Cond.code y bytes maxL ret :: wy') (hna : As.length = na) (hy : y.cls ≠ "java/lang/invoke/MethodHandle" ∧ y.cls ≠ "java/lang/invoke/VarHandle" ∧ (parseMethodDescriptor y.desc).map (fun d => d.parameters.length) = some na) (hst : st = As.reverse ++ rest) (hW : (rest.map fun v => v.category).sum ≤ 8) (hR : fr + 1 ≤ (eR E).frames ∧ 8 + (maxL + 11) + lo ≤ (eR E).locals) (hf : k + mc ≤ (eR E).cells ∧ n + ms ≤ (eR E).slots) (kk : G E (k + mc) (n + ms) (pc + 3) lv (.int r :: rest) σ1 τ1 o1) : G E k n pc lv st σ τ o := g_callS C d hM hT hw hna hy hst hW hR hf noX_kx (fun v σ' τ' o' h => by
  obtain ⟨rfl, rfl, rfl, rfl⟩ := h
  exact kk)
theorem g_callSEl {r : Int64} (C : gC E cc nL own ws) (d : decode cc pc = .ok (.invokestatic idx, 3)) (hM : Ct (eL E) y wy fr lo mc ms As (eG E) σ τ o (pE (some (.long r)) σ1 τ1 o1) (noX)) (hT : GoodIn ws (va_wsS own idx y wy)) (hw : wy = Cond.code y bytes maxL ret :: wy') (hna : As.length = na) (hy : y.cls ≠ "java/lang/invoke/MethodHandle" ∧ y.cls ≠ "java/lang/invoke/VarHandle" ∧ (parseMethodDescriptor y.desc).map (fun d => d.parameters.length) = some na) (hst : st = As.reverse ++ rest) (hW : (rest.map fun v => v.category).sum ≤ 8) (hR : fr + 1 ≤ (eR E).frames ∧ 8 + (maxL + 11) + lo ≤ (eR E).locals) (hf : k + mc ≤ (eR E).cells ∧ n + ms ≤ (eR E).slots) (kk : G E (k + mc) (n + ms) (pc + 3) lv (.long r :: rest) σ1 τ1 o1) : G E k n pc lv st σ τ o := g_callS C d hM hT hw hna hy hst hW hR hf noX_kx (fun v σ' τ' o' h => by
  obtain ⟨rfl, rfl, rfl, rfl⟩ := h
  exact kk)
theorem g_callSEd {r : UInt64} (C : gC E cc nL own ws) (d : decode cc pc = .ok (.invokestatic idx, 3)) (hM : Ct (eL E) y wy fr lo mc ms As (eG E) σ τ o (pE (some (.double r)) σ1 τ1 o1) (noX)) (hT : GoodIn ws (va_wsS own idx y wy)) (hw : wy = Cond.code y bytes maxL ret :: wy') (hna : As.length = na) (hy : y.cls ≠ "java/lang/invoke/MethodHandle" ∧ y.cls ≠ "java/lang/invoke/VarHandle" ∧ (parseMethodDescriptor y.desc).map (fun d => d.parameters.length) = some na) (hst : st = As.reverse ++ rest) (hW : (rest.map fun v => v.category).sum ≤ 8) (hR : fr + 1 ≤ (eR E).frames ∧ 8 + (maxL + 11) + lo ≤ (eR E).locals) (hf : k + mc ≤ (eR E).cells ∧ n + ms ≤ (eR E).slots) (kk : G E (k + mc) (n + ms) (pc + 3) lv (.double r :: rest) σ1 τ1 o1) : G E k n pc lv st σ τ o := g_callS C d hM hT hw hna hy hst hW hR hf noX_kx (fun v σ' τ' o' h => by
  obtain ⟨rfl, rfl, rfl, rfl⟩ := h
  exact kk)
theorem g_callSEv (C : gC E cc nL own ws) (d : decode cc pc = .ok (.invokestatic idx, 3)) (hM : Ct (eL E) y wy fr lo mc ms As (eG E) σ τ o (pE none σ1 τ1 o1) (noX)) (hT : GoodIn ws (va_wsS own idx y wy)) (hw : wy = Cond.code y bytes maxL ret :: wy') (hna : As.length = na) (hy : y.cls ≠ "java/lang/invoke/MethodHandle" ∧ y.cls ≠ "java/lang/invoke/VarHandle" ∧ (parseMethodDescriptor y.desc).map (fun d => d.parameters.length) = some na) (hst : st = As.reverse ++ rest) (hW : (rest.map fun v => v.category).sum ≤ 8) (hR : fr + 1 ≤ (eR E).frames ∧ 8 + (maxL + 11) + lo ≤ (eR E).locals) (hf : k + mc ≤ (eR E).cells ∧ n + ms ≤ (eR E).slots) (kk : G E (k + mc) (n + ms) (pc + 3) lv rest σ1 τ1 o1) : G E k n pc lv st σ τ o := g_callS C d hM hT hw hna hy hst hW hR hf noX_kx (fun v σ' τ' o' h => by
  obtain ⟨rfl, rfl, rfl, rfl⟩ := h
  exact kk)
theorem g_callSi {P : Int32 → gS → gT → gO → Prop} (C : gC E cc nL own ws) (d : decode cc pc = .ok (.invokestatic idx, 3)) (hM : Ct (eL E) y wy fr lo mc ms As (eG E) σ τ o (pI P) (px)) (hT : GoodIn ws (va_wsS own idx y wy)) (hw : wy = Cond.code y bytes maxL ret :: wy') (hna : As.length = na) (hy : y.cls ≠ "java/lang/invoke/MethodHandle" ∧ y.cls ≠ "java/lang/invoke/VarHandle" ∧ (parseMethodDescriptor y.desc).map (fun d => d.parameters.length) = some na) (hst : st = As.reverse ++ rest) (hW : (rest.map fun v => v.category).sum ≤ 8) (hR : fr + 1 ≤ (eR E).frames ∧ 8 + (maxL + 11) + lo ≤ (eR E).locals) (hf : k + mc ≤ (eR E).cells ∧ n + ms ≤ (eR E).slots) (kx : ∀ X σ' τ' o', px X σ' τ' o' → GX E (k + mc) (n + ms) pc lv rest σ' τ' o' X) (kk : ∀ r σ' τ' o', P r σ' τ' o' → G E (k + mc) (n + ms) (pc + 3) lv (.int r :: rest) σ' τ' o') : G E k n pc lv st σ τ o := g_callS C d hM hT hw hna hy hst hW hR hf kx (fun v σ' τ' o' h => by
  obtain ⟨r, rfl, h⟩ := h
  exact kk r σ' τ' o' h)
theorem g_callSl {P : Int64 → gS → gT → gO → Prop} (C : gC E cc nL own ws) (d : decode cc pc = .ok (.invokestatic idx, 3)) (hM : Ct (eL E) y wy fr lo mc ms As (eG E) σ τ o (pJ P) (px)) (hT : GoodIn ws (va_wsS own idx y wy)) (hw : wy = Cond.code y bytes maxL ret :: wy') (hna : As.length = na) (hy : y.cls ≠ "java/lang/invoke/MethodHandle" ∧ y.cls ≠ "java/lang/invoke/VarHandle" ∧ (parseMethodDescriptor y.desc).map (fun d => d.parameters.length) = some na) (hst : st = As.reverse ++ rest) (hW : (rest.map fun v => v.category).sum ≤ 8) (hR : fr + 1 ≤ (eR E).frames ∧ 8 + (maxL + 11) + lo ≤ (eR E).locals) (hf : k + mc ≤ (eR E).cells ∧ n + ms ≤ (eR E).slots) (kx : ∀ X σ' τ' o', px X σ' τ' o' → GX E (k + mc) (n + ms) pc lv rest σ' τ' o' X) (kk : ∀ r σ' τ' o', P r σ' τ' o' → G E (k + mc) (n + ms) (pc + 3) lv (.long r :: rest) σ' τ' o') : G E k n pc lv st σ τ o := g_callS C d hM hT hw hna hy hst hW hR hf kx (fun v σ' τ' o' h => by
  obtain ⟨r, rfl, h⟩ := h
  exact kk r σ' τ' o' h)
theorem g_callSd {P : UInt64 → gS → gT → gO → Prop} (C : gC E cc nL own ws) (d : decode cc pc = .ok (.invokestatic idx, 3)) (hM : Ct (eL E) y wy fr lo mc ms As (eG E) σ τ o (pD P) (px)) (hT : GoodIn ws (va_wsS own idx y wy)) (hw : wy = Cond.code y bytes maxL ret :: wy') (hna : As.length = na) (hy : y.cls ≠ "java/lang/invoke/MethodHandle" ∧ y.cls ≠ "java/lang/invoke/VarHandle" ∧ (parseMethodDescriptor y.desc).map (fun d => d.parameters.length) = some na) (hst : st = As.reverse ++ rest) (hW : (rest.map fun v => v.category).sum ≤ 8) (hR : fr + 1 ≤ (eR E).frames ∧ 8 + (maxL + 11) + lo ≤ (eR E).locals) (hf : k + mc ≤ (eR E).cells ∧ n + ms ≤ (eR E).slots) (kx : ∀ X σ' τ' o', px X σ' τ' o' → GX E (k + mc) (n + ms) pc lv rest σ' τ' o' X) (kk : ∀ r σ' τ' o', P r σ' τ' o' → G E (k + mc) (n + ms) (pc + 3) lv (.double r :: rest) σ' τ' o') : G E k n pc lv st σ τ o := g_callS C d hM hT hw hna hy hst hW hR hf kx (fun v σ' τ' o' h => by
  obtain ⟨r, rfl, h⟩ := h
  exact kk r σ' τ' o' h)
theorem g_callSv {P : gS → gT → gO → Prop} (C : gC E cc nL own ws) (d : decode cc pc = .ok (.invokestatic idx, 3)) (hM : Ct (eL E) y wy fr lo mc ms As (eG E) σ τ o (pV P) (px)) (hT : GoodIn ws (va_wsS own idx y wy)) (hw : wy = Cond.code y bytes maxL ret :: wy') (hna : As.length = na) (hy : y.cls ≠ "java/lang/invoke/MethodHandle" ∧ y.cls ≠ "java/lang/invoke/VarHandle" ∧ (parseMethodDescriptor y.desc).map (fun d => d.parameters.length) = some na) (hst : st = As.reverse ++ rest) (hW : (rest.map fun v => v.category).sum ≤ 8) (hR : fr + 1 ≤ (eR E).frames ∧ 8 + (maxL + 11) + lo ≤ (eR E).locals) (hf : k + mc ≤ (eR E).cells ∧ n + ms ≤ (eR E).slots) (kx : ∀ X σ' τ' o', px X σ' τ' o' → GX E (k + mc) (n + ms) pc lv rest σ' τ' o' X) (kk : ∀ σ' τ' o', P σ' τ' o' → G E (k + mc) (n + ms) (pc + 3) lv rest σ' τ' o') : G E k n pc lv st σ τ o := g_callS C d hM hT hw hna hy hst hW hR hf kx (fun v σ' τ' o' h => by
  obtain ⟨rfl, h⟩ := h
  exact kk σ' τ' o' h)
theorem g_callSX {post2 : gPost} {px2 : gPX} {mc2 ms2 : Nat} {ret2 : Option FieldType} {X : String} (C : gC E cc nL own ws) (F : gF E post2 px2 mc2 ms2 ret2) (ht : ∀ x ∈ (eC E).exceptionTable.toList, False) (d : decode cc pc = .ok (.invokestatic idx, 3)) (hM : Ct (eL E) y wy fr lo mc ms As (eG E) σ τ o (noP) (pxE X σ1 τ1 o1)) (hT : GoodIn ws (va_wsS own idx y wy)) (hw : wy = Cond.code y bytes maxL ret :: wy') (hna : As.length = na) (hy : y.cls ≠ "java/lang/invoke/MethodHandle" ∧ y.cls ≠ "java/lang/invoke/VarHandle" ∧ (parseMethodDescriptor y.desc).map (fun d => d.parameters.length) = some na) (hst : st = As.reverse ++ rest) (hW : (rest.map fun v => v.category).sum ≤ 8) (hR : fr + 1 ≤ (eR E).frames ∧ 8 + (maxL + 11) + lo ≤ (eR E).locals) (hf : k + mc ≤ (eR E).cells ∧ n + ms ≤ (eR E).slots) (h1 : k + mc ≤ mc2) (h2 : n + ms ≤ ms2) (hp : px2 X σ1 τ1 o1) : G E k n pc lv st σ τ o := g_callS C d hM hT hw hna hy hst hW hR hf (fun X' σ' τ' o' h => by
  obtain ⟨rfl, rfl, rfl, rfl⟩ := h
  exact gx_out C F ht h1 h2 hp) (fun v σ' τ' o' h => h.elim)
end GCALL2
theorem g_topi {E : gE} {k n pc : Nat} {lv : List (Nat × Value)} {st : List Value} {σ : gS} {τ : gT} {o : gO} {x y : Int32} (h : x = y) (kk : G E k n pc lv (.int y :: st) σ τ o) : G E k n pc lv (.int x :: st) σ τ o := by rw [h]; exact kk
theorem nI_i1 (a : Nat) : nI a + Int32.ofInt 1 = nI (a + 1) := nI_1 a
theorem nI_i2 (a : Nat) : nI a + Int32.ofInt 2 = nI (a + 2) := (nI_add a 2)
theorem nI_im (a : Nat) : nI (a + 1) + Int32.ofInt (-1) = nI a := pk_m1 a
