/-! the law's own rows -/
theorem mean_n {e s : Int32} (h : ¬ s = 0) : vf_n64 (FP.ddiv (FP.i2d e) (FP.i2d s)) := by
  have h1 : FP.Core.dIsNaN (FP.ddiv (FP.i2d e) (FP.i2d s)) = false := FP.Core.ddiv_out (FP.Core.i2d_fin e).notNaN (FP.Core.i2d_fin s) (fun z => FP.Core.i2d_ne_zero h ((FP.Core.zero_bits2 _).mp z))
  have h2 : ¬ 9218868437227405312 < (FP.ddiv (FP.i2d e) (FP.i2d s)).toNat % 2 ^ 63 := fun z => by
    have := (FP.Core.isNaN_bits _).mpr z
    rw [h1] at this
    cases this
  unfold vf_n64
  rw [UInt64.le_iff_toNat_le, UInt64.toNat_and, show (0x7fffffffffffffff : UInt64).toNat = 2 ^ 63 - 1 from rfl, Nat.and_two_pow_sub_one_eq_mod, show (0x7ff0000000000000 : UInt64).toNat = 9218868437227405312 from rfl]
  omega
/-- the script, of L ints xs at the cell b -/
def gXs (E : gE) (b L : Nat) (xs : Nat → Int32) : Prop := va_X b L xs (eS E) (eS E).heap ∧ b < (eS E).heap.size ∧ ¬ eA E b
theorem uPN_blind {As : List Value} {Γ : gG} {sz : Nat} {σ : gS} {τ : gT} {o : gO} : FrameBlind (va_Pc As (fun U => uP Γ sz σ τ o U ∧ uN U)) := fun a U g mk q =>
  have h := uP_blind (As := As) (Γ := Γ) (sz := sz) (σ := σ) (τ := τ) (o := o) a U g mk ⟨q.1, q.2.1⟩
  ⟨h.1, h.2, fun z hz => va_Nc.moved (u := U) (U := U.calling g mk a) (Vm.Alike.refl U.vm) (q.2.2 z hz)⟩
section
variable {E : gE} {cc : ByteArray} {nL : Nat} {own : String} {ws : List Cond} {k n pc : Nat} {lv : List (Nat × Value)} {st : List Value} {σ σ1 : gS} {τ τ1 : gT} {o o1 : gO}
theorem g_preN (C : gC E cc nL own ws) (hN : uN (eS E)) {H : Heap} {locs : List Loc} {As : List Value} (hP : va_P (eG E).1 vwCl (wW (eG E) σ τ o) H) (hS : va_S (eA E) (eS E).heap H locs) : ∀ U : State, U.heap = H → (eS E).WarmedH U.vm → va_Pc As (fun U => uP (eG E) H.size σ τ o U ∧ uN U) As.toArray U := fun U hU hW =>
  have h := g_pre C (As := As) hP hS U hU hW
  ⟨h.1, h.2, fun z hz => va_Nc.moved hW.alike (hN z hz)⟩
/-- a call of a helper of the law -/
theorem g_callL {post : gPost} {fr lo mc ms idx maxL na : Nat} {y : MethodName} {bytes : ByteArray} {ret : Option FieldType} {hh : List (Nat × Nat × Nat × Nat)} {wy wy' : List Cond} {As rest : List Value} (C : gC E cc nL own ws) (hN : uN (eS E))
    (d : decode cc pc = .ok (.invokestatic idx, 3)) (hM : CtL (eL E) y wy fr lo mc ms As (eG E) σ τ o post) (hT : GoodIn ws (va_wsS own idx y wy)) (hw : wy = Cond.codeWith y bytes maxL ret hh :: wy')
    (hna : As.length = na) (hy : y.cls ≠ "java/lang/invoke/MethodHandle" ∧ y.cls ≠ "java/lang/invoke/VarHandle" ∧ (parseMethodDescriptor y.desc).map (fun d => d.parameters.length) = some na)
    (hst : st = As.reverse ++ rest) (hW : (rest.map fun v => v.category).sum ≤ 8)
    (hR : fr + 1 ≤ (eR E).frames ∧ 8 + (maxL + 11) + lo ≤ (eR E).locals) (hf : k + mc ≤ (eR E).cells ∧ n + ms ≤ (eR E).slots)
    (kk : ∀ v σ' τ' o', post v σ' τ' o' → G E (k + mc) (n + ms) (pc + 3) lv (v.toList ++ rest) σ' τ' o') : G E k n pc lv st σ τ o := by
  refine g_run (px := noX) (a := As.toArray) C (fun H locs ls hP hS hl => ?_) noX_kx kk
  exact vx_runSX (As := As) (rest := rest) ⟨C.1, C.2.1, C.2.2.1, C.2.2.2.1, C.2.2.2.2.1⟩ (hM H.size) (vx_cwSW na C.2.2.2.2.1 hT hw rfl rfl hy hR) ⟨uPN_blind, g_preN C hN hP hS⟩ rfl hna (hl.1.trans C.2.2.1) hst (lv_room hW) d hf
theorem g_callLE {fr lo mc ms idx maxL na : Nat} {y : MethodName} {bytes : ByteArray} {ret : Option FieldType} {hh : List (Nat × Nat × Nat × Nat)} {wy wy' : List Cond} {As rest : List Value} {r : Int32} (C : gC E cc nL own ws) (hN : uN (eS E))
    (d : decode cc pc = .ok (.invokestatic idx, 3)) (hM : CtL (eL E) y wy fr lo mc ms As (eG E) σ τ o (pE (some (.int r)) σ1 τ1 o1)) (hT : GoodIn ws (va_wsS own idx y wy)) (hw : wy = Cond.codeWith y bytes maxL ret hh :: wy')
    (hna : As.length = na) (hy : y.cls ≠ "java/lang/invoke/MethodHandle" ∧ y.cls ≠ "java/lang/invoke/VarHandle" ∧ (parseMethodDescriptor y.desc).map (fun d => d.parameters.length) = some na)
    (hst : st = As.reverse ++ rest) (hW : (rest.map fun v => v.category).sum ≤ 8)
    (hR : fr + 1 ≤ (eR E).frames ∧ 8 + (maxL + 11) + lo ≤ (eR E).locals) (hf : k + mc ≤ (eR E).cells ∧ n + ms ≤ (eR E).slots)
    (kk : G E (k + mc) (n + ms) (pc + 3) lv (.int r :: rest) σ1 τ1 o1) : G E k n pc lv st σ τ o := g_callL C hN d hM hT hw hna hy hst hW hR hf (fun v σ' τ' o' h => by
  obtain ⟨rfl, rfl, rfl, rfl⟩ := h
  exact kk)
theorem g_callLi {fr lo mc ms idx maxL na : Nat} {y : MethodName} {bytes : ByteArray} {ret : Option FieldType} {hh : List (Nat × Nat × Nat × Nat)} {wy wy' : List Cond} {As rest : List Value} {P : Int32 → gS → gT → gO → Prop} (C : gC E cc nL own ws) (hN : uN (eS E))
    (d : decode cc pc = .ok (.invokestatic idx, 3)) (hM : CtL (eL E) y wy fr lo mc ms As (eG E) σ τ o (pI P)) (hT : GoodIn ws (va_wsS own idx y wy)) (hw : wy = Cond.codeWith y bytes maxL ret hh :: wy')
    (hna : As.length = na) (hy : y.cls ≠ "java/lang/invoke/MethodHandle" ∧ y.cls ≠ "java/lang/invoke/VarHandle" ∧ (parseMethodDescriptor y.desc).map (fun d => d.parameters.length) = some na)
    (hst : st = As.reverse ++ rest) (hW : (rest.map fun v => v.category).sum ≤ 8)
    (hR : fr + 1 ≤ (eR E).frames ∧ 8 + (maxL + 11) + lo ≤ (eR E).locals) (hf : k + mc ≤ (eR E).cells ∧ n + ms ≤ (eR E).slots)
    (kk : ∀ r σ' τ' o', P r σ' τ' o' → G E (k + mc) (n + ms) (pc + 3) lv (.int r :: rest) σ' τ' o') : G E k n pc lv st σ τ o := g_callL C hN d hM hT hw hna hy hst hW hR hf (fun v σ' τ' o' h => by
  obtain ⟨r, rfl, h⟩ := h
  exact kk r σ' τ' o' h)
theorem g_sld (C : gC E cc nL own ws) {b L : Nat} {xs : Nat → Int32} (X : gXs E b L xs) {i v : Int32} (q : Nat) (d : decode cc pc = .ok (.iaload, 1)) (he : i = nI q) (hq : q < L) (hL : L ≤ 1536) (hv : xs q = v) (kk : G E k n (pc + 1) lv (.int v :: st) σ τ o) : G E k n pc lv (.int i :: .ref b :: st) σ τ o := by
  subst he
  subst hv
  intro H locs ls hP hS hl
  refine va_sld C.1 C.2.1 X.1 X.2.1 X.2.2 hS (vp_in_nI hq (by omega)) d ?_
  rw [nI_clamp (by omega)]
  exact kk H locs ls hP hS hl
theorem g_slen (C : gC E cc nL own ws) {b L : Nat} {xs : Nat → Int32} (X : gXs E b L xs) (d : decode cc pc = .ok (.arraylength, 1)) (kk : G E k n (pc + 1) lv (.int (nI L) :: st) σ τ o) : G E k n pc lv (.ref b :: st) σ τ o :=
  fun H locs ls hP hS hl => va_slen C.1 C.2.1 X.1 X.2.1 X.2.2 hS d (kk H locs ls hP hS hl)
/-- two longs that are the same -/
theorem g_lcmpE (C : gC E cc nL own ws) {x y : Int64} (h : x = y) (d : decode cc pc = .ok (.lcmp, 1)) (kk : G E k n (pc + 1) lv (.int 0 :: st) σ τ o) : G E k n pc lv (.long y :: .long x :: st) σ τ o := fun H locs ls hP hS hl => by
  subst h
  have hk := kk H locs ls hP hS hl
  have hx := C.1
  have hb := C.2.1
  intro T hT X
  obtain ⟨t, a, b⟩ := hk T hT X
  refine ⟨t, ?_, b⟩
  jvm_step X.here [X.here.top, hx, hb, d]
  exact a
theorem g_tabIn (C : gC E cc nL own ws) {dflt lo hi : Int} {offs : Array Int} {len : Nat} {x : Int32} {off : Int} {tgt : Nat} (d : decode cc pc = .ok (.tableswitch dflt lo hi offs, len)) (h1 : ¬ x.toInt < lo) (h2 : ¬ hi < x.toInt) (ho : offs[(x.toInt - lo).toNat]? = some off) (ht : (pc : Int) + off = (tgt : Int)) (kk : G E k n tgt lv st σ τ o) : G E k n pc lv (.int x :: st) σ τ o := fun H locs ls hP hS hl => lv_tableIn C.1 C.2.1 d h1 h2 ho ht (kk H locs ls hP hS hl)
theorem g_tabOut (C : gC E cc nL own ws) {dflt lo hi : Int} {offs : Array Int} {len : Nat} {x : Int32} {tgt : Nat} (d : decode cc pc = .ok (.tableswitch dflt lo hi offs, len)) (h : x.toInt < lo ∨ hi < x.toInt) (ht : (pc : Int) + dflt = (tgt : Int)) (kk : G E k n tgt lv st σ τ o) : G E k n pc lv (.int x :: st) σ τ o := fun H locs ls hP hS hl => lv_tableOut C.1 C.2.1 d h ht (kk H locs ls hP hS hl)
end
/-- the law's locals at the loop's head -/
abbrev LV (E : gE) (b j : Nat) : List (Nat × Value) := [(4, .int (nI (3 * j))), (3, .ref ((eG E).2.1 102)), (2, .ref ((eG E).2.1 101)), (1, .ref ((eG E).2.1 100)), (0, .ref b)]
/-- what stands at each call of the script -/
def gW (E : gE) (k n b L j : Nat) (xs : Nat → Int32) : Prop := gC E cL_law 9 RL wsL_law ∧ gXs E b L xs ∧ uN (eS E) ∧ 3 * j + 2 < L ∧ L ≤ 1536 ∧ 12 ≤ (eR E).frames ∧ 428 ≤ (eR E).locals ∧ k + 1 ≤ (eR E).cells ∧ n + 10 ≤ (eR E).slots
/-- and on, behind it -/
def gK0 (E : gE) (k n b j : Nat) : Prop := ∀ (σ : gS) (τ : gT) (o : gO) (nw nl lm : Nat), RR σ τ nw nl lm → G E (k + 1) (n + 10) 1650 (LV E b j) [] σ τ o
