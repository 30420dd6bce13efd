/-! the reference's checksum: an array more in the world -/
def gX (Γ : gG) (q : Nat) (f : Nat → Int32) : gG := (Γ.1, Γ.2.1, Γ.2.2.1, Γ.2.2.2.1, Γ.2.2.2.2.1, Γ.2.2.2.2.2 ++ [(q, .inl (Γ.2.2.1, 10, .inl f))])
def eX (E : gE) (q : Nat) (f : Nat → Int32) : gE := (E.1, E.2.1, E.2.2.1, E.2.2.2.1, E.2.2.2.2.1, E.2.2.2.2.2.1, E.2.2.2.2.2.2.1, E.2.2.2.2.2.2.2.1, E.2.2.2.2.2.2.2.2.1, E.2.2.2.2.2.2.2.2.2.1, gX (eG E) q f, E.2.2.2.2.2.2.2.2.2.2.2.1, E.2.2.2.2.2.2.2.2.2.2.2.2)
theorem wX_app (Γ : gG) (q : Nat) (f : Nat → Int32) (σ : gS) (τ : gT) (o : gO) : wW (gX Γ q f) σ τ o = wW Γ σ τ o ++ [(q, .inl (Γ.2.2.1, 10, .inl f))] := (List.append_assoc _ _ _).symm
theorem wX_at (Γ : gG) (q : Nat) (f : Nat → Int32) (σ : gS) (τ : gT) (o : gO) : (wW (gX Γ q f) σ τ o)[(wW Γ σ τ o).length]? = some (q, .inl (Γ.2.2.1, 10, .inl f)) := by
  rw [wX_app, List.getElem?_append_right (Nat.le_refl _), Nat.sub_self]
  rfl
theorem wX_set (Γ : gG) (q : Nat) (f g : Nat → Int32) (σ : gS) (τ : gT) (o : gO) : (wW (gX Γ q f) σ τ o).set (wW Γ σ τ o).length (q, .inl (Γ.2.2.1, 10, .inl g)) = wW (gX Γ q g) σ τ o := by
  rw [wX_app, wX_app, List.set_append_right _ _ (Nat.le_refl _), Nat.sub_self]
  rfl
section
variable {E : gE} {cc : ByteArray} {nL : Nat} {own : String} {ws : List Cond} {k n pc : Nat} {lv : List (Nat × Value)} {st : List Value} {σ : gS} {τ : gT} {o : gO} {q : Nat} {f : Nat → Int32}
theorem g_newa10 (C : gC E cc nL own ws) (d : decode cc pc = .ok (.newarray .int, 2)) (harr : Cond.arrayClass .int ∈ ws) (hf : k + 1 ≤ (eR E).cells ∧ n + 10 ≤ (eR E).slots)
    (kk : ∀ q : Nat, (∀ f, gC (eX E q f) cc nL own ws) → G (eX E q (fun _ => 0)) (k + 1) (n + 10) (pc + 2) lv (.ref q :: st) σ τ o) : G E k n pc lv (.int 10 :: st) σ τ o := fun H locs ls hP hS hl => by
  refine va_newa (D := (eG E).1) (cl := vwCl) (atype := .int) (ty := .int) (N' := 10) (a0 := (10, .inl (fun _ => 0))) C.1 C.2.1 (C.2.2.2.2.1 _ harr) rfl C.2.2.2.2.2.1 hP (uD_of C) hS C.2.2.2.2.2.2.1 (fun cA => rfl) (by decide) (by decide) (by decide) hf.1 hf.2 d (fun q cA H1 hK1 hP1 hD1 hS1 => ?_)
  have e1 : va_RA (eS E) cA .int := (hK1.2 3 (cA, .int) rfl).2
  have e2 : va_RA (eS E) (eG E).2.2.1 .int := (C.2.2.2.2.2.1.2 0 ((eG E).2.2.1, .int) rfl).2
  have e3 : cA = (eG E).2.2.1 := Option.some.inj ((show (eS E).vm.findClass _ = some cA from e1).symm.trans e2)
  subst e3
  refine kk q (fun f => ⟨C.1, C.2.1, C.2.2.1, C.2.2.2.1, C.2.2.2.2.1, C.2.2.2.2.2.1, C.2.2.2.2.2.2.1, ?_, C.2.2.2.2.2.2.2.2.1, C.2.2.2.2.2.2.2.2.2⟩) H1 locs ls ?_ hS1 hl
  · show va_D (eA E) (wW (gX (eG E) q f) z0 zT zO)
    refine uD_map hD1 ?_
    rw [wX_app, List.map_append, List.map_append]
    rfl
  · show va_P (eG E).1 vwCl (wW (gX (eG E) q (fun _ => 0)) σ τ o) H1
    rw [wX_app]
    exact hP1
theorem g_xst (C : gC (eX E q f) cc nL own ws) {i x : Int32} (j : Nat) (d : decode cc pc = .ok (.iastore, 1)) (he : i = nI j) (hj : j < 10) (kk : G (eX E q (upd f j x)) k n (pc + 1) lv st σ τ o) : G (eX E q f) k n pc lv (.int x :: .int i :: .ref q :: st) σ τ o := fun H locs ls hP hS hl => by
  subst he
  refine va_iast (D := (eG (eX E q f)).1) (cl := vwCl) (tys := gTy (eG (eX E q f))) C.1 C.2.1 C.2.2.2.2.2.1 hP (uD_of C) hS (wW (eG E) σ τ o).length 0 (wX_at (eG E) q f σ τ o) rfl (vp_in_nI hj (by decide)) d (fun H1 locs1 hP1 _ hS1 => kk H1 locs1 ls ?_ hS1 hl)
  rw [nI_clamp (show j < 2 ^ 31 by omega)] at hP1
  show va_P (eG E).1 vwCl (wW (gX (eG E) q (upd f j x)) σ τ o) H1
  rw [← wX_set (eG E) q f (upd f j x) σ τ o]
  exact hP1
theorem g_xld (C : gC (eX E q f) cc nL own ws) {i : Int32} (j : Nat) (d : decode cc pc = .ok (.iaload, 1)) (he : i = nI j) (hj : j < 10) (kk : G (eX E q f) k n (pc + 1) lv (.int (f j) :: st) σ τ o) : G (eX E q f) k n pc lv (.int i :: .ref q :: st) σ τ o := fun H locs ls hP hS hl => by
  subst he
  refine va_iald (D := (eG (eX E q f)).1) (cl := vwCl) (tys := gTy (eG (eX E q f))) C.1 C.2.1 C.2.2.2.2.2.1 hP (wW (eG E) σ τ o).length 0 (wX_at (eG E) q f σ τ o) rfl (vp_in_nI hj (by decide)) d ?_
  rw [nI_clamp (show j < 2 ^ 31 by omega)]
  exact kk H locs ls hP hS hl
theorem g_xlen (C : gC (eX E q f) cc nL own ws) (d : decode cc pc = .ok (.arraylength, 1)) (kk : G (eX E q f) k n (pc + 1) lv (.int 10 :: st) σ τ o) : G (eX E q f) k n pc lv (.ref q :: st) σ τ o := fun H locs ls hP hS hl =>
  va_alen (D := (eG (eX E q f)).1) (cl := vwCl) (tys := gTy (eG (eX E q f))) (v := 10) C.1 C.2.1 C.2.2.2.2.2.1 hP (wW (eG E) σ τ o).length 0 (wX_at (eG E) q f σ τ o) (ty := .int) rfl rfl d (kk H locs ls hP hS hl)
theorem g_drop (kk : G E k n pc lv st σ τ o) : G (eX E q f) k n pc lv st σ τ o := fun H locs ls hP hS hl => kk H locs ls (by
  have hP2 : va_P (eG E).1 vwCl (wW (gX (eG E) q f) σ τ o) H := hP
  rw [wX_app] at hP2
  intro j x hj
  have hlt := (List.getElem?_eq_some_iff.mp hj).1
  exact hP2 j x (by rw [List.getElem?_append_left hlt]; exact hj)) hS hl
end
def smF (S : Nat → Int32) (nw w : Nat) : Int32 := sI (S w) nw
def DNm (σ : gS) (τ : gT) (nw nl : Nat) : Nat → Int32 := lst [σ 21, σ 22, σ 23, σ 24, σ 30, CTm σ τ nl, CTm σ τ nl * σ 24, CCm σ τ nw nl, σ 25, σ 26]
def DGm (σ : gS) (τ : gT) (nw nl : Nat) : Int64 := dpl (dw (dlf 1913 (DNm σ τ nw nl) 10) (τ 27) (cnf (σ 22) (τ 27)) (smF (τ 28) nw) nw) (τ 31) (τ 32) (CWm σ τ nw nl) (cjd (prm σ τ nw nl)) nl
theorem CTm_s {σ : gS} {τ τ' : gT} {nl : Nat} (h : MS τ τ') : CTm σ τ' nl = CTm σ τ nl := by
  unfold CTm
  rw [h 27 (by decide), h 31 (by decide), h 32 (by decide)]
/-- the ten numbers, laid one by one -/
def lay (g : Nat → Int32) : Nat → Nat → Int32
  | 0 => fun _ => 0
  | j + 1 => upd (lay g j) j (g j)
theorem lay_at (g : Nat → Int32) : ∀ m j, j < m → lay g m j = g j := by
  intro m
  induction m with
  | zero => intro j hj; exact absurd hj (Nat.not_lt_zero j)
  | succ m ih =>
    intro j hj
    show upd (lay g m) m (g m) j = g j
    by_cases e : j = m
    · rw [e, upd_eq]
    · rw [upd_ne e]
      exact ih j (by omega)
set_option maxRecDepth 100000 in
theorem mwX1_digest_inM : ∀ w ∈ wsX10, w ∈ wsX1_digest := by decide +kernel
set_option maxRecDepth 100000 in
theorem mwX1_digest_f55 : Cond.fieldLink RX1 55 "TelegraphPricesModel" "length" "I" ∈ wsX1_digest := by decide +kernel
set_option maxRecDepth 100000 in
theorem mwX1_digest_c141 : Cond.constantLong RX1 141 (31) ∈ wsX1_digest := by decide +kernel
set_option maxRecDepth 100000 in
theorem mwX1_digest_f29 : Cond.fieldLink RX1 29 "TelegraphPricesModel" "word" "[I" ∈ wsX1_digest := by decide +kernel
set_option maxRecDepth 100000 in
theorem mwX1_digest_f32 : Cond.fieldLink RX1 32 "TelegraphPricesModel" "joined" "[Z" ∈ wsX1_digest := by decide +kernel
set_option maxRecDepth 100000 in
theorem mwX1_digest_f39 : Cond.fieldLink RX1 39 "TelegraphPricesModel" "cheap" "[I" ∈ wsX1_digest := by decide +kernel
set_option maxRecDepth 100000 in
theorem mwX1_digest_f42 : Cond.fieldLink RX1 42 "TelegraphPricesModel" "with" "[Z" ∈ wsX1_digest := by decide +kernel
set_option maxRecDepth 100000 in
theorem mwX1_digest_f48 : Cond.fieldLink RX1 48 "TelegraphPricesModel" "words" "I" ∈ wsX1_digest := by decide +kernel
set_option maxRecDepth 100000 in
theorem mwX1_digest_f19 : Cond.fieldLink RX1 19 "TelegraphPricesModel" "letters" "[I" ∈ wsX1_digest := by decide +kernel
set_option maxRecDepth 100000 in
theorem mwX1_digest_f45 : Cond.fieldLink RX1 45 "TelegraphPricesModel" "thrown" "I" ∈ wsX1_digest := by decide +kernel
set_option maxRecDepth 100000 in
theorem mwX1_digest_ac : Cond.arrayClass .int ∈ wsX1_digest := by decide +kernel
set_option maxRecDepth 100000 in
theorem mwX1_digest_f7 : Cond.fieldLink RX1 7 "TelegraphPricesModel" "limit" "I" ∈ wsX1_digest := by decide +kernel
set_option maxRecDepth 100000 in
theorem mwX1_digest_f13 : Cond.fieldLink RX1 13 "TelegraphPricesModel" "least" "I" ∈ wsX1_digest := by decide +kernel
set_option maxRecDepth 100000 in
theorem mwX1_digest_f16 : Cond.fieldLink RX1 16 "TelegraphPricesModel" "coins" "I" ∈ wsX1_digest := by decide +kernel
set_option maxRecDepth 100000 in
theorem mwX1_digest_f36 : Cond.fieldLink RX1 36 "TelegraphPricesModel" "from" "[I" ∈ wsX1_digest := by decide +kernel
set_option maxRecDepth 100000 in
theorem mwX1_digest_f127 : Cond.fieldLink RX1 127 "TelegraphPricesModel" "sent" "I" ∈ wsX1_digest := by decide +kernel
set_option maxRecDepth 100000 in
theorem mwX1_digest_f130 : Cond.fieldLink RX1 130 "TelegraphPricesModel" "earned" "I" ∈ wsX1_digest := by decide +kernel
set_option maxRecDepth 100000 in
theorem mwX1_digest_c139 : Cond.constantLong RX1 139 (1913) ∈ wsX1_digest := by decide +kernel
set_option maxHeartbeats 4000000 in
set_option maxRecDepth 100000 in
theorem m_digest {l : Launch} (hl : l.stackTraces = false) (Γ : gG) (σ : gS) (τ : gT) (o : gO) (nw nl lm : Nat) (I : IM σ τ nw nl lm) : Ct l yX1_digest wsX1_digest 5 160 1 10 [.ref (Γ.2.1 101)] Γ σ τ o (pJ (fun r σ' τ' o' => r = DGm σ τ nw nl ∧ σ' = uS σ 20 0 ∧ o' = o ∧ MS τ τ' ∧ ∀ i, τ' 35 i = 0 ∨ τ' 35 i = 1)) (noX) := by
  refine ct_of hl (by decide +kernel) rfl (Nat.le_of_ble_eq_true rfl) ?_
  intro E C F T hΓ hL R
  subst hΓ
  subst hL
  show G E 0 0 0 [(0, .ref ((eG E).2.1 101))] [] σ τ o
  have hnw := Iv_nw I
  have hnl := Iv_nl I
  have h3 : σ 21 = nI nw := Iv_h3 I
  have h9 : σ 30 = nI nl := Iv_h9 I
  have h4 : ¬ σ 22 = 0 := Iv_ne I
  have I0 : IM (uS σ 20 0) τ nw nl lm := I
  have h30 : uS σ 20 0 21 = nI nw := h3
  have h90 : uS σ 20 0 30 = nI nl := h9
  have h40 : ¬ uS σ 20 0 22 = 0 := h4
  have Rx : ∀ q f, eR (eX E q f) = { frames := 5, cells := 1, slots := 10, locals := 160 } := fun _ _ => R
  have loop3 : ∀ τ1 : gT, CM (uS σ 20 0) τ nw nl nl τ1 → ∀ m p : Nat, p + m = nl → G E (0 + 0 + 1 + 0 + 0 + 0) (0 + 0 + 10 + 0 + 0 + 0) 213 [(4, .int (nI p)), (2, .long (dpl (dw (dlf 1913 (DNm σ τ nw nl) 10) (τ 27) (cnf (σ 22) (τ 27)) (smF (τ 28) nw) nw) (τ 31) (τ 32) (CWm σ τ nw nl) (cjd (prm σ τ nw nl)) p)), (0, .ref ((eG E).2.1 101))] [] (uS σ 20 0) τ1 o := by
    intro τ1 hC m
    have e31 : τ1 31 = τ 31 := hC.1 31 (by decide)
    have e32 : τ1 32 = τ 32 := hC.1 32 (by decide)
    induction m with
    | zero =>
      intro p hp
      refine g_iload C dX1_digest_213 rfl ?_
      refine g_aload_n C dX1_digest_215 rfl rfl ?_
      refine g_getM C 10 dX1_digest_216 mwX1_digest_inM (by decide) mwX1_digest_f55 rfl rfl ?_
      refine g_icmp_ge (tgt := 304) C dX1_digest_219 (by decide) (fun c_219 => ?_) (fun c_219 => ?_)
      · refine g_lload_n C dX1_digest_304 rfl rfl ?_
        exact g_lret C F dX1_digest_305 (by decide) (by decide) ⟨_, rfl, by rw [show p = nl by omega]; rfl, rfl, rfl, hC.1, hC.2.2.1⟩
      · exact absurd (by rw [h90]; exact nI_le (by omega) (by omega)) c_219
    | succ m ih =>
      intro p hp
      have hpl : p < nl := by omega
      refine g_iload C dX1_digest_213 rfl ?_
      refine g_aload_n C dX1_digest_215 rfl rfl ?_
      refine g_getM C 10 dX1_digest_216 mwX1_digest_inM (by decide) mwX1_digest_f55 rfl rfl ?_
      refine g_icmp_ge (tgt := 304) C dX1_digest_219 (by decide) (fun c_219 => ?_) (fun c_219 => ?_)
      · exact absurd (by rw [h90] at c_219; exact c_219) (nI_ge (by omega) (by omega))
      · refine g_lload_n C dX1_digest_222 rfl rfl ?_
        refine g_ldc2 C dX1_digest_223 mwX1_digest_c141 ?_
        refine g_lmul C dX1_digest_226 ?_
        refine g_aload_n C dX1_digest_227 rfl rfl ?_
        refine g_getM C 11 dX1_digest_228 mwX1_digest_inM (by decide) mwX1_digest_f29 rfl rfl ?_
        refine g_iload C dX1_digest_231 rfl ?_
        refine g_ialdN C (p) dX1_digest_233 rfl rfl (show p < 16 by omega) (by decide) ?_
        rw [e31]
        refine g_i2l C dX1_digest_234 ?_
        refine g_ladd C dX1_digest_235 ?_
        refine g_lstore_n C [(2, _), (4, _), (0, _)] dX1_digest_236 rfl (by decide) rfl ?_
        refine g_lload_n C dX1_digest_237 rfl rfl ?_
        refine g_ldc2 C dX1_digest_238 mwX1_digest_c141 ?_
        refine g_lmul C dX1_digest_241 ?_
        refine g_aload_n C dX1_digest_242 rfl rfl ?_
        refine g_getM C 12 dX1_digest_243 mwX1_digest_inM (by decide) mwX1_digest_f32 rfl rfl ?_
        refine g_iload C dX1_digest_246 rfl ?_
        refine g_zaldN C (p) dX1_digest_248 rfl rfl (show p < 16 by omega) (by decide) ?_
        rw [e32]
        refine g_if_eq (tgt := 256) C dX1_digest_249 (by decide) (fun c_249 => ?_) (fun c_249 => ?_)
        · refine g_iconst (v := 0) C dX1_digest_256 (by decide) ?_
          refine g_topi (show _ = τ 32 p from c_249.symm) ?_
          refine g_i2l C dX1_digest_257 ?_
          refine g_ladd C dX1_digest_258 ?_
          refine g_lstore_n C [(2, _), (4, _), (0, _)] dX1_digest_259 rfl (by decide) rfl ?_
          refine g_lload_n C dX1_digest_260 rfl rfl ?_
          refine g_ldc2 C dX1_digest_261 mwX1_digest_c141 ?_
          refine g_lmul C dX1_digest_264 ?_
          refine g_aload_n C dX1_digest_265 rfl rfl ?_
          refine g_getM C 14 dX1_digest_266 mwX1_digest_inM (by decide) mwX1_digest_f39 rfl rfl ?_
          refine g_iload C dX1_digest_269 rfl ?_
          refine g_ialdN C (p) dX1_digest_271 rfl rfl (show p < 16 by omega) (by decide) ?_
          refine g_topi (show _ = CWm σ τ nw nl p from (hC.2.2.2 p hpl).1) ?_
          refine g_i2l C dX1_digest_272 ?_
          refine g_ladd C dX1_digest_273 ?_
          refine g_lstore_n C [(2, _), (4, _), (0, _)] dX1_digest_274 rfl (by decide) rfl ?_
          refine g_lload_n C dX1_digest_275 rfl rfl ?_
          refine g_ldc2 C dX1_digest_276 mwX1_digest_c141 ?_
          refine g_lmul C dX1_digest_279 ?_
          refine g_aload_n C dX1_digest_280 rfl rfl ?_
          refine g_getM C 15 dX1_digest_281 mwX1_digest_inM (by decide) mwX1_digest_f42 rfl rfl ?_
          refine g_iload C dX1_digest_284 rfl ?_
          refine g_zaldN C (p) dX1_digest_286 rfl rfl (show p < 16 by omega) (by decide) ?_
          refine g_topi (show _ = cjd (prm σ τ nw nl) p from (hC.2.2.2 p hpl).2) ?_
          refine g_if_eq (tgt := 294) C dX1_digest_287 (by decide) (fun c_287 => ?_) (fun c_287 => ?_)
          · refine g_iconst (v := 0) C dX1_digest_294 (by decide) ?_
            refine g_topi (show _ = cjd (prm σ τ nw nl) p from c_287.symm) ?_
            refine g_i2l C dX1_digest_295 ?_
            refine g_ladd C dX1_digest_296 ?_
            refine g_lstore_n C [(2, _), (4, _), (0, _)] dX1_digest_297 rfl (by decide) rfl ?_
            refine g_iinc C 1 [(4, _), (2, _), (0, _)] dX1_digest_298 rfl (nI_i1 p) (by decide) rfl ?_
            refine g_goto (tgt := 213) C dX1_digest_301 (by decide) ?_
            exact ih (p + 1) (by omega)
          · refine g_iconst (v := 1) C dX1_digest_290 (by decide) ?_
            refine g_topi (show _ = cjd (prm σ τ nw nl) p from ((cjd_01 _ p).resolve_left c_287).symm) ?_
            refine g_goto (tgt := 295) C dX1_digest_291 (by decide) ?_
            refine g_i2l C dX1_digest_295 ?_
            refine g_ladd C dX1_digest_296 ?_
            refine g_lstore_n C [(2, _), (4, _), (0, _)] dX1_digest_297 rfl (by decide) rfl ?_
            refine g_iinc C 1 [(4, _), (2, _), (0, _)] dX1_digest_298 rfl (nI_i1 p) (by decide) rfl ?_
            refine g_goto (tgt := 213) C dX1_digest_301 (by decide) ?_
            exact ih (p + 1) (by omega)
        · refine g_iconst (v := 1) C dX1_digest_252 (by decide) ?_
          refine g_topi (show _ = τ 32 p from ((Iv_jd I p).resolve_left c_249).symm) ?_
          refine g_goto (tgt := 257) C dX1_digest_253 (by decide) ?_
          refine g_i2l C dX1_digest_257 ?_
          refine g_ladd C dX1_digest_258 ?_
          refine g_lstore_n C [(2, _), (4, _), (0, _)] dX1_digest_259 rfl (by decide) rfl ?_
          refine g_lload_n C dX1_digest_260 rfl rfl ?_
          refine g_ldc2 C dX1_digest_261 mwX1_digest_c141 ?_
          refine g_lmul C dX1_digest_264 ?_
          refine g_aload_n C dX1_digest_265 rfl rfl ?_
          refine g_getM C 14 dX1_digest_266 mwX1_digest_inM (by decide) mwX1_digest_f39 rfl rfl ?_
          refine g_iload C dX1_digest_269 rfl ?_
          refine g_ialdN C (p) dX1_digest_271 rfl rfl (show p < 16 by omega) (by decide) ?_
          refine g_topi (show _ = CWm σ τ nw nl p from (hC.2.2.2 p hpl).1) ?_
          refine g_i2l C dX1_digest_272 ?_
          refine g_ladd C dX1_digest_273 ?_
          refine g_lstore_n C [(2, _), (4, _), (0, _)] dX1_digest_274 rfl (by decide) rfl ?_
          refine g_lload_n C dX1_digest_275 rfl rfl ?_
          refine g_ldc2 C dX1_digest_276 mwX1_digest_c141 ?_
          refine g_lmul C dX1_digest_279 ?_
          refine g_aload_n C dX1_digest_280 rfl rfl ?_
          refine g_getM C 15 dX1_digest_281 mwX1_digest_inM (by decide) mwX1_digest_f42 rfl rfl ?_
          refine g_iload C dX1_digest_284 rfl ?_
          refine g_zaldN C (p) dX1_digest_286 rfl rfl (show p < 16 by omega) (by decide) ?_
          refine g_topi (show _ = cjd (prm σ τ nw nl) p from (hC.2.2.2 p hpl).2) ?_
          refine g_if_eq (tgt := 294) C dX1_digest_287 (by decide) (fun c_287 => ?_) (fun c_287 => ?_)
          · refine g_iconst (v := 0) C dX1_digest_294 (by decide) ?_
            refine g_topi (show _ = cjd (prm σ τ nw nl) p from c_287.symm) ?_
            refine g_i2l C dX1_digest_295 ?_
            refine g_ladd C dX1_digest_296 ?_
            refine g_lstore_n C [(2, _), (4, _), (0, _)] dX1_digest_297 rfl (by decide) rfl ?_
            refine g_iinc C 1 [(4, _), (2, _), (0, _)] dX1_digest_298 rfl (nI_i1 p) (by decide) rfl ?_
            refine g_goto (tgt := 213) C dX1_digest_301 (by decide) ?_
            exact ih (p + 1) (by omega)
          · refine g_iconst (v := 1) C dX1_digest_290 (by decide) ?_
            refine g_topi (show _ = cjd (prm σ τ nw nl) p from ((cjd_01 _ p).resolve_left c_287).symm) ?_
            refine g_goto (tgt := 295) C dX1_digest_291 (by decide) ?_
            refine g_i2l C dX1_digest_295 ?_
            refine g_ladd C dX1_digest_296 ?_
            refine g_lstore_n C [(2, _), (4, _), (0, _)] dX1_digest_297 rfl (by decide) rfl ?_
            refine g_iinc C 1 [(4, _), (2, _), (0, _)] dX1_digest_298 rfl (nI_i1 p) (by decide) rfl ?_
            refine g_goto (tgt := 213) C dX1_digest_301 (by decide) ?_
            exact ih (p + 1) (by omega)
  have loop2 : ∀ τ1 : gT, CM (uS σ 20 0) τ nw nl nl τ1 → ∀ m a : Nat, a + m = nw → G E (0 + 0 + 1 + 0 + 0 + 0) (0 + 0 + 10 + 0 + 0 + 0) 147 [(4, .int (nI a)), (2, .long (dw (dlf 1913 (DNm σ τ nw nl) 10) (τ 27) (cnf (σ 22) (τ 27)) (smF (τ 28) nw) a)), (0, .ref ((eG E).2.1 101))] [] (uS σ 20 0) τ1 o := by
    intro τ1 hC m
    have e27 : τ1 27 = τ 27 := hC.1 27 (by decide)
    have e28 : τ1 28 = τ 28 := hC.1 28 (by decide)
    have I1 : IM (uS σ 20 0) τ1 nw nl lm := IM_cong I0 hC.1 hC.2.2.1
    induction m with
    | zero =>
      intro a ha
      refine g_iload C dX1_digest_147 rfl ?_
      refine g_aload_n C dX1_digest_149 rfl rfl ?_
      refine g_getM C 1 dX1_digest_150 mwX1_digest_inM (by decide) mwX1_digest_f48 rfl rfl ?_
      refine g_icmp_ge (tgt := 210) C dX1_digest_153 (by decide) (fun c_153 => ?_) (fun c_153 => ?_)
      · refine g_iconst (v := 0) C dX1_digest_210 (by decide) ?_
        refine g_istore C [(4, _), (2, _), (0, _)] dX1_digest_211 (by decide) rfl ?_
        rw [show a = nw by omega]
        exact loop3 τ1 hC nl 0 (Nat.zero_add _)
      · exact absurd (by rw [h30]; exact nI_le (by omega) (by omega)) c_153
    | succ m ih =>
      intro a ha
      refine g_iload C dX1_digest_147 rfl ?_
      refine g_aload_n C dX1_digest_149 rfl rfl ?_
      refine g_getM C 1 dX1_digest_150 mwX1_digest_inM (by decide) mwX1_digest_f48 rfl rfl ?_
      refine g_icmp_ge (tgt := 210) C dX1_digest_153 (by decide) (fun c_153 => ?_) (fun c_153 => ?_)
      · exact absurd (by rw [h30] at c_153; exact c_153) (nI_ge (by omega) (by omega))
      · refine g_lload_n C dX1_digest_156 rfl rfl ?_
        refine g_ldc2 C dX1_digest_157 mwX1_digest_c141 ?_
        refine g_lmul C dX1_digest_160 ?_
        refine g_aload_n C dX1_digest_161 rfl rfl ?_
        refine g_getM C 7 dX1_digest_162 mwX1_digest_inM (by decide) mwX1_digest_f19 rfl rfl ?_
        refine g_iload C dX1_digest_165 rfl ?_
        refine g_ialdN C (a) dX1_digest_167 rfl rfl (show a < 12 by omega) (by decide) ?_
        rw [e27]
        refine g_i2l C dX1_digest_168 ?_
        refine g_ladd C dX1_digest_169 ?_
        refine g_lstore_n C [(2, _), (4, _), (0, _)] dX1_digest_170 rfl (by decide) rfl ?_
        refine g_lload_n C dX1_digest_171 rfl rfl ?_
        refine g_ldc2 C dX1_digest_172 mwX1_digest_c141 ?_
        refine g_lmul C dX1_digest_175 ?_
        refine g_aload_n C dX1_digest_176 rfl rfl ?_
        refine g_aload_n C dX1_digest_177 rfl rfl ?_
        refine g_getM C 7 dX1_digest_178 mwX1_digest_inM (by decide) mwX1_digest_f19 rfl rfl ?_
        refine g_iload C dX1_digest_181 rfl ?_
        refine g_ialdN C (a) dX1_digest_183 rfl rfl (show a < 12 by omega) (by decide) ?_
        rw [e27]
        refine g_callVEi (Cl := RX1) (T := TX1) (N := 16) (ci := 1) (q0 := 12) (na := 1) C dX1_digest_184 (m_counts hl (eG E) (uS σ 20 0) τ1 o _ h40) gX1_digest_X1_counts rfl rfl (by decide +kernel) rfl rfl rfl (Nat.le_of_ble_eq_true rfl) (by rw [R]; exact ⟨by decide, by decide⟩) (by rw [R]; exact ⟨by decide, by decide⟩) ?_
        refine g_i2l C dX1_digest_187 ?_
        refine g_ladd C dX1_digest_188 ?_
        refine g_lstore_n C [(2, _), (4, _), (0, _)] dX1_digest_189 rfl (by decide) rfl ?_
        refine g_lload_n C dX1_digest_190 rfl rfl ?_
        refine g_ldc2 C dX1_digest_191 mwX1_digest_c141 ?_
        refine g_lmul C dX1_digest_194 ?_
        refine g_aload_n C dX1_digest_195 rfl rfl ?_
        refine g_iload C dX1_digest_196 rfl ?_
        refine g_callVEi (Cl := RX1) (T := TX1) (N := 16) (ci := 1) (q0 := 12) (na := 1) C dX1_digest_198 (m_standIns hl (eG E) (uS σ 20 0) τ1 o nw nl lm _ I1 (vp_in_nI (show a < 12 by omega) (by decide))) gX1_digest_X1_standIns rfl rfl (by decide +kernel) rfl rfl rfl (Nat.le_of_ble_eq_true rfl) (by rw [R]; exact ⟨by decide, by decide⟩) (by rw [R]; exact ⟨by decide, by decide⟩) ?_
        rw [nI_clamp (show a < 2 ^ 31 by omega), e28]
        refine g_i2l C dX1_digest_201 ?_
        refine g_ladd C dX1_digest_202 ?_
        refine g_lstore_n C [(2, _), (4, _), (0, _)] dX1_digest_203 rfl (by decide) rfl ?_
        refine g_iinc C 1 [(4, _), (2, _), (0, _)] dX1_digest_204 rfl (nI_i1 a) (by decide) rfl ?_
        refine g_goto (tgt := 147) C dX1_digest_207 (by decide) ?_
        exact ih (a + 1) (by omega)
  have loop1 : ∀ τ1 : gT, CM (uS σ 20 0) τ nw nl nl τ1 → ∀ (q : Nat) (f : Nat → Int32), (∀ f, gC (eX E q f) cX1_digest 8 yX1_digest.cls wsX1_digest) → (∀ i, i < 10 → f i = DNm σ τ nw nl i) → ∀ m i : Nat, i + m = 10 → G (eX E q f) (0 + 0 + 1 + 0 + 0 + 0) (0 + 0 + 10 + 0 + 0 + 0) 114 [(6, .int (nI i)), (5, .int 10), (4, .ref q), (2, .long (dlf 1913 (DNm σ τ nw nl) i)), (1, .ref q), (0, .ref ((eG E).2.1 101))] [] (uS σ 20 0) τ1 o := by
    intro τ1 hC q f Cx hf m
    induction m with
    | zero =>
      intro i hi
      refine g_iload (Cx _) dX1_digest_114 rfl ?_
      refine g_iload (Cx _) dX1_digest_116 rfl ?_
      refine g_icmp_ge (tgt := 144) (Cx _) dX1_digest_118 (by decide) (fun c_118 => ?_) (fun c_118 => ?_)
      · refine g_iconst (v := 0) (Cx _) dX1_digest_144 (by decide) ?_
        refine g_istore (Cx _) [(4, _), (6, _), (5, _), (2, _), (1, _), (0, _)] dX1_digest_145 (by decide) rfl ?_
        refine g_lv [0, 3, 5] [(4, _), (2, _), (0, _)] rfl ?_
        refine g_drop ?_
        rw [show i = 10 by omega]
        exact loop2 τ1 hC nw 0 (Nat.zero_add _)
      · exact absurd (show nI 10 ≤ nI i from nI_le (by omega) (by omega)) c_118
    | succ m ih =>
      intro i hi
      refine g_iload (Cx _) dX1_digest_114 rfl ?_
      refine g_iload (Cx _) dX1_digest_116 rfl ?_
      refine g_icmp_ge (tgt := 144) (Cx _) dX1_digest_118 (by decide) (fun c_118 => ?_) (fun c_118 => ?_)
      · exact absurd (show nI 10 ≤ nI i from c_118) (nI_ge (by omega) (by omega))
      · refine g_aload (Cx _) dX1_digest_121 rfl ?_
        refine g_iload (Cx _) dX1_digest_123 rfl ?_
        refine g_xld (Cx _) i dX1_digest_125 rfl (by omega) ?_
        rw [hf i (by omega)]
        refine g_istore (Cx _) [(7, _), (6, _), (5, _), (4, _), (2, _), (1, _), (0, _)] dX1_digest_126 (by decide) rfl ?_
        refine g_lload_n (Cx _) dX1_digest_128 rfl rfl ?_
        refine g_ldc2 (Cx _) dX1_digest_129 mwX1_digest_c141 ?_
        refine g_lmul (Cx _) dX1_digest_132 ?_
        refine g_iload (Cx _) dX1_digest_133 rfl ?_
        refine g_i2l (Cx _) dX1_digest_135 ?_
        refine g_ladd (Cx _) dX1_digest_136 ?_
        refine g_lstore_n (Cx _) [(2, _), (7, _), (6, _), (5, _), (4, _), (1, _), (0, _)] dX1_digest_137 rfl (by decide) rfl ?_
        refine g_iinc (Cx _) 2 [(6, _), (2, _), (7, _), (5, _), (4, _), (1, _), (0, _)] dX1_digest_138 rfl (nI_i1 i) (by decide) rfl ?_
        refine g_goto (tgt := 114) (Cx _) dX1_digest_141 (by decide) ?_
        refine g_lv [0, 3, 4, 1, 5, 6] [(6, _), (5, _), (4, _), (2, _), (1, _), (0, _)] rfl ?_
        exact ih (i + 1) (by omega)
  refine g_aload_n C dX1_digest_0 rfl rfl ?_
  refine g_iconst (v := 0) C dX1_digest_1 (by decide) ?_
  refine g_putM C 0 dX1_digest_2 mwX1_digest_inM (by decide) mwX1_digest_f45 rfl rfl (by decide +kernel) rfl ?_
  refine g_aload_n C dX1_digest_5 rfl rfl ?_
  refine g_callVv (Cl := RX1) (T := TX1) (N := 16) (ci := 1) (q0 := 12) (na := 0) C dX1_digest_6 (m_choose hl (eG E) (uS σ 20 0) τ o nw nl lm I0) gX1_digest_X1_choose rfl rfl (by decide +kernel) rfl rfl rfl (Nat.le_of_ble_eq_true rfl) (by rw [R]; exact ⟨by decide, by decide⟩) (by rw [R]; exact ⟨by decide, by decide⟩) noX_kx (fun σ1 τ1 o1 hN1 => ?_)
  obtain ⟨e1, e2, hN⟩ := hN1
  rw [e1, e2]
  have I1 : IM (uS σ 20 0) τ1 nw nl lm := IM_cong I0 hN.1 hN.2.2.1
  have eC : CTm (uS σ 20 0) τ1 nl = CTm σ τ nl := CTm_s (σ := uS σ 20 0) hN.1
  refine g_bipush (v := 10) C dX1_digest_9 (by decide) ?_
  refine g_newa10 C dX1_digest_11 mwX1_digest_ac (by rw [R]; exact ⟨by decide, by decide⟩) (fun q Cx => ?_)
  refine g_dup (Cx _) dX1_digest_13 rfl ?_
  refine g_iconst (v := 0) (Cx _) dX1_digest_14 (by decide) ?_
  refine g_aload_n (Cx _) dX1_digest_15 rfl rfl ?_
  refine g_getM (Cx _) 1 dX1_digest_16 mwX1_digest_inM (by decide) mwX1_digest_f48 rfl rfl ?_
  refine g_xst (Cx _) 0 dX1_digest_19 rfl (by decide) ?_
  refine g_dup (Cx _) dX1_digest_20 rfl ?_
  refine g_iconst (v := 1) (Cx _) dX1_digest_21 (by decide) ?_
  refine g_aload_n (Cx _) dX1_digest_22 rfl rfl ?_
  refine g_getM (Cx _) 2 dX1_digest_23 mwX1_digest_inM (by decide) mwX1_digest_f7 rfl rfl ?_
  refine g_xst (Cx _) 1 dX1_digest_26 rfl (by decide) ?_
  refine g_dup (Cx _) dX1_digest_27 rfl ?_
  refine g_iconst (v := 2) (Cx _) dX1_digest_28 (by decide) ?_
  refine g_aload_n (Cx _) dX1_digest_29 rfl rfl ?_
  refine g_getM (Cx _) 3 dX1_digest_30 mwX1_digest_inM (by decide) mwX1_digest_f13 rfl rfl ?_
  refine g_xst (Cx _) 2 dX1_digest_33 rfl (by decide) ?_
  refine g_dup (Cx _) dX1_digest_34 rfl ?_
  refine g_iconst (v := 3) (Cx _) dX1_digest_35 (by decide) ?_
  refine g_aload_n (Cx _) dX1_digest_36 rfl rfl ?_
  refine g_getM (Cx _) 4 dX1_digest_37 mwX1_digest_inM (by decide) mwX1_digest_f16 rfl rfl ?_
  refine g_xst (Cx _) 3 dX1_digest_40 rfl (by decide) ?_
  refine g_dup (Cx _) dX1_digest_41 rfl ?_
  refine g_iconst (v := 4) (Cx _) dX1_digest_42 (by decide) ?_
  refine g_aload_n (Cx _) dX1_digest_43 rfl rfl ?_
  refine g_getM (Cx _) 10 dX1_digest_44 mwX1_digest_inM (by decide) mwX1_digest_f55 rfl rfl ?_
  refine g_xst (Cx _) 4 dX1_digest_47 rfl (by decide) ?_
  refine g_dup (Cx _) dX1_digest_48 rfl ?_
  refine g_iconst (v := 5) (Cx _) dX1_digest_49 (by decide) ?_
  refine g_aload_n (Cx _) dX1_digest_50 rfl rfl ?_
  refine g_callVEi (Cl := RX1) (T := TX1) (N := 16) (ci := 1) (q0 := 12) (na := 0) (Cx _) dX1_digest_51 (m_countNow hl _ (uS σ 20 0) τ1 o nw nl lm I1) gX1_digest_X1_countNow rfl rfl (by decide +kernel) rfl rfl rfl (Nat.le_of_ble_eq_true rfl) (by rw [Rx]; exact ⟨by decide, by decide⟩) (by rw [Rx]; exact ⟨by decide, by decide⟩) ?_
  rw [eC]
  refine g_xst (Cx _) 5 dX1_digest_54 rfl (by decide) ?_
  refine g_dup (Cx _) dX1_digest_55 rfl ?_
  refine g_bipush (v := 6) (Cx _) dX1_digest_56 (by decide) ?_
  refine g_aload_n (Cx _) dX1_digest_58 rfl rfl ?_
  refine g_callVEi (Cl := RX1) (T := TX1) (N := 16) (ci := 1) (q0 := 12) (na := 0) (Cx _) dX1_digest_59 (m_countNow hl _ (uS σ 20 0) τ1 o nw nl lm I1) gX1_digest_X1_countNow rfl rfl (by decide +kernel) rfl rfl rfl (Nat.le_of_ble_eq_true rfl) (by rw [Rx]; exact ⟨by decide, by decide⟩) (by rw [Rx]; exact ⟨by decide, by decide⟩) ?_
  rw [eC]
  refine g_aload_n (Cx _) dX1_digest_62 rfl rfl ?_
  refine g_getM (Cx _) 4 dX1_digest_63 mwX1_digest_inM (by decide) mwX1_digest_f16 rfl rfl ?_
  refine g_imul (Cx _) dX1_digest_66 ?_
  refine g_xst (Cx _) 6 dX1_digest_67 rfl (by decide) ?_
  refine g_dup (Cx _) dX1_digest_68 rfl ?_
  refine g_bipush (v := 7) (Cx _) dX1_digest_69 (by decide) ?_
  refine g_aload_n (Cx _) dX1_digest_71 rfl rfl ?_
  refine g_aload_n (Cx _) dX1_digest_72 rfl rfl ?_
  refine g_getM (Cx _) 13 dX1_digest_73 mwX1_digest_inM (by decide) mwX1_digest_f36 rfl rfl ?_
  refine g_iconst (v := 0) (Cx _) dX1_digest_76 (by decide) ?_
  refine g_ialdN (Cx _) (0) dX1_digest_77 rfl rfl (show 0 < 18 by decide) (by decide) ?_
  refine g_topi (show _ = FM σ τ nw nl nl from hN.2.1 0 (Nat.zero_le _)) ?_
  refine g_callVEi (Cl := RX1) (T := TX1) (N := 16) (ci := 1) (q0 := 12) (na := 1) (Cx _) dX1_digest_78 (m_lifted hl _ (uS σ 20 0) τ1 o nl _ h90 hnl) gX1_digest_X1_lifted rfl rfl (by decide +kernel) rfl rfl rfl (Nat.le_of_ble_eq_true rfl) (by rw [Rx]; exact ⟨by decide, by decide⟩) (by rw [Rx]; exact ⟨by decide, by decide⟩) ?_
  refine g_xst (Cx _) 7 dX1_digest_81 rfl (by decide) ?_
  refine g_dup (Cx _) dX1_digest_82 rfl ?_
  refine g_bipush (v := 8) (Cx _) dX1_digest_83 (by decide) ?_
  refine g_aload_n (Cx _) dX1_digest_85 rfl rfl ?_
  refine g_getM (Cx _) 5 dX1_digest_86 mwX1_digest_inM (by decide) mwX1_digest_f127 rfl rfl ?_
  refine g_xst (Cx _) 8 dX1_digest_89 rfl (by decide) ?_
  refine g_dup (Cx _) dX1_digest_90 rfl ?_
  refine g_bipush (v := 9) (Cx _) dX1_digest_91 (by decide) ?_
  refine g_aload_n (Cx _) dX1_digest_93 rfl rfl ?_
  refine g_getM (Cx _) 6 dX1_digest_94 mwX1_digest_inM (by decide) mwX1_digest_f130 rfl rfl ?_
  refine g_xst (Cx _) 9 dX1_digest_97 rfl (by decide) ?_
  refine g_astore_n (Cx _) [(1, _), (0, _)] dX1_digest_98 rfl (by decide) rfl ?_
  refine g_ldc2 (Cx _) dX1_digest_99 mwX1_digest_c139 ?_
  refine g_lstore_n (Cx _) [(2, _), (1, _), (0, _)] dX1_digest_102 rfl (by decide) rfl ?_
  refine g_aload_n (Cx _) dX1_digest_103 rfl rfl ?_
  refine g_astore (Cx _) [(4, _), (2, _), (1, _), (0, _)] dX1_digest_104 (by decide) rfl ?_
  refine g_aload (Cx _) dX1_digest_106 rfl ?_
  refine g_xlen (Cx _) dX1_digest_108 ?_
  refine g_istore (Cx _) [(5, _), (4, _), (2, _), (1, _), (0, _)] dX1_digest_109 (by decide) rfl ?_
  refine g_iconst (v := 0) (Cx _) dX1_digest_111 (by decide) ?_
  refine g_istore (Cx _) [(6, _), (5, _), (4, _), (2, _), (1, _), (0, _)] dX1_digest_112 (by decide) rfl ?_
  exact loop1 τ1 hN q _ Cx (lay_at (DNm σ τ nw nl) 10) 10 0 (Nat.zero_add _)
