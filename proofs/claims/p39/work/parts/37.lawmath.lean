/-! what the law asks, in numbers -/
theorem prx_s {σ : gS} {τ τ' : gT} {nw nl : Nat} (h : XS τ τ') : prx σ τ' nw nl = prx σ τ nw nl := by
  have hA : LAx σ τ' nw nl = LAx σ τ nw nl := funext (fun _ => LAx_s h)
  have hJ : LJx σ τ' nw nl = LJx σ τ nw nl := funext (fun _ => LJx_s h)
  have hF : ∀ m, FX σ τ' nw nl m = FX σ τ nw nl m := fun m => by
    unfold FX
    rw [hA, hJ]
  funext p
  unfold prx
  rw [bpx_s h, hF, hF, hA]
theorem cjd_two {pr : Nat → Bool} {p : Nat} (h : ¬ cjd pr p = 0) : cjd pr (p + 1) = 0 := by
  unfold cjd at h ⊢
  cases e : isSec pr (p + 1) with
  | false =>
    rw [e] at h
    exact absurd rfl h
  | true =>
    have e2 : isSec pr (p + 1 + 1) = (!isSec pr (p + 1) && pr (p + 1)) := rfl
    rw [e2, e]
    rfl
theorem nI_maxi {x y : Nat} (hx : x < 2 ^ 31) (hy : y < 2 ^ 31) : (if nI x < nI y then nI y else nI x) = nI (max x y) := by
  by_cases h : x < y
  · rw [if_pos ((nI_ltI hx hy).mpr h), show max x y = y by omega]
  · rw [if_neg (fun q => h ((nI_ltI hx hy).mp q)), show max x y = x by omega]
theorem al_N {nl lc x : Nat} (hx : x < 2 ^ 31) (hl : lc < 2 ^ 31) : al nl (nI lc) (nI x) = nI (if nl = 0 then 0 else max x lc) := by
  unfold al
  by_cases h : nl = 0
  · rw [if_pos h, if_pos h]
    rfl
  · rw [if_neg h, if_neg h]
    exact nI_maxi hx hl
section
variable {σ : gS} {τ : gT} {nw nl lm K : Nat} {s : gS} {t : gT}
theorem ct_N (T : TS σ τ nw nl lm K s t) {lc : Nat} (e5 : σ 5 = nI lc) (h : lc ≤ 20) : ∃ c, CTx σ τ nl = nI c ∧ (nl = 0 → c = 0) ∧ (nl ≠ 0 → lc ≤ c) ∧ c ≤ max (ALx lm t nl) lc ∧ c ≤ 480 := by
  have hnl := SV_m (TS_V T)
  have h1 := SS_al (TS_V T) nl (Nat.le_refl _)
  have h2 := AL_le (TS_V T) nl (Nat.le_refl _)
  refine ⟨_, (TS_ct T).trans (by rw [(TS_n T).1, e5]; exact al_N (by omega) (by omega)), fun q => if_pos q, fun q => ?_, ?_, ?_⟩
  · rw [if_neg q]
    omega
  · split <;> omega
  · split <;> omega
theorem cc_N (T : TS σ τ nw nl lm K s t) {lc : Nat} (e5 : σ 5 = nI lc) (h : lc ≤ 20) : ∃ c, CC0 σ τ nw nl = nI c ∧ (nl = 0 → c = 0) ∧ (nl ≠ 0 → lc ≤ c) ∧ c ≤ max (ALx lm t nl) lc ∧ c ≤ 480 := by
  have hnl := SV_m (TS_V T)
  have h2 := AL_le (TS_V T) nl (Nat.le_refl _)
  have h3 := TS_F (p := 0) T (Nat.zero_le _)
  have h4 := G_al T nl 0 (Nat.zero_add _)
  refine ⟨if nl = 0 then 0 else max (Gx σ τ nw nl 0) lc, ?_, fun q => if_pos q, fun q => ?_, ?_, ?_⟩
  · show al nl (σ 5) (FX σ τ nw nl (nl - 0)) = _
    rw [h3.1, e5]
    exact al_N (by omega) (by omega)
  · rw [if_neg q]
    omega
  · split <;> omega
  · split <;> omega
end
theorem half_a {Q : Nat} (h : Q < 2 ^ 29) : ¬ nI Q < nI Q / 2 * 2 := by
  rw [show (2 : Int32) = nI 2 from rfl, pk_div (by omega) (by omega) (by omega), pk_mul]
  exact nI_nlt (by omega) (by omega)
theorem half_b {Q : Nat} (h : Q < 2 ^ 29) : nI Q - 1 ≤ nI Q / 2 * 2 := by
  rw [show (2 : Int32) = nI 2 from rfl, pk_div (by omega) (by omega) (by omega), pk_mul]
  by_cases q : Q = 0
  · rw [q]
    decide
  · rw [nI_m1 q]
    exact nI_le (by omega) (by omega)
theorem pr_N {x y : Int32} {c co z : Nat} (e1 : x = nI c) (e2 : y = nI co) : x * y * (nI z + 2) = nI (c * co * (z + 2)) := by
  rw [e1, e2, pk_mul, show (2 : Int32) = nI 2 from rfl, nI_add, pk_mul]
theorem pr_b {c co z : Nat} (h1 : c ≤ 480) (h2 : co ≤ 50) (h3 : z < 4) : c * co * (z + 2) < 2 ^ 29 := by
  have a1 : c * co ≤ 480 * 50 := Nat.mul_le_mul h1 h2
  have a2 : c * co * (z + 2) ≤ 480 * 50 * 5 := Nat.mul_le_mul a1 (by omega)
  omega
theorem wN_min {m : Nat} (h : m < 2 ^ 31) : (if lN m < (1000000 : Int64) then lN m else (1000000 : Int64)) = lN (min 1000000 m) := by
  rw [show (1000000 : Int64) = lN 1000000 from rfl]
  by_cases q : m < 1000000
  · rw [if_pos ((lN_lt h (by omega)).mpr q), show min 1000000 m = m by omega]
  · rw [if_neg (fun z => q ((lN_lt h (by omega)).mp z)), show min 1000000 m = 1000000 by omega]
section
variable {E : gE} {cc : ByteArray} {nL : Nat} {own : String} {ws : List Cond} {x : jS} {k n pc : Nat} {lv : List (Nat × Value)} {st : List Value} {w : va_W}
theorem j_mminl (C : jC E cc nL own ws x) {idx : Nat} {y z : Int64} (d : decode cc pc = .ok (.invokestatic idx, 3)) (h1 : Cond.methodLink own idx Lib.MathLoose.min_long.x ∈ ws) (h2 : Cond.static Lib.MathLoose.min_long.x ∈ ws) (h3 : Cond.initialized "java/lang/Math" ∈ ws) (h4 : Cond.code Lib.MathLoose.min_long.x Lib.MathLoose.min_long.code 4 (some .long) ∈ ws) (hR : 1 ≤ (eR E).frames ∧ (st.map fun v => v.category).sum + 15 ≤ (eR E).locals ∧ k ≤ (eR E).cells ∧ n ≤ (eR E).slots) (kk : J E k n (pc + 3) lv (.long (if z < y then z else y) :: st) w) : J E k n pc lv (.long z :: .long y :: st) w := fun H locs ls hP hD hS hl => va_mmin_long C.1 C.2.1 hl.1.symm C.2.2.2.1 (C.2.2.2.2.1 _ h1) (C.2.2.2.2.1 _ h2) (C.2.2.2.2.1 _ h3) (C.2.2.2.2.1 _ h4) hR.1 hR.2.1 hR.2.2.1 hR.2.2.2 d (kk H locs ls hP hD hS hl)
end
