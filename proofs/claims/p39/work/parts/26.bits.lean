/-! bits (a family of kit/laws/BITS.to-paste), counts of bits, and NaN: as in the parts of whole -/
def bt (x : Int32) (i : Nat) : Bool := x.toBitVec.getLsbD i
theorem b_ext {x y : Int32} (h : ∀ i, i < 32 → bt x i = bt y i) : x = y := Int32.toBitVec_inj.mp (BitVec.eq_of_getLsbD_eq (fun i hi => h i hi))
theorem b_or (x y : Int32) (i : Nat) : bt (x ||| y) i = (bt x i || bt y i) := by unfold bt; rw [Int32.toBitVec_or, BitVec.getLsbD_or]
theorem b_and (x y : Int32) (i : Nat) : bt (x &&& y) i = (bt x i && bt y i) := by unfold bt; rw [Int32.toBitVec_and, BitVec.getLsbD_and]
theorem b_xor (x y : Int32) (i : Nat) : bt (x ^^^ y) i = (bt x i ^^ bt y i) := by unfold bt; rw [Int32.toBitVec_xor, BitVec.getLsbD_xor]
theorem b_big {x : Int32} {i : Nat} (h : 32 ≤ i) : bt x i = false := BitVec.getLsbD_of_ge _ _ h
theorem b_0 (i : Nat) : bt 0 i = false := BitVec.getLsbD_zero
theorem s_l : ∀ n, n < 32 → ((nI n &&& 31).toBitVec.smod 32).toNat = n := by decide +kernel
theorem s_u : ∀ n, n < 32 → (((nI n).toUInt32 &&& Int32.toUInt32 31).toBitVec % 32).toNat = n := by decide +kernel
theorem b_shl (n : Nat) (hn : n < 32) (x : Int32) {i : Nat} (hi : i < 32) : bt (x <<< (nI n &&& 31)) i = (decide (n ≤ i) && bt x (i - n)) := by
  unfold bt
  rw [Int32.toBitVec_shiftLeft]
  show (x.toBitVec <<< ((nI n &&& 31).toBitVec.smod 32).toNat).getLsbD i = _
  rw [s_l n hn, BitVec.getLsbD_shiftLeft]
  rcases Nat.lt_or_ge i n with h | h
  · simp [h, Nat.not_le.mpr h]
  · simp [hi, h, Nat.not_lt.mpr h]
theorem b_ushr (n : Nat) (hn : n < 32) (x : Int32) (i : Nat) : bt ((x.toUInt32 >>> ((nI n).toUInt32 &&& Int32.toUInt32 31)).toInt32) i = bt x (n + i) := by
  show (x.toUInt32 >>> ((nI n).toUInt32 &&& Int32.toUInt32 31)).toBitVec.getLsbD i = x.toUInt32.toBitVec.getLsbD (n + i)
  rw [UInt32.toBitVec_shiftRight]
  show (x.toUInt32.toBitVec >>> (((nI n).toUInt32 &&& Int32.toUInt32 31).toBitVec % 32).toNat).getLsbD i = _
  rw [s_u n hn, BitVec.getLsbD_ushiftRight]
theorem b_sshr (n : Nat) (hn : n < 32) (x : Int32) {i : Nat} (hi : i < 32) : bt (x >>> (nI n &&& 31)) i = if n + i < 32 then bt x (n + i) else bt x 31 := by
  unfold bt
  rw [Int32.toBitVec_shiftRight]
  show (x.toBitVec.sshiftRight ((nI n &&& 31).toBitVec.smod 32).toNat).getLsbD i = _
  rw [s_l n hn, BitVec.getLsbD_sshiftRight, BitVec.msb_eq_getLsbD_last]
  simp [hi]
/-- one bit -/
abbrev sb (b : Nat) : Int32 := (1 : Int32) <<< (nI b &&& 31)
theorem bt_1 : ∀ i, i < 32 → bt 1 i = decide (i = 0) := by decide +kernel
theorem bt_sb {b : Nat} (hb : b < 32) {i : Nat} (hi : i < 32) : bt (sb b) i = decide (i = b) := by
  rw [b_shl b hb 1 hi, bt_1 _ (by omega)]
  by_cases h : i = b
  · rw [h]; simp
  · by_cases h2 : b ≤ i
    · rw [decide_eq_false h, decide_eq_false (show ¬ (i - b = 0) by omega), Bool.and_false]
    · rw [decide_eq_false h, decide_eq_false h2, Bool.false_and]
/-- how many of the lower n bits are set -/
def pcn (y : Nat) : Nat → Nat
  | 0 => 0
  | a + 1 => pcn y a + y / 2 ^ a % 2
theorem bc_all : (List.range 4096).all (fun y => decide (bcF (nI y) = nI (pcn y 12))) = true := by decide +kernel
theorem bc_pc {y : Nat} (hy : y < 4096) : bcF (nI y) = nI (pcn y 12) := of_decide_eq_true (List.all_eq_true.mp bc_all y (List.mem_range.mpr hy))
theorem pcn_hi {y n : Nat} (hy : y < 2 ^ n) : ∀ m, pcn y (n + m) = pcn y n := by
  intro m
  induction m with
  | zero => rfl
  | succ m ih =>
    show pcn y (n + m) + y / 2 ^ (n + m) % 2 = _
    rw [ih, Nat.div_eq_of_lt (Nat.lt_of_lt_of_le hy (Nat.pow_le_pow_right (by decide) (by omega)))]
    rfl
theorem upd_at {f : Nat → Int32} {k : Nat} {x : Int32} (h : f k = x) : upd f k x = f := by
  funext j
  by_cases e : j = k
  · rw [e, upd_eq, h]
  · rw [upd_ne e]
theorem nI_bt {x i : Nat} (hi : i < 32) : bt (nI x) i = x.testBit i := by
  show (BitVec.ofNat 32 x).getLsbD i = _
  rw [BitVec.getLsbD_ofNat, decide_eq_true hi, Bool.true_and]
theorem nI_xor (x y : Nat) : nI x ^^^ nI y = nI (x ^^^ y) := b_ext (fun i hi => by rw [b_xor, nI_bt hi, nI_bt hi, nI_bt hi, Nat.testBit_xor])
theorem sb_2 : ∀ b, b < 12 → sb b = nI (2 ^ b) := by decide +kernel
theorem in_of {x : Int32} {lo hi : Nat} (hh : hi < 2 ^ 30) (h1 : ¬ x < nI lo) (h2 : x ≤ nI hi) (hl : lo < 2 ^ 30) : ∃ k, lo ≤ k ∧ k ≤ hi ∧ x = nI k := by
  have h1 := Int32.not_lt.mp h1
  rw [Int32.le_iff_toInt_le, nI_toInt (by omega)] at h1 h2
  refine ⟨x.toInt.toNat, by omega, by omega, ?_⟩
  apply Int32.toInt_inj.mp
  rw [nI_toInt (by omega)]
  omega
theorem mean_n {e s : Int32} (h : ¬ s = 0) : vf_n64 (FP.ddiv (FP.i2d e) (FP.i2d s)) := by
  have h1 : FP.Core.dIsNaN (FP.ddiv (FP.i2d e) (FP.i2d s)) = false := FP.Core.ddiv_out (FP.Core.i2d_fin e).notNaN (FP.Core.i2d_fin s) (fun z => FP.Core.i2d_ne_zero h ((FP.Core.zero_bits2 _).mp z))
  have h2 : ¬ 9218868437227405312 < (FP.ddiv (FP.i2d e) (FP.i2d s)).toNat % 2 ^ 63 := fun z => by
    have := (FP.Core.isNaN_bits _).mpr z
    rw [h1] at this
    cases this
  unfold vf_n64
  rw [UInt64.le_iff_toNat_le, UInt64.toNat_and, show (0x7fffffffffffffff : UInt64).toNat = 2 ^ 63 - 1 from rfl, Nat.and_two_pow_sub_one_eq_mod, show (0x7ff0000000000000 : UInt64).toNat = 9218868437227405312 from rfl]
  omega
