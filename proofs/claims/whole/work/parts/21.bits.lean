theorem bt_lt {a : Nat} (ha : a < 2147483648) : (BitVec.ofNat 32 a).toNat = a := by
  rw [BitVec.toNat_ofNat]; exact Nat.mod_eq_of_lt (by omega)
theorem bt_int {x : BitVec 32} (h : x.toNat < 2147483648) : x.toInt = (x.toNat : Int) := by
  rw [BitVec.toInt_eq_toNat_cond, if_pos (by omega)]
theorem and_nat {a b : Nat} (ha : a < 2147483648) (hb : b < 2147483648) : ho_oand (a : Int) (b : Int) = ((a &&& b : Nat) : Int) := by
  show (BitVec.ofInt 32 (a : Int) &&& BitVec.ofInt 32 (b : Int)).toInt = _
  have e1 : BitVec.ofInt 32 (a : Int) = BitVec.ofNat 32 a := by simp
  have e2 : BitVec.ofInt 32 (b : Int) = BitVec.ofNat 32 b := by simp
  rw [e1, e2]
  have h : (BitVec.ofNat 32 a &&& BitVec.ofNat 32 b).toNat = (a &&& b) := by rw [BitVec.toNat_and, bt_lt ha, bt_lt hb]
  have h2 : (a &&& b) ≤ a := Nat.and_le_left
  rw [bt_int (by rw [h]; omega), h]
theorem or_nat {a b : Nat} (ha : a < 2147483648) (hb : b < 2147483648) : ho_oor (a : Int) (b : Int) = ((a ||| b : Nat) : Int) := by
  show (BitVec.ofInt 32 (a : Int) ||| BitVec.ofInt 32 (b : Int)).toInt = _
  have e1 : BitVec.ofInt 32 (a : Int) = BitVec.ofNat 32 a := by simp
  have e2 : BitVec.ofInt 32 (b : Int) = BitVec.ofNat 32 b := by simp
  rw [e1, e2]
  have h : (BitVec.ofNat 32 a ||| BitVec.ofNat 32 b).toNat = (a ||| b) := by rw [BitVec.toNat_or, bt_lt ha, bt_lt hb]
  have h2 : (a ||| b) < 2 ^ 31 := Nat.or_lt_two_pow (by omega) (by omega)
  rw [bt_int (by rw [h]; omega), h]
/-- a number without a bit -/
theorem shl_nat : ∀ c : Nat, c < 31 → ho_oshl 1 (c : Int) = ((2 ^ c : Nat) : Int) := by decide +kernel
theorem not_nat : ∀ c : Nat, c < 31 → ho_oxor (ho_oshl 1 (c : Int)) (-1) = -1 - ((2 ^ c : Nat) : Int) := by decide +kernel
theorem clr_nat {a c : Nat} (ha : a < 2147483648) (hc : c < 31) : ho_oand (a : Int) (ho_oxor (ho_oshl 1 (c : Int)) (-1)) = ((a &&& (2147483647 - 2 ^ c) : Nat) : Int) := by
  have e0 : ∀ c : Nat, c < 31 → (BitVec.ofInt 32 (ho_oxor (ho_oshl 1 (c : Int)) (-1))).toNat = 2147483648 + (2147483647 - 2 ^ c) := by decide +kernel
  show (BitVec.ofInt 32 (a : Int) &&& BitVec.ofInt 32 (ho_oxor (ho_oshl 1 (c : Int)) (-1))).toInt = _
  have e1 : BitVec.ofInt 32 (a : Int) = BitVec.ofNat 32 a := by simp
  rw [e1]
  have hp : 2 ^ c < 2147483648 := by
    have h9 : ∀ c : Nat, c < 31 → 2 ^ c < 2147483648 := by decide +kernel
    exact h9 c hc
  have h : (BitVec.ofNat 32 a &&& BitVec.ofInt 32 (ho_oxor (ho_oshl 1 (c : Int)) (-1))).toNat = (a &&& (2147483647 - 2 ^ c)) := by
    rw [BitVec.toNat_and, bt_lt ha, e0 c hc]
    refine Nat.eq_of_testBit_eq fun i => ?_
    rw [Nat.testBit_and, Nat.testBit_and]
    have hs : 2147483647 - 2 ^ c ≤ 2147483647 := Nat.sub_le _ _
    by_cases hi : i < 31
    · congr 1
      rw [show 2147483648 + (2147483647 - 2 ^ c) = 2 ^ 31 * 1 + (2147483647 - 2 ^ c) by omega, Nat.testBit_two_pow_mul_add _ (by omega), if_pos hi]
    · have : a.testBit i = false := Nat.testBit_lt_two_pow (Nat.lt_of_lt_of_le ha (by
        have : 2 ^ 31 ≤ 2 ^ i := Nat.pow_le_pow_right (by omega) (by omega)
        omega))
      simp [this]
  have h2 : (a &&& (2147483647 - 2 ^ c)) ≤ a := Nat.and_le_left
  rw [bt_int (by rw [h]; omega), h]
theorem shr_nat {a c : Nat} (ha : a < 2147483648) (hc : c < 31) : ho_oshr (a : Int) (c : Int) = ((a >>> c : Nat) : Int) := by
  have e0 : ∀ c : Nat, c < 31 → (Int32.ofInt (c : Int) &&& 31).toBitVec.smod 32 = BitVec.ofNat 32 c := by decide +kernel
  show ((BitVec.ofInt 32 (a : Int)).sshiftRight' ((Int32.ofInt (c : Int) &&& 31).toBitVec.smod 32)).toInt = _
  rw [e0 c hc]
  have e1 : BitVec.ofInt 32 (a : Int) = BitVec.ofNat 32 a := by simp
  rw [e1, BitVec.sshiftRight_eq', BitVec.toInt_sshiftRight, bt_int (by rw [bt_lt ha]; exact ha), bt_lt ha, bt_lt (by omega)]
  rfl
/-- bit c of a number -/
def bit (x : Int) (c : Nat) : Bool := x.toNat.testBit c
theorem and_bit {x c : Nat} (hx : x < 2147483648) (hc : c < 31) : (ho_oand (x : Int) (ho_oshl 1 (c : Int)) ≠ 0) ↔ bit x c = true := by
  have hp : 2 ^ c < 2147483648 := by
    have h9 : ∀ c : Nat, c < 31 → 2 ^ c < 2147483648 := by decide +kernel
    exact h9 c hc
  rw [shl_nat c hc, and_nat hx hp]
  show _ ↔ x.testBit c = true
  have e : (((x &&& 2 ^ c : Nat) : Int) ≠ 0) ↔ (x &&& 2 ^ c) ≠ 0 := by omega
  rw [e]
  constructor
  · intro h
    refine Decidable.byContradiction fun q => h (Nat.eq_of_testBit_eq fun i => ?_)
    rw [Nat.testBit_and, Nat.testBit_two_pow, Nat.zero_testBit]
    by_cases hi : c = i
    · subst hi; simp [q]
    · simp [hi]
  · intro h q
    have h2 : (x &&& 2 ^ c).testBit c = true := by rw [Nat.testBit_and, Nat.testBit_two_pow, h]; simp
    rw [q, Nat.zero_testBit] at h2
    cases h2
theorem shr_bit {x c : Nat} (hx : x < 2147483648) (hc : c < 31) : ho_oand (ho_oshr (x : Int) (c : Int)) 1 = 1 ↔ bit x c = true := by
  rw [shr_nat hx hc]
  have h1 : x >>> c ≤ x := Nat.shiftRight_le x c
  have h2 : ho_oand ((x >>> c : Nat) : Int) 1 = ((x >>> c &&& 1 : Nat) : Int)   := and_nat (b := 1) (by omega) (by decide)
  rw [h2]
  show _ ↔ x.testBit c = true
  unfold Nat.testBit
  rw [Nat.and_comm]
  simp only [bne_iff_ne, ne_eq]
  have := Nat.and_le_left (n := 1) (m := x >>> c)
  omega
theorem bit_or {x c d : Nat} (hx : x < 2147483648) (hc : c < 31) : bit (ho_oor (x : Int) (ho_oshl 1 (c : Int))) d = (bit x d || decide (c = d)) := by
  have hp : 2 ^ c < 2147483648 := by
    have h9 : ∀ c : Nat, c < 31 → 2 ^ c < 2147483648 := by decide +kernel
    exact h9 c hc
  rw [shl_nat c hc, or_nat hx hp]
  show (x ||| 2 ^ c).testBit d = (x.testBit d || decide (c = d))
  rw [Nat.testBit_or, Nat.testBit_two_pow]
theorem or_lt {x c n : Nat} (hx : x < 2 ^ n) (hc : c < n) (hn : n ≤ 31) : ∃ y : Nat, ho_oor (x : Int) (ho_oshl 1 (c : Int)) = (y : Int) ∧ y < 2 ^ n := by
  have h31 : 2 ^ n ≤ 2 ^ 31 := Nat.pow_le_pow_right (by omega) hn
  have hp : 2 ^ c < 2 ^ n := Nat.pow_lt_pow_right (by omega) hc
  refine ⟨x ||| 2 ^ c, ?_, Nat.or_lt_two_pow hx hp⟩
  rw [shl_nat c (by omega), or_nat (by omega) (by omega)]
theorem bit_clr {x c d : Nat} (hx : x < 2147483648) (hc : c < 31) (hd : d < 31) : bit (ho_oand (x : Int) (ho_oxor (ho_oshl 1 (c : Int)) (-1))) d = (bit x d && decide (c ≠ d)) := by
  rw [clr_nat hx hc]
  show (x &&& (2147483647 - 2 ^ c)).testBit d = (x.testBit d && decide (c ≠ d))
  rw [Nat.testBit_and]
  congr 1
  have h9 : ∀ c : Nat, c < 31 → ∀ d : Nat, d < 31 → (2147483647 - 2 ^ c).testBit d = decide (c ≠ d) := by decide +kernel
  exact h9 c hc d hd
theorem clr_le {x c : Nat} (hx : x < 2147483648) (hc : c < 31) : ∃ y : Nat, ho_oand (x : Int) (ho_oxor (ho_oshl 1 (c : Int)) (-1)) = (y : Int) ∧ y ≤ x := ⟨_, clr_nat hx hc, Nat.and_le_left⟩
theorem bit_zero (c : Nat) : bit 0 c = false := by show (0 : Nat).testBit c = false; exact Nat.zero_testBit c
