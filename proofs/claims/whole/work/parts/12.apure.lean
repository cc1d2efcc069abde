/-! ===== sets as bits ===== -/
def setN : Nat → (Nat → Bool) → Nat
  | 0, _ => 0
  | n + 1, P => setN n P ||| (if P n then 2 ^ n else 0)
theorem setN_bit (P : Nat → Bool) : ∀ n i, (setN n P).testBit i = (decide (i < n) && P i)
  | 0, i => by simp [setN]
  | n + 1, i => by
    rw [setN, Nat.testBit_or, setN_bit P n i]
    by_cases h : i = n
    · subst h
      cases hp : P i <;> simp [hp, Nat.testBit_two_pow_self]
    · have h2 : (if P n = true then 2 ^ n else 0 : Nat).testBit i = false := by
        split
        · rw [Nat.testBit_two_pow]; simp; omega
        · exact Nat.zero_testBit i
      rw [h2, Bool.or_false]
      congr 1
      simp only [decide_eq_decide]
      omega
theorem setN_lt (P : Nat → Bool) : ∀ n, setN n P < 2 ^ n
  | 0 => by show 0 < 1; decide
  | n + 1 => by
    rw [setN]
    have ih := setN_lt P n
    have h2 : 2 ^ n < 2 ^ (n + 1) := Nat.pow_lt_pow_right (by decide) (Nat.lt_succ_self n)
    apply Nat.or_lt_two_pow (by omega)
    split
    · exact h2
    · omega
theorem setN_congr {P Q : Nat → Bool} : ∀ {n}, (∀ i, i < n → P i = Q i) → setN n P = setN n Q
  | 0, _ => rfl
  | n + 1, h => by rw [setN, setN, setN_congr (fun i hi => h i (by omega)), h n (by omega)]
theorem setN_pow {P : Nat → Bool} {n k : Nat} (h : n ≤ k) : setN n P < 2 ^ k := Nat.lt_of_lt_of_le (setN_lt P n) (Nat.pow_le_pow_right (by decide) h)
theorem setN_eq {x n : Nat} {P : Nat → Bool} (hx : x < 2 ^ n) (h : ∀ i, i < n → x.testBit i = P i) : x = setN n P := by
  apply Nat.eq_of_testBit_eq
  intro i
  rw [setN_bit]
  by_cases hi : i < n
  · simp [hi, h i hi]
  · simp [hi]
    exact Nat.testBit_lt_two_pow (Nat.lt_of_lt_of_le hx (Nat.pow_le_pow_right (by decide) (by omega)))
/-! bit operations on natural numbers -/
theorem b_and (x y : Nat) : i32 (x : Int) &&& i32 (y : Int) = i32 ((x &&& y : Nat) : Int) := by
  rw [i32_N, i32_N, i32_N]
  apply Int32.toBitVec.inj
  show BitVec.ofNat 32 x &&& BitVec.ofNat 32 y = BitVec.ofNat 32 (x &&& y)
  exact (BitVec.ofNat_and).symm
theorem b_or (x y : Nat) : i32 (x : Int) ||| i32 (y : Int) = i32 ((x ||| y : Nat) : Int) := by
  rw [i32_N, i32_N, i32_N]
  apply Int32.toBitVec.inj
  show BitVec.ofNat 32 x ||| BitVec.ofNat 32 y = BitVec.ofNat 32 (x ||| y)
  exact (BitVec.ofNat_or).symm
theorem s32 : ∀ k : Nat, k < 32 → ((i32 (k : Int) &&& 31).toBitVec.smod 32).toNat = k := by decide +kernel
theorem s32u : ∀ k : Nat, k < 32 → (((i32 (k : Int)).toUInt32 &&& Int32.toUInt32 31).toBitVec % 32).toNat = k := by decide +kernel
theorem b_shl (x : Nat) {k : Nat} (hk : k < 32) (hx : x * 2 ^ k < 2 ^ 32) : i32 (x : Int) <<< (i32 (k : Int) &&& 31) = i32 ((x * 2 ^ k : Nat) : Int) := by
  rw [i32_N x, i32_N (x * 2 ^ k)]
  exact pk_shlN _ k (s32 k hk) hx
theorem b_shr {x k : Nat} (hx : x < 2 ^ 31) (hk : k < 32) : i32 (x : Int) >>> (i32 (k : Int) &&& 31) = i32 ((x / 2 ^ k : Nat) : Int) := by
  rw [i32_N x, i32_N (x / 2 ^ k)]
  exact pk_shrN hx _ k (s32 k hk)
theorem b_ushr {x k : Nat} (hx : x < 2 ^ 32) (hk : k < 32) : ((i32 (x : Int)).toUInt32 >>> ((i32 (k : Int)).toUInt32 &&& Int32.toUInt32 31)).toInt32 = i32 ((x / 2 ^ k : Nat) : Int) := by
  rw [i32_N x, i32_N (x / 2 ^ k)]
  exact pk_ushrN hx _ k (s32u k hk)
/-- z & 15, of any number -/
theorem b_m15 (z : Int) : i32 z &&& i32 15 = i32 (z % 16) := by
  apply Int32.toInt.inj
  have e1 : i32 z &&& i32 15 = nI ((i32 z).toBitVec.toNat % 2 ^ 4) := pk_and (i32 z) (m := i32 15) 4 (by decide +kernel)
  rw [e1, nI_toInt (by omega), i32_toInt (by omega)]
  have e2 : (i32 z).toBitVec.toNat = (z % 4294967296).toNat := by
    unfold i32
    rw [Int32.toBitVec_ofInt, BitVec.toNat_ofInt]
    rfl
  rw [e2]
  omega
theorem b_m1 (z : Int) : i32 z &&& i32 1 = i32 (z % 2) := by
  apply Int32.toInt.inj
  have e1 : i32 z &&& i32 1 = nI ((i32 z).toBitVec.toNat % 2 ^ 1) := pk_and (i32 z) (m := i32 1) 1 (by decide +kernel)
  rw [e1, nI_toInt (by omega), i32_toInt (by omega)]
  have e2 : (i32 z).toBitVec.toNat = (z % 4294967296).toNat := by
    unfold i32
    rw [Int32.toBitVec_ofInt, BitVec.toNat_ofInt]
    rfl
  rw [e2]
  omega
/-- bit f of x as the class asks it -/
theorem b_bit (x f : Nat) : (x / 2 ^ f) % 2 = if x.testBit f then 1 else 0 := by
  rw [Nat.testBit_eq_decide_div_mod_eq]
  by_cases h : x / 2 ^ f % 2 = 1
  · simp [h]
  · have : x / 2 ^ f % 2 = 0 := by omega
    simp [this]
/-! the sixteen fields -/
def inF (p w f : Int) : Bool := decide ((f - p) % 16 < w)
def spanF (p w : Int) : Nat := setN 16 (fun f => inF p w (f : Int))
theorem spanF_lt (p w : Int) : spanF p w < 65536 := setN_lt _ 16
theorem spanF_bit (p w : Int) (f : Nat) : (spanF p w).testBit f = (decide (f < 16) && inF p w (f : Int)) := setN_bit _ 16 f
def rotN (x k : Nat) : Nat := (x * 2 ^ k ||| x / 2 ^ (16 - k)) % 65536
theorem rotN_span : ∀ p : Nat, p < 16 → ∀ w : Nat, w < 9 → rotN (2 ^ w - 1) p = spanF (p : Int) (w : Int) := by decide +kernel
