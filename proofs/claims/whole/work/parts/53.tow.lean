/-! ===== least tow: the pure search ===== -/
def wtd (S : SS) (n c : Nat) : Nat := orN n (fun d => flF (dysF S d) (c : Int))
def smC : Nat → Nat → Nat
  | 0, _ => 0
  | c + 1, P => smC c (P / 4) + P % 4
def wtC (S : SS) (n : Nat) : Nat → Nat → Nat
  | 0, _ => 0
  | c + 1, P => wtC S n c (P / 4) ||| rotN (wtd S n c) (P % 4)
def myC (S : SS) : Nat → Nat → Bool
  | 0, _ => true
  | c + 1, P => myC S c (P / 4) && (decide (P % 4 = 0) || decide (S (7 + 5 * (c : Int)) ≠ 0))
def wyC : Nat → Nat → Int → Int
  | 0, _ => fun _ => 0
  | c + 1, P => upS (wyC c (P / 4)) (c : Int) ((P % 4 : Nat) : Int)
abbrev LB : Type := Int × (Int → Int)
def stp (S : SS) (n F N W : Nat) (x : LB) : LB := if myC S N W = true ∧ ((smC N W : Nat) : Int) < x.1 ∧ F &&& wtC S n N W = F then (((smC N W : Nat) : Int), wyC N W) else x
def fo (f : Nat → LB → LB) (a : Nat) : Nat → LB → LB
  | 0, x => x
  | k + 1, x => f (a + k) (fo f a k x)
theorem fo_add (f : Nat → LB → LB) (a m : Nat) (x : LB) : ∀ k, fo f a (m + k) x = fo f (a + m) k (fo f a m x)
  | 0 => rfl
  | k + 1 => by rw [← Nat.add_assoc, fo, fo_add f a m x k, fo, Nat.add_assoc]
theorem fo_id {f : Nat → LB → LB} {a : Nat} {x : LB} : ∀ {k : Nat}, (∀ W, a ≤ W → W < a + k → f W x = x) → fo f a k x = x
  | 0, _ => rfl
  | k + 1, h => by rw [fo, fo_id (fun W h1 h2 => h W h1 (by omega)), h (a + k) (by omega) (by omega)]
theorem sm_mono (c : Nat) : ∀ (j W : Nat), smC c (W / 4 ^ j) ≤ smC (c + j) W
  | 0, W => by rw [Nat.pow_zero, Nat.div_one]; exact Nat.le_refl _
  | j + 1, W => by
    have := sm_mono c j (W / 4)
    rw [Nat.div_div_eq_div_mul, ← Nat.pow_succ', Nat.succ_eq_add_one] at this
    show smC c (W / 4 ^ (j + 1)) ≤ smC (c + j) (W / 4) + W % 4
    omega
theorem my_mono (S : SS) (c : Nat) : ∀ (j W : Nat), myC S (c + j) W = true → myC S c (W / 4 ^ j) = true
  | 0, W, h => by rw [Nat.pow_zero, Nat.div_one]; exact h
  | j + 1, W, h => by
    have h : (myC S (c + j) (W / 4) && (decide (W % 4 = 0) || decide (S (7 + 5 * ((c + j : Nat) : Int)) ≠ 0))) = true := h
    have := my_mono S c j (W / 4) (Bool.and_eq_true_iff.mp h).1
    rw [Nat.div_div_eq_div_mul, ← Nat.pow_succ'] at this
    exact this
theorem blk {P j W : Nat} (h1 : P * 4 ^ j ≤ W) (h2 : W < P * 4 ^ j + 4 ^ j) : W / 4 ^ j = P := by
  have hp : 0 < 4 ^ j := Nat.pow_pos (by decide)
  apply Nat.div_eq_of_lt_le
  · exact h1
  · rw [Nat.add_mul, Nat.one_mul]; exact h2
theorem fo_prune {S : SS} {n F c j P : Nat} {x : LB} (h : x.1 ≤ ((smC c P : Nat) : Int)) : fo (stp S n F (c + j)) (P * 4 ^ j) (4 ^ j) x = x := fo_id (fun W h1 h2 => by
  have q := sm_mono c j W
  rw [blk h1 h2] at q
  unfold stp
  rw [if_neg (fun w => by omega)])
theorem fo_gone {S : SS} {n F c j P k f : Nat} {x : LB} (hg : S (7 + 5 * (c : Int)) = 0) (f0 : 0 < f) (f3 : f + k ≤ 4) : fo (stp S n F (c + 1 + j)) ((4 * P + f) * 4 ^ j) (k * 4 ^ j) x = x := fo_id (fun W h1 h2 => by
  have hp : 0 < 4 ^ j := Nat.pow_pos (by decide)
  have d1 : 4 * P + f ≤ W / 4 ^ j := (Nat.le_div_iff_mul_le hp).mpr h1
  have d2 : W / 4 ^ j < 4 * P + f + k := (Nat.div_lt_iff_lt_mul hp).mpr (by rw [Nat.add_mul]; exact h2)
  unfold stp
  rw [if_neg (fun w => by
    have m := my_mono S (c + 1) j W w.1
    have m : (myC S c (W / 4 ^ j / 4) && (decide (W / 4 ^ j % 4 = 0) || decide (S (7 + 5 * (c : Int)) ≠ 0))) = true := m
    have m2 := Bool.or_eq_true_iff.mp (Bool.and_eq_true_iff.mp m).2
    rcases m2 with m2 | m2
    · have := of_decide_eq_true m2
      omega
    · exact (of_decide_eq_true m2) hg)])
theorem rot_or (x y k : Nat) : rotN (x ||| y) k = (rotN x k ||| rotN y k) := by
  unfold rotN
  rw [← Nat.shiftLeft_eq, ← Nat.shiftLeft_eq, ← Nat.shiftLeft_eq, ← Nat.shiftRight_eq_div_pow, ← Nat.shiftRight_eq_div_pow, ← Nat.shiftRight_eq_div_pow, show 65536 = 2 ^ 16 from rfl]
  apply Nat.eq_of_testBit_eq
  intro i
  simp only [Nat.testBit_mod_two_pow, Nat.testBit_or, Nat.testBit_shiftLeft, Nat.testBit_shiftRight]
  cases decide (i < 16) <;> cases decide (i ≥ k) <;> cases x.testBit (i - k) <;> cases y.testBit (i - k) <;> cases x.testBit (16 - k + i) <;> cases y.testBit (16 - k + i) <;> rfl
theorem span_rot : ∀ p : Nat, p < 16 → ∀ w : Nat, w < 9 → ∀ k : Nat, k < 4 → spanF (((p + k) % 16 : Nat) : Int) (w : Int) = rotN (spanF (p : Int) (w : Int)) k := by decide +kernel
theorem wtd_lt (S : SS) (n c : Nat) : wtd S n c < 65536 := orN_lt (k := 16) (fun i _ => flF_lt _ _)
theorem wtC_lt (S : SS) (n : Nat) : ∀ c P, wtC S n c P < 65536
  | 0, _ => (show 0 < 65536 by decide)
  | c + 1, P => Nat.or_lt_two_pow (n := 16) (wtC_lt S n c (P / 4)) (rotN_lt _ _)
/-! the class's findWetted -/
/-- the class's sky behind d days and c clouds: as the pure one, but no rain is noted -/
def MV (M : MM) (T : SS) : Prop := ∃ U : SS, SV M 211 U ∧ (∀ q : Int, q < 29 → U q = T q) ∧ SOK 9990 U
