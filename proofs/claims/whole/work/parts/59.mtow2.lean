/-! ===== least tow: prefixes of a way ===== -/
theorem pre_div {N W c : Nat} (h : c < N) : W / 4 ^ (N - (c + 1)) / 4 = W / 4 ^ (N - c) := by
  rw [Nat.div_div_eq_div_mul, ← Nat.pow_succ, show (N - (c + 1)).succ = N - c by omega]
theorem pre_mod {N W c : Nat} : W / 4 ^ (N - (c + 1)) % 4 = dgt N W c := by
  unfold dgt
  rw [show N - (c + 1) = N - 1 - c by omega]
theorem dgt_lt (N W c : Nat) : dgt N W c < 4 := Nat.mod_lt _ (by decide)
theorem sm_pre {N W c : Nat} (h : c < N) : smC (c + 1) (W / 4 ^ (N - (c + 1))) = smC c (W / 4 ^ (N - c)) + dgt N W c := by
  show smC c (W / 4 ^ (N - (c + 1)) / 4) + W / 4 ^ (N - (c + 1)) % 4 = _
  rw [pre_div h, pre_mod]
theorem my_pre {S : SS} {N W c : Nat} (h : c < N) : myC S (c + 1) (W / 4 ^ (N - (c + 1))) = (myC S c (W / 4 ^ (N - c)) && (decide (dgt N W c = 0) || decide (S (7 + 5 * (c : Int)) ≠ 0))) := by
  show (myC S c (W / 4 ^ (N - (c + 1)) / 4) && (decide (W / 4 ^ (N - (c + 1)) % 4 = 0) || decide (S (7 + 5 * (c : Int)) ≠ 0))) = _
  rw [pre_div h, pre_mod]
theorem wt_pre {S : SS} {n N W c : Nat} (h : c < N) : wtC S n (c + 1) (W / 4 ^ (N - (c + 1))) = (wtC S n c (W / 4 ^ (N - c)) ||| rotN (wtd S n c) (dgt N W c)) := by
  show (wtC S n c (W / 4 ^ (N - (c + 1)) / 4) ||| rotN (wtd S n c) (W / 4 ^ (N - (c + 1)) % 4)) = _
  rw [pre_div h, pre_mod]
theorem wt_bit {S : SS} {n N W f : Nat} : ∀ c, c ≤ N → ((wtC S n c (W / 4 ^ (N - c))).testBit f = true ↔ ∃ i, i < c ∧ (rotN (wtd S n i) (dgt N W i)).testBit f = true)
  | 0, _ => ⟨fun h => absurd h (by rw [show wtC S n 0 (W / 4 ^ (N - 0)) = 0 from rfl, Nat.zero_testBit]; decide), fun ⟨i, hi, _⟩ => absurd hi (Nat.not_lt_zero i)⟩
  | c + 1, h => by
    rw [wt_pre (by omega), Nat.testBit_or, Bool.or_eq_true_iff, wt_bit c (by omega)]
    constructor
    · rintro (⟨i, hi, hb⟩ | hb)
      · exact ⟨i, by omega, hb⟩
      · exact ⟨c, by omega, hb⟩
    · rintro ⟨i, hi, hb⟩
      by_cases e : i = c
      · subst e; exact Or.inr hb
      · exact Or.inl ⟨i, by omega, hb⟩
theorem wy_pre {N W : Nat} : ∀ c, c ≤ N → ∀ i : Nat, i < c → wyC c (W / 4 ^ (N - c)) (i : Int) = ((dgt N W i : Nat) : Int)
  | 0, _, i, hi => absurd hi (Nat.not_lt_zero i)
  | c + 1, h, i, hi => by
    show upS (wyC c (W / 4 ^ (N - (c + 1)) / 4)) (c : Int) ((W / 4 ^ (N - (c + 1)) % 4 : Nat) : Int) (i : Int) = _
    rw [pre_div (by omega), pre_mod, upS_at]
    by_cases e : i = c
    · rw [e, if_pos rfl]
    · rw [if_neg (by omega), wy_pre c (by omega) i (by omega)]
