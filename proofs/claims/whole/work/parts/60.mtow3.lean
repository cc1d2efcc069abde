/-! ===== least tow: where it stays dry ===== -/
theorem ts_Tw {S : SS} {N W : Nat} (hN : N = (S 0).toNat) (N5 : N ≤ 5) : ∀ c, c ≤ N → Tw (dgt N W) c S (tsF S N W c)
  | 0, _ => ⟨fun q _ _ => rfl, fun c hc => absurd hc (Nat.not_lt_zero c)⟩
  | c + 1, h => by
    have ih := ts_Tw hN N5 (W := W) c (by omega)
    refine ⟨fun q hq hne => ?_, fun d hd => ?_⟩
    · rw [tsF, upS_at, if_neg (hne c (by omega))]
      exact ih.1 q hq (fun e he => hne e (by omega))
    · rw [tsF, upS_at]
      by_cases e : d = c
      · rw [e, if_pos rfl]
      · rw [if_neg (by omega)]; exact ih.2 d (by omega)
theorem ts_fell {S : SS} {N W : Nat} {q : Int} (hq : q < 5 ∨ 29 ≤ q) : ∀ c, c ≤ 5 → tsF S N W c q = S q
  | 0, _ => rfl
  | c + 1, h => by rw [tsF, upS_at, if_neg (by omega), ts_fell hq c (by omega)]
