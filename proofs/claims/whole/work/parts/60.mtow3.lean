/-! ===== least tow: where it stays dry ===== -/
theorem ts_Tw {S : SS} {N W : Nat} (hN : N = (S 0).toNat) (N5 : N ≤ 5) : ∀ c, c ≤ N → Tw (dgt N W) c S (tsF S N W c)
  | 0, _ => ⟨fun q _ _ => rfl, fun c hc => absurd hc (Nat.not_lt_zero c)⟩
  | c + 1, h => by
    have ih := ts_Tw hN N5 (W := W) c (by omega)
    refine ⟨fun q hq hne => ?_, fun d hd => ?_⟩
    · rw [tsF, upS_at, if_neg (hne c (by omega))]
      exact ih.1 q hq (fun e he => hne e (by omega))
    · rw [tsF, upS_at]
      by_cases e : d = c
      · rw [e, if_pos rfl]
      · rw [if_neg (by omega)]; exact ih.2 d (by omega)
theorem ts_fell {S : SS} {N W : Nat} {q : Int} (hq : q < 5 ∨ 29 ≤ q) : ∀ c, c ≤ 5 → tsF S N W c q = S q
  | 0, _ => rfl
  | c + 1, h => by rw [tsF, upS_at, if_neg (by omega), ts_fell hq c (by omega)]
theorem rot_orN (g : Nat → Nat) (k : Nat) : ∀ n, rotN (orN n g) k = orN n (fun d => rotN (g d) k)
  | 0 => by
    show rotN 0 k = 0
    unfold rotN
    rw [Nat.zero_mul, Nat.zero_div]; rfl
  | n + 1 => by
    show rotN (orN n g ||| g n) k = (orN n (fun d => rotN (g d) k) ||| rotN (g n) k)
    rw [rot_or, rot_orN g k n]
theorem SOK_ts {B : Int} {S : SS} {N W : Nat} (hO : SOK B S) (hN : N = (S 0).toNat) : ∀ c, c ≤ N → SOK B (tsF S N W c)
  | 0, _ => hO
  | c + 1, h => by
    have h5 := hO.1
    exact SOK_place (SOK_ts hO hN c (by omega)) (by omega) (by rw [ts_fell (by omega) c (by omega)]; omega) (by omega) (by omega)
theorem dry_towed {B : Int} {S : SS} {N W n f : Nat} (hO : SOK B S) (hN : N = (S 0).toNat) (f1 : f < 16) : dysF (tsF S N W N) n (29 + (f : Int)) = S (29 + (f : Int)) ↔ (wtC S n N W).testBit f = false := by
  have h5 := hO.1
  have N5 : N ≤ 5 := by omega
  have hT := SOK_ts (W := W) hO hN N (Nat.le_refl N)
  have dd := (dys_dry hT f1 n).2
  have e9 : tsF S N W N (29 + (f : Int)) = S (29 + (f : Int)) := ts_fell (by omega) N N5
  rw [e9] at dd
  rw [dd]
  have wb := wt_bit (S := S) (n := n) (N := N) (W := W) (f := f) N (Nat.le_refl N)
  rw [Nat.sub_self, Nat.pow_zero, Nat.div_one] at wb
  have key : (orN n (fun d => rnF (dysF (tsF S N W N) d))).testBit f = true ↔ (wtC S n N W).testBit f = true := by
    rw [wb, orN_bit]
    have each : ∀ d c, c < N → flF (dysF (tsF S N W N) d) (c : Int) = rotN (flF (dysF S d) (c : Int)) (dgt N W c) := fun d c hc =>
      Tw_fl (Tw_dys (ts_Tw hN N5 N (Nat.le_refl N)) N5 (by omega) d) N5 (SOK_dys hO d) (by rw [dysF_low (by omega)]; omega) hc (dgt_lt N W c)
    have n0 : ∀ d, (dysF (tsF S N W N) d 0).toNat = N := fun d => by rw [dysF_low (by omega), ts_fell (by omega) N N5, hN]
    constructor
    · rintro ⟨d, hd, hb⟩
      unfold rnF at hb
      rw [n0 d] at hb
      obtain ⟨c, hc, hb⟩ := orN_bit.mp hb
      rw [each d c hc] at hb
      refine ⟨c, hc, ?_⟩
      unfold wtd
      rw [rot_orN]
      exact orN_bit.mpr ⟨d, hd, hb⟩
    · rintro ⟨c, hc, hb⟩
      unfold wtd at hb
      rw [rot_orN] at hb
      obtain ⟨d, hd, hb⟩ := orN_bit.mp hb
      refine ⟨d, hd, ?_⟩
      unfold rnF
      rw [n0 d]
      exact orN_bit.mpr ⟨c, hc, by rw [each d c hc]; exact hb⟩
  cases h1 : (orN n (fun d => rnF (dysF (tsF S N W N) d))).testBit f <;> cases h2 : (wtC S n N W).testBit f
  · exact ⟨fun _ => rfl, fun _ => rfl⟩
  · rw [key.mpr h2] at h1; cases h1
  · rw [key.mp h1] at h2; cases h2
  · exact ⟨fun q => (by cases q), fun q => (by cases q)⟩
