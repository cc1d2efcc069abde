/-! ===== a sky as a row of 45 numbers (the reference's own order); what a day does to it ===== -/
abbrev SS : Type := Int → Int
def sumI : Nat → (Nat → Int) → Int
  | 0, _ => 0
  | n + 1, g => sumI n g + g n
theorem sumI_congr {g h : Nat → Int} : ∀ {n : Nat}, (∀ i, i < n → g i = h i) → sumI n g = sumI n h
  | 0, _ => rfl
  | n + 1, e => by rw [sumI, sumI, sumI_congr (fun i hi => e i (by omega)), e n (by omega)]
theorem sumI_add {g h : Nat → Int} : ∀ {n : Nat}, sumI n (fun i => g i + h i) = sumI n g + sumI n h
  | 0 => rfl
  | n + 1 => by rw [sumI, sumI, sumI, sumI_add]; omega
theorem sumI_le {g : Nat → Int} {B : Int} : ∀ {n : Nat}, (∀ i, i < n → 0 ≤ g i ∧ g i ≤ B) → 0 ≤ sumI n g ∧ sumI n g ≤ n * B
  | 0, _ => by simp [sumI]
  | n + 1, h => by
    have h1 := sumI_le (n := n) (fun i hi => h i (by omega))
    have h2 := h n (by omega)
    rw [sumI]
    have e : ((n + 1 : Nat) : Int) * B = n * B + B := by rw [Int.natCast_add, Int.add_mul]; simp
    rw [e]
    omega
def fellS (S : SS) : Int := sumI 16 (fun f => S (29 + (f : Int)))
/-- what is so of a sky: the numbers of its clouds, rain not above B -/
def SOK (B : Int) (S : SS) : Prop := (0 ≤ S 0 ∧ S 0 ≤ 5) ∧ (0 ≤ S 1 ∧ S 1 ≤ 15) ∧ (0 ≤ S 2 ∧ S 2 ≤ 20) ∧ 0 ≤ S 3 ∧ (∀ c : Int, 0 ≤ c → c < S 0 → (1 ≤ S (4 + 5 * c) ∧ S (4 + 5 * c) ≤ 5) ∧ (0 ≤ S (5 + 5 * c) ∧ S (5 + 5 * c) ≤ 15) ∧ (1 ≤ S (6 + 5 * c) ∧ S (6 + 5 * c) ≤ 8) ∧ (0 ≤ S (7 + 5 * c) ∧ S (7 + 5 * c) ≤ 99) ∧ 0 ≤ S (8 + 5 * c) ∧ S (8 + 5 * c) ≤ 9) ∧ ∀ f : Int, 0 ≤ f → f < 16 → 0 ≤ S (29 + f) ∧ S (29 + f) ≤ B
def plF (S : SS) (c : Int) : Int := (S (5 + 5 * c) + speedF (S (4 + 5 * c)) (S 1)) % 16
def wdF (S : SS) (c : Int) : Int := if S (4 + 5 * c) = 2 ∧ S 3 % 2 = 0 then (if 8 < S (6 + 5 * c) + 1 then 8 else S (6 + 5 * c) + 1) else S (6 + 5 * c)
def raF (S : SS) (c : Int) : Int := rainF (S (4 + 5 * c)) (S 3)
def neF (S : SS) (c : Int) : Int := wdF S c * raF S c
def wtF (S : SS) (c : Int) : Int := if neF S c = 0 ∨ S (7 + 5 * c) < neF S c then S (7 + 5 * c) - 1 else S (7 + 5 * c) - neF S c
/-- a cloud goes on, and thins out -/
def mvF (S : SS) (c : Int) : SS := if S (7 + 5 * c) = 0 then S else fun q => if q = 5 + 5 * c then plF S c else if q = 6 + 5 * c then wdF S c else if q = 7 + 5 * c then wtF S c else S q
/-- where it rains -/
def flF (S : SS) (c : Int) : Nat := if S (7 + 5 * c) = 0 ∨ neF S c = 0 ∨ S (7 + 5 * c) < neF S c then 0 else spanF (plF S c) (wdF S c)
def adR (S : SS) (x : Nat) (r : Int) : SS := fun q => if 29 ≤ q ∧ q < 45 ∧ x.testBit (q - 29).toNat = true then S q + r else S q
def clF (S : SS) (c : Int) : SS := adR (mvF S c) (flF S c) (raF S c)
def clsF (S : SS) : Nat → SS
  | 0 => S
  | n + 1 => clF (clsF S n) (n : Int)
def dyF (S : SS) : SS := fun q => if q = 3 then S 3 + 1 else clsF S (S 0).toNat q
def dysF (S : SS) : Nat → SS
  | 0 => S
  | n + 1 => dyF (dysF S n)
theorem mvF_at (S : SS) (c q : Int) : mvF S c q = if S (7 + 5 * c) = 0 then S q else if q = 5 + 5 * c then plF S c else if q = 6 + 5 * c then wdF S c else if q = 7 + 5 * c then wtF S c else S q := by
  unfold mvF
  split <;> rfl
theorem clF_low {S : SS} {c q : Int} (hc : 0 ≤ c) (hq : q < 5) : clF S c q = S q := by
  unfold clF adR
  rw [if_neg (by omega), mvF_at]
  split
  · rfl
  · rw [if_neg (by omega), if_neg (by omega), if_neg (by omega)]
theorem clF_kind {S : SS} {c d : Int} (hd : d < 5) (h0 : 0 ≤ d) (hc : 0 ≤ c) : clF S c (4 + 5 * d) = S (4 + 5 * d) := by
  unfold clF adR
  rw [if_neg (by omega), mvF_at]
  split
  · rfl
  · rw [if_neg (by omega), if_neg (by omega), if_neg (by omega)]
theorem clF_hand {S : SS} {c d : Int} (hd : d < 5) (h0 : 0 ≤ d) (hc : 0 ≤ c) : clF S c (8 + 5 * d) = S (8 + 5 * d) := by
  unfold clF adR
  rw [if_neg (by omega), mvF_at]
  split
  · rfl
  · rw [if_neg (by omega), if_neg (by omega), if_neg (by omega)]
theorem clF_cloud {S : SS} {c q : Int} (hq : q < 29) : clF S c q = mvF S c q := by
  unfold clF adR
  rw [if_neg (by omega)]
theorem clF_other {S : SS} {c d : Int} (hd : d < 5) (h0 : 0 ≤ d) (hne : d ≠ c) {j : Int} (hj : 4 ≤ j ∧ j ≤ 8) : clF S c (j + 5 * d) = S (j + 5 * d) := by
  rw [clF_cloud (by omega), mvF_at]
  split
  · rfl
  · rw [if_neg (by omega), if_neg (by omega), if_neg (by omega)]
theorem clF_fell {S : SS} {c f : Int} (hc : c < 5) (h0 : 0 ≤ f) (h1 : f < 16) : clF S c (29 + f) = if (flF S c).testBit f.toNat = true then S (29 + f) + raF S c else S (29 + f) := by
  unfold clF adR
  have e : mvF S c (29 + f) = S (29 + f) := by
    rw [mvF_at]
    split
    · rfl
    · rw [if_neg (by omega), if_neg (by omega), if_neg (by omega)]
  rw [e, show (29 + f - 29).toNat = f.toNat by omega]
  by_cases h : (flF S c).testBit f.toNat = true
  · rw [if_pos h, if_pos ⟨by omega, by omega, h⟩]
  · rw [if_neg h, if_neg (fun w => h w.2.2)]
theorem wdF_r {B : Int} {S : SS} (h : SOK B S) {c : Int} (h0 : 0 ≤ c) (h1 : c < S 0) : 1 ≤ wdF S c ∧ wdF S c ≤ 8 := by
  have := (h.2.2.2.2.1 c h0 h1).2.2.1
  unfold wdF
  (repeat' split) <;> omega
theorem plF_r (S : SS) (c : Int) : 0 ≤ plF S c ∧ plF S c ≤ 15 := by unfold plF; omega
theorem raF_r (S : SS) (c : Int) : 0 ≤ raF S c ∧ raF S c ≤ 2 := rainF_r _ _
theorem neF_r {B : Int} {S : SS} (h : SOK B S) {c : Int} (h0 : 0 ≤ c) (h1 : c < S 0) : 0 ≤ neF S c ∧ neF S c ≤ 16 := by
  have a := wdF_r h h0 h1
  have b := raF_r S c
  unfold neF
  have a1 : 0 ≤ wdF S c * raF S c := Int.mul_nonneg (by omega) (by omega)
  have a2 : wdF S c * raF S c ≤ 8 * 2 := Int.mul_le_mul (by omega) (by omega) (by omega) (by decide)
  omega
theorem wtF_r {B : Int} {S : SS} (h : SOK B S) {c : Int} (h0 : 0 ≤ c) (h1 : c < S 0) (h2 : S (7 + 5 * c) ≠ 0) : 0 ≤ wtF S c ∧ wtF S c ≤ 99 := by
  have a := neF_r h h0 h1
  have b := (h.2.2.2.2.1 c h0 h1).2.2.2.1
  unfold wtF
  split <;> omega
theorem SOK_cl {B : Int} {S : SS} (h : SOK B S) {c : Int} (h0 : 0 ≤ c) (h1 : c < S 0) : SOK (B + 2) (clF S c) := by
  have hn : S 0 ≤ 5 := h.1.2
  have e0 : clF S c 0 = S 0 := clF_low h0 (by omega)
  have e1 : clF S c 1 = S 1 := clF_low h0 (by omega)
  have e2 : clF S c 2 = S 2 := clF_low h0 (by omega)
  have e3 : clF S c 3 = S 3 := clF_low h0 (by omega)
  refine ⟨by rw [e0]; exact h.1, by rw [e1]; exact h.2.1, by rw [e2]; exact h.2.2.1, by rw [e3]; exact h.2.2.2.1, fun d d0 d1 => ?_, fun f f0 f1 => ?_⟩
  · rw [e0] at d1
    have hd := h.2.2.2.2.1 d d0 d1
    by_cases hdc : d = c
    · subst hdc
      rw [clF_kind (by omega) d0 d0, clF_hand (by omega) d0 d0]
      rw [clF_cloud (q := 5 + 5 * d) (by omega), clF_cloud (q := 6 + 5 * d) (by omega), clF_cloud (q := 7 + 5 * d) (by omega), mvF_at, mvF_at, mvF_at]
      by_cases ht : S (7 + 5 * d) = 0
      · rw [if_pos ht, if_pos ht, if_pos ht]; exact hd
      · rw [if_neg ht, if_neg ht, if_neg ht, if_pos rfl, if_neg (by omega), if_pos rfl, if_neg (by omega), if_neg (by omega), if_pos rfl]
        exact ⟨hd.1, plF_r S d, wdF_r h d0 d1, wtF_r h d0 d1 ht, hd.2.2.2.2⟩
    · rw [clF_other (by omega) d0 hdc (by omega), clF_other (by omega) d0 hdc (by omega), clF_other (by omega) d0 hdc (by omega), clF_other (by omega) d0 hdc (by omega), clF_other (by omega) d0 hdc (by omega)]
      exact hd
  · rw [clF_fell (by omega) f0 f1]
    have a := h.2.2.2.2.2 f f0 f1
    have b := raF_r S c
    split <;> omega
theorem clsF_low {S : SS} {q : Int} (hq : q < 5) : ∀ n : Nat, clsF S n q = S q
  | 0 => rfl
  | n + 1 => by rw [clsF, clF_low (by omega) hq, clsF_low hq n]
theorem SOK_cls {B : Int} {S : SS} (h : SOK B S) : ∀ n : Nat, (n : Int) ≤ S 0 → SOK (B + 2 * n) (clsF S n)
  | 0, _ => by simpa [clsF] using h
  | n + 1, hn => by
    have ih := SOK_cls h n (by omega)
    have := SOK_cl ih (c := (n : Int)) (by omega) (by rw [clsF_low (by omega)]; omega)
    rw [show B + 2 * ((n + 1 : Nat) : Int) = B + 2 * n + 2 by omega]
    exact this
theorem SOK_mono {B B' : Int} {S : SS} (h : SOK B S) (hB : B ≤ B') : SOK B' S := ⟨h.1, h.2.1, h.2.2.1, h.2.2.2.1, h.2.2.2.2.1, fun f f0 f1 => by have := h.2.2.2.2.2 f f0 f1; omega⟩
theorem dyF_low {S : SS} {q : Int} (hq : q < 3) : dyF S q = S q := by
  unfold dyF
  rw [if_neg (by omega), clsF_low (by omega)]
theorem dyF_3 (S : SS) : dyF S 3 = S 3 + 1 := rfl
theorem dyF_hi {S : SS} {q : Int} (hq : 3 < q) : dyF S q = clsF S (S 0).toNat q := by
  unfold dyF
  rw [if_neg (by omega)]
theorem SOK_dy {B : Int} {S : SS} (h : SOK B S) : SOK (B + 10) (dyF S) := by
  have hn := h.1
  have hc := SOK_cls h (S 0).toNat (by omega)
  have e0 : clsF S (S 0).toNat 0 = S 0 := clsF_low (by omega) _
  have h2 := SOK_mono (B' := B + 10) hc (by omega)
  refine ⟨by rw [dyF_low (by omega)]; exact hn, by rw [dyF_low (by omega)]; exact h.2.1, by rw [dyF_low (by omega)]; exact h.2.2.1, by rw [dyF_3]; have := h.2.2.2.1; omega, fun d d0 d1 => ?_, fun f f0 f1 => ?_⟩
  · rw [dyF_low (by omega)] at d1
    rw [dyF_hi (by omega), dyF_hi (by omega), dyF_hi (by omega), dyF_hi (by omega), dyF_hi (by omega)]
    exact h2.2.2.2.2.1 d d0 (by rw [e0]; exact d1)
  · rw [dyF_hi (by omega)]
    exact h2.2.2.2.2.2 f f0 f1
theorem dysF_low {S : SS} {q : Int} (hq : q < 3) : ∀ n : Nat, dysF S n q = S q
  | 0 => rfl
  | n + 1 => by rw [dysF, dyF_low hq, dysF_low hq n]
theorem dysF_3 (S : SS) : ∀ n : Nat, dysF S n 3 = S 3 + n
  | 0 => by simp [dysF]
  | n + 1 => by rw [dysF, dyF_3, dysF_3 S n]; omega
theorem SOK_dys {B : Int} {S : SS} (h : SOK B S) : ∀ n : Nat, SOK (B + 10 * n) (dysF S n)
  | 0 => by simpa [dysF] using h
  | n + 1 => by
    have := SOK_dy (SOK_dys h n)
    rw [show B + 10 * ((n + 1 : Nat) : Int) = B + 10 * n + 10 by omega]
    exact this
theorem dysF_add (S : SS) (m : Nat) : ∀ n : Nat, dysF S (m + n) = dysF (dysF S m) n
  | 0 => rfl
  | n + 1 => by rw [← Nat.add_assoc, dysF, dysF_add S m n, dysF]
/-! how much falls in a day -/
theorem span_sum : ∀ p : Nat, p < 16 → ∀ w : Nat, w < 9 → sumI 16 (fun f => if (spanF (p : Int) (w : Int)).testBit f = true then 1 else 0) = w := by decide +kernel
theorem sum_ite {x : Nat} {r : Int} {g : Nat → Int} : ∀ n : Nat, sumI n (fun f => if x.testBit f = true then g f + r else g f) = sumI n g + sumI n (fun f => if x.testBit f = true then 1 else 0) * r
  | 0 => by simp [sumI]
  | n + 1 => by
    rw [sumI, sumI, sumI, sum_ite n, Int.add_mul]
    split <;> simp <;> omega
/-- what one cloud lets fall -/
def onF (S : SS) (c : Int) : Int := if S (7 + 5 * c) = 0 ∨ neF S c = 0 ∨ S (7 + 5 * c) < neF S c then 0 else neF S c
theorem fellS_cl {B : Int} {S : SS} (h : SOK B S) {c : Int} (h0 : 0 ≤ c) (h1 : c < S 0) : fellS (clF S c) = fellS S + onF S c := by
  have hn := h.1
  unfold fellS
  rw [sumI_congr (h := fun f => if (flF S c).testBit f = true then S (29 + (f : Int)) + raF S c else S (29 + (f : Int))) (fun f hf => by rw [clF_fell (by omega) (by omega) (by omega)]; simp), sum_ite]
  unfold flF onF
  by_cases hq : S (7 + 5 * c) = 0 ∨ neF S c = 0 ∨ S (7 + 5 * c) < neF S c
  · rw [if_pos hq, if_pos hq]
    have : sumI 16 (fun f => if (0 : Nat).testBit f = true then (1 : Int) else 0) = 0 := by decide +kernel
    rw [this]; omega
  · rw [if_neg hq, if_neg hq]
    have a := plF_r S c
    have b := wdF_r h h0 h1
    have k := span_sum (plF S c).toNat (by omega) (wdF S c).toNat (by omega)
    rw [show (((plF S c).toNat : Nat) : Int) = plF S c by omega, show (((wdF S c).toNat : Nat) : Int) = wdF S c by omega] at k
    rw [k]
    rfl
theorem onF_r {B : Int} {S : SS} (h : SOK B S) {c : Int} (h0 : 0 ≤ c) (h1 : c < S 0) : 0 ≤ onF S c ∧ onF S c ≤ 16 := by
  have := neF_r h h0 h1
  unfold onF
  split <;> omega
theorem fellS_r {B : Int} {S : SS} (h : SOK B S) : 0 ≤ fellS S ∧ fellS S ≤ 16 * B := by
  have := sumI_le (n := 16) (g := fun f => S (29 + (f : Int))) (B := B) (fun i hi => h.2.2.2.2.2 (i : Int) (by omega) (by omega))
  exact this
theorem fellS_dy (S : SS) : fellS (dyF S) = fellS (clsF S (S 0).toNat) := by
  unfold fellS
  exact sumI_congr (fun f hf => dyF_hi (by omega))
