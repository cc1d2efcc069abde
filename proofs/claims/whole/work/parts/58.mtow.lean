/-! ===== least tow: the towed sky ===== -/
/-- the digit by which cloud c of N is towed in way W -/
def dgt (N W c : Nat) : Nat := W / 4 ^ (N - 1 - c) % 4
def tsF (S : SS) (N W : Nat) : Nat → SS
  | 0 => S
  | c + 1 => upS (tsF S N W c) (5 + 5 * (c : Int)) ((S (5 + 5 * (c : Int)) + ((dgt N W c : Nat) : Int)) % 16)
/-- B is A, its clouds' places turned by k -/
def Tw (k : Nat → Nat) (N : Nat) (A B : SS) : Prop := (∀ q : Int, q < 29 → (∀ c : Nat, c < N → q ≠ 5 + 5 * (c : Int)) → B q = A q) ∧ ∀ c : Nat, c < N → B (5 + 5 * (c : Int)) = (A (5 + 5 * (c : Int)) + ((k c : Nat) : Int)) % 16
theorem Tw_parts {k : Nat → Nat} {N : Nat} {A B : SS} (h : Tw k N A B) (N5 : N ≤ 5) {c : Nat} (c5 : c < N) : plF B (c : Int) = (plF A (c : Int) + ((k c : Nat) : Int)) % 16 ∧ wdF B (c : Int) = wdF A (c : Int) ∧ raF B (c : Int) = raF A (c : Int) ∧ neF B (c : Int) = neF A (c : Int) ∧ wtF B (c : Int) = wtF A (c : Int) := by
  have e1 := h.1 1 (by omega) (fun d _ => by omega)
  have e3 := h.1 3 (by omega) (fun d _ => by omega)
  have k0 := h.1 (4 + 5 * (c : Int)) (by omega) (fun d _ => by omega)
  have k2 := h.1 (6 + 5 * (c : Int)) (by omega) (fun d _ => by omega)
  have k3 := h.1 (7 + 5 * (c : Int)) (by omega) (fun d _ => by omega)
  have k1 := h.2 c c5
  have a1 : plF B (c : Int) = (plF A (c : Int) + ((k c : Nat) : Int)) % 16 := by unfold plF; rw [k0, k1, e1]; omega
  have a2 : wdF B (c : Int) = wdF A (c : Int) := by unfold wdF; rw [k0, k2, e3]
  have a3 : raF B (c : Int) = raF A (c : Int) := by unfold raF; rw [k0, e3]
  have a4 : neF B (c : Int) = neF A (c : Int) := by unfold neF; rw [a2, a3]
  have a5 : wtF B (c : Int) = wtF A (c : Int) := by unfold wtF; rw [a4, k3]
  exact ⟨a1, a2, a3, a4, a5⟩
theorem Tw_fl {k : Nat → Nat} {N : Nat} {A B : SS} {Bo : Int} (h : Tw k N A B) (N5 : N ≤ 5) (hA : SOK Bo A) {c : Nat} (c1 : (c : Int) < A 0) (cN : c < N) (k4 : k c < 4) : flF B (c : Int) = rotN (flF A (c : Int)) (k c) := by
  have hn := hA.1
  obtain ⟨a1, a2, a3, a4, a5⟩ := Tw_parts h N5 cN
  have k3 := h.1 (7 + 5 * (c : Int)) (by omega) (fun d _ => by omega)
  unfold flF
  rw [k3, a4]
  by_cases e : A (7 + 5 * (c : Int)) = 0 ∨ neF A (c : Int) = 0 ∨ A (7 + 5 * (c : Int)) < neF A (c : Int)
  · rw [if_pos e, if_pos e]
    unfold rotN
    rw [Nat.zero_mul, Nat.zero_div]; rfl
  · rw [if_neg e, if_neg e, a1, a2]
    have p := plF_r A (c : Int)
    have w := wdF_r hA (by omega) c1
    have s := span_rot (plF A (c : Int)).toNat (by omega) (wdF A (c : Int)).toNat (by omega) (k c) k4
    rw [show (((plF A (c : Int)).toNat : Nat) : Int) = plF A (c : Int) by omega, show (((wdF A (c : Int)).toNat : Nat) : Int) = wdF A (c : Int) by omega] at s
    rw [← s]
    congr 1
    omega
theorem Tw_cl {k : Nat → Nat} {N : Nat} {A B : SS} (h : Tw k N A B) (N5 : N ≤ 5) {c : Nat} (c5 : c < N) : Tw k N (clF A (c : Int)) (clF B (c : Int)) := by
  obtain ⟨a1, a2, a3, a4, a5⟩ := Tw_parts h N5 c5
  have k3 := h.1 (7 + 5 * (c : Int)) (by omega) (fun d _ => by omega)
  refine ⟨fun q hq hne => ?_, fun d d5 => ?_⟩
  · rw [clF_cloud hq, clF_cloud hq, mvF_at, mvF_at, k3, a2, a5, h.1 q hq hne]
    have := hne c c5
    split
    · rfl
    · simp only [if_neg this]
  · rw [clF_cloud (by omega), clF_cloud (by omega), mvF_at, mvF_at, k3]
    by_cases e : A (7 + 5 * (c : Int)) = 0
    · rw [if_pos e, if_pos e]; exact h.2 d d5
    · rw [if_neg e, if_neg e]
      by_cases ed : d = c
      · subst ed
        rw [if_pos rfl, if_pos rfl, a1]
      · rw [if_neg (by omega), if_neg (by omega), if_neg (by omega), if_neg (by omega), if_neg (by omega), if_neg (by omega)]
        exact h.2 d d5
theorem Tw_cls {k : Nat → Nat} {N : Nat} {A B : SS} (h : Tw k N A B) (N5 : N ≤ 5) : ∀ n : Nat, n ≤ N → Tw k N (clsF A n) (clsF B n)
  | 0, _ => h
  | n + 1, hn => Tw_cl (Tw_cls h N5 n (by omega)) N5 (by omega)
theorem Tw_dy {k : Nat → Nat} {N : Nat} {A B : SS} (h : Tw k N A B) (N5 : N ≤ 5) (hn : (A 0).toNat ≤ N) : Tw k N (dyF A) (dyF B) := by
  have e0 := h.1 0 (by omega) (fun d _ => by omega)
  have e3 := h.1 3 (by omega) (fun d _ => by omega)
  have hc := Tw_cls h N5 (A 0).toNat hn
  refine ⟨fun q hq hne => ?_, fun d d5 => ?_⟩
  · unfold dyF
    rw [e0, e3, hc.1 q hq hne]
  · unfold dyF
    rw [if_neg (by omega), if_neg (by omega), e0]
    exact hc.2 d d5
theorem Tw_dys {k : Nat → Nat} {N : Nat} {A B : SS} (h : Tw k N A B) (N5 : N ≤ 5) (hn : (A 0).toNat ≤ N) : ∀ n : Nat, Tw k N (dysF A n) (dysF B n)
  | 0 => h
  | n + 1 => Tw_dy (Tw_dys h N5 hn n) N5 (by rw [dysF_low (by omega)]; exact hn)
/-- where rain falls in a day -/
def rnF (T : SS) : Nat := orN (T 0).toNat (fun c => flF T (c : Int))
theorem ra_pos {T : SS} {c : Int} {f : Nat} (h : (flF T c).testBit f = true) : 1 ≤ raF T c := by
  have := raF_r T c
  by_cases e : raF T c = 0
  · have : flF T c = 0 := by
      unfold flF
      rw [if_pos (Or.inr (Or.inl (by unfold neF; rw [e, Int.mul_zero])))]
    rw [this, Nat.zero_testBit] at h
    cases h
  · omega
theorem cls_dry {B : Int} {T : SS} (hO : SOK B T) {f : Nat} (f1 : f < 16) : ∀ n : Nat, (n : Int) ≤ T 0 → (T (29 + (f : Int)) ≤ clsF T n (29 + (f : Int)) ∧ (clsF T n (29 + (f : Int)) = T (29 + (f : Int)) ↔ (orN n (fun c => flF T (c : Int))).testBit f = false))
  | 0, _ => ⟨Int.le_refl _, ⟨fun _ => Nat.zero_testBit f, fun _ => rfl⟩⟩
  | n + 1, hn => by
    obtain ⟨i1, i2⟩ := cls_dry hO f1 n (by omega)
    have h5 := hO.1
    have fc := fl_cls T n (by omega)
    have e := clF_fell (S := clsF T n) (c := (n : Int)) (f := (f : Int)) (by omega) (by omega) (by omega)
    rw [Int.toNat_natCast, fc] at e
    have rr := raF_r (clsF T n) (n : Int)
    have ob : (orN (n + 1) (fun c => flF T (c : Int))).testBit f = ((orN n (fun c => flF T (c : Int))).testBit f || (flF T (n : Int)).testBit f) := Nat.testBit_or _ _ _
    rw [ob]
    show T (29 + (f : Int)) ≤ clF (clsF T n) (n : Int) (29 + (f : Int)) ∧ _
    rw [clsF, e]
    cases hb : (flF T (n : Int)).testBit f with
    | true =>
      have rp := ra_pos (T := clsF T n) (c := (n : Int)) (f := f) (by rw [fc]; exact hb)
      rw [if_pos rfl, Bool.or_true]
      exact ⟨by omega, ⟨fun q => absurd q (by omega), fun q => by cases q⟩⟩
    | false =>
      rw [if_neg (by decide), Bool.or_false]
      exact ⟨i1, i2⟩
theorem dys_dry {B : Int} {T : SS} (hO : SOK B T) {f : Nat} (f1 : f < 16) : ∀ n : Nat, (T (29 + (f : Int)) ≤ dysF T n (29 + (f : Int)) ∧ (dysF T n (29 + (f : Int)) = T (29 + (f : Int)) ↔ (orN n (fun d => rnF (dysF T d))).testBit f = false))
  | 0 => ⟨Int.le_refl _, ⟨fun _ => Nat.zero_testBit f, fun _ => rfl⟩⟩
  | n + 1 => by
    obtain ⟨i1, i2⟩ := dys_dry hO f1 n
    have hO2 := SOK_dys hO n
    have h5 := hO2.1
    obtain ⟨j1, j2⟩ := cls_dry hO2 f1 (dysF T n 0).toNat (by omega)
    have ob : (orN (n + 1) (fun d => rnF (dysF T d))).testBit f = ((orN n (fun d => rnF (dysF T d))).testBit f || (rnF (dysF T n)).testBit f) := Nat.testBit_or _ _ _
    have ed : dysF T (n + 1) (29 + (f : Int)) = clsF (dysF T n) (dysF T n 0).toNat (29 + (f : Int)) := by
      rw [dysF, dyF_hi (by omega)]
    rw [ob, ed]
    refine ⟨by omega, ?_⟩
    have j3 : clsF (dysF T n) (dysF T n 0).toNat (29 + (f : Int)) = dysF T n (29 + (f : Int)) ↔ (rnF (dysF T n)).testBit f = false := j2
    rw [Bool.or_eq_false_iff, ← i2]
    constructor
    · intro q
      have : dysF T n (29 + (f : Int)) = T (29 + (f : Int)) := by omega
      exact ⟨this, j3.mp (by omega)⟩
    · intro q
      have := j3.mpr q.2
      have := q.1
      omega
