/-! ===== least tow: the towed sky ===== -/
/-- the digit by which cloud c of N is towed in way W -/
def dgt (N W c : Nat) : Nat := W / 4 ^ (N - 1 - c) % 4
def tsF (S : SS) (N W : Nat) : Nat → SS
  | 0 => S
  | c + 1 => upS (tsF S N W c) (5 + 5 * (c : Int)) ((S (5 + 5 * (c : Int)) + ((dgt N W c : Nat) : Int)) % 16)
/-- B is A, its clouds' places turned by k -/
def Tw (k : Nat → Nat) (A B : SS) : Prop := (∀ q : Int, q < 29 → (∀ c : Nat, c < 5 → q ≠ 5 + 5 * (c : Int)) → B q = A q) ∧ ∀ c : Nat, c < 5 → B (5 + 5 * (c : Int)) = (A (5 + 5 * (c : Int)) + ((k c : Nat) : Int)) % 16
theorem Tw_parts {k : Nat → Nat} {A B : SS} (h : Tw k A B) {c : Nat} (c5 : c < 5) : plF B (c : Int) = (plF A (c : Int) + ((k c : Nat) : Int)) % 16 ∧ wdF B (c : Int) = wdF A (c : Int) ∧ raF B (c : Int) = raF A (c : Int) ∧ neF B (c : Int) = neF A (c : Int) ∧ wtF B (c : Int) = wtF A (c : Int) := by
  have e1 := h.1 1 (by omega) (fun d _ => by omega)
  have e3 := h.1 3 (by omega) (fun d _ => by omega)
  have k0 := h.1 (4 + 5 * (c : Int)) (by omega) (fun d _ => by omega)
  have k2 := h.1 (6 + 5 * (c : Int)) (by omega) (fun d _ => by omega)
  have k3 := h.1 (7 + 5 * (c : Int)) (by omega) (fun d _ => by omega)
  have k1 := h.2 c c5
  have a1 : plF B (c : Int) = (plF A (c : Int) + ((k c : Nat) : Int)) % 16 := by unfold plF; rw [k0, k1, e1]; omega
  have a2 : wdF B (c : Int) = wdF A (c : Int) := by unfold wdF; rw [k0, k2, e3]
  have a3 : raF B (c : Int) = raF A (c : Int) := by unfold raF; rw [k0, e3]
  have a4 : neF B (c : Int) = neF A (c : Int) := by unfold neF; rw [a2, a3]
  have a5 : wtF B (c : Int) = wtF A (c : Int) := by unfold wtF; rw [a4, k3]
  exact ⟨a1, a2, a3, a4, a5⟩
theorem Tw_fl {k : Nat → Nat} {A B : SS} {Bo : Int} (h : Tw k A B) (hA : SOK Bo A) {c : Nat} (c1 : (c : Int) < A 0) (k4 : k c < 4) : flF B (c : Int) = rotN (flF A (c : Int)) (k c) := by
  have hn := hA.1
  obtain ⟨a1, a2, a3, a4, a5⟩ := Tw_parts h (show c < 5 by omega)
  have k3 := h.1 (7 + 5 * (c : Int)) (by omega) (fun d _ => by omega)
  unfold flF
  rw [k3, a4]
  by_cases e : A (7 + 5 * (c : Int)) = 0 ∨ neF A (c : Int) = 0 ∨ A (7 + 5 * (c : Int)) < neF A (c : Int)
  · rw [if_pos e, if_pos e]
    unfold rotN
    rw [Nat.zero_mul, Nat.zero_div]; rfl
  · rw [if_neg e, if_neg e, a1, a2]
    have p := plF_r A (c : Int)
    have w := wdF_r hA (by omega) c1
    have s := span_rot (plF A (c : Int)).toNat (by omega) (wdF A (c : Int)).toNat (by omega) (k c) k4
    rw [show (((plF A (c : Int)).toNat : Nat) : Int) = plF A (c : Int) by omega, show (((wdF A (c : Int)).toNat : Nat) : Int) = wdF A (c : Int) by omega] at s
    rw [← s]
    congr 1
    omega
