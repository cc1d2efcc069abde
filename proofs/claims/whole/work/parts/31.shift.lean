/-! ===== rain that lay there before changes nothing but the sums ===== -/
def Sh (g : SS) (S T : SS) : Prop := (∀ q : Int, ¬ (29 ≤ q ∧ q < 45) → T q = S q) ∧ ∀ q : Int, 29 ≤ q → q < 45 → S q = T q + g q
theorem Sh_zr (S : SS) : Sh S S (zr S) := ⟨fun q h => if_neg h, fun q h0 h1 => by have : zr S q = 0 := if_pos ⟨h0, h1⟩; omega⟩
theorem Sh_up {g S T : SS} (h : Sh g S T) {j v : Int} (hj : j < 29) : Sh g (upS S j v) (upS T j v) := by
  refine ⟨fun q hq => ?_, fun q h0 h1 => ?_⟩
  · rw [upS_at, upS_at, h.1 q hq]
  · rw [upS_at, upS_at, if_neg (by omega), if_neg (by omega)]; exact h.2 q h0 h1
theorem Sh_parts {g S T : SS} (h : Sh g S T) {c : Int} (c0 : 0 ≤ c) (c1 : c < 5) : plF T c = plF S c ∧ wdF T c = wdF S c ∧ raF T c = raF S c ∧ neF T c = neF S c ∧ wtF T c = wtF S c ∧ flF T c = flF S c := by
  have e1 := h.1 1 (by omega)
  have e3 := h.1 3 (by omega)
  have k0 := h.1 (4 + 5 * c) (by omega)
  have k1 := h.1 (5 + 5 * c) (by omega)
  have k2 := h.1 (6 + 5 * c) (by omega)
  have k3 := h.1 (7 + 5 * c) (by omega)
  have a1 : plF T c = plF S c := by unfold plF; rw [k0, k1, e1]
  have a2 : wdF T c = wdF S c := by unfold wdF; rw [k0, k2, e3]
  have a3 : raF T c = raF S c := by unfold raF; rw [k0, e3]
  have a4 : neF T c = neF S c := by unfold neF; rw [a2, a3]
  have a5 : wtF T c = wtF S c := by unfold wtF; rw [a4, k3]
  have a6 : flF T c = flF S c := by unfold flF; rw [a4, k3, a1, a2]
  exact ⟨a1, a2, a3, a4, a5, a6⟩
theorem Sh_cl {g S T : SS} (h : Sh g S T) {c : Int} (c0 : 0 ≤ c) (c1 : c < 5) : Sh g (clF S c) (clF T c) := by
  obtain ⟨a1, a2, a3, a4, a5, a6⟩ := Sh_parts h c0 c1
  have k3 := h.1 (7 + 5 * c) (by omega)
  refine ⟨fun q hq => ?_, fun q h0 h1 => ?_⟩
  · unfold clF adR
    rw [if_neg (fun w => hq ⟨w.1, w.2.1⟩), if_neg (fun w => hq ⟨w.1, w.2.1⟩), mvF_at, mvF_at, k3, a1, a2, a5, h.1 q hq]
  · have em : ∀ X : SS, mvF X c q = X q := fun X => by
      rw [mvF_at]
      split
      · rfl
      · rw [if_neg (by omega), if_neg (by omega), if_neg (by omega)]
    have := h.2 q h0 h1
    unfold clF adR
    rw [em, em, a6, a3]
    split <;> omega
theorem Sh_cls {g S T : SS} (h : Sh g S T) : ∀ n : Nat, n ≤ 5 → Sh g (clsF S n) (clsF T n)
  | 0, _ => h
  | n + 1, hn => Sh_cl (Sh_cls h n (by omega)) (by omega) (by omega)
theorem Sh_dy {g S T : SS} (h : Sh g S T) (hn : S 0 ≤ 5) : Sh g (dyF S) (dyF T) := by
  have e0 := h.1 0 (by omega)
  have e3 := h.1 3 (by omega)
  have hc := Sh_cls h (S 0).toNat (by omega)
  refine ⟨fun q hq => ?_, fun q h0 h1 => ?_⟩
  · unfold dyF
    rw [e0, e3, hc.1 q hq]
  · unfold dyF
    rw [if_neg (by omega), if_neg (by omega), e0]
    exact hc.2 q h0 h1
theorem Sh_dys {g S T : SS} (h : Sh g S T) (hn : S 0 ≤ 5) : ∀ n : Nat, Sh g (dysF S n) (dysF T n)
  | 0 => h
  | n + 1 => Sh_dy (Sh_dys h hn n) (by rw [dysF_low (by omega)]; exact hn)
theorem zr_dys {S : SS} (hn : S 0 ≤ 5) (n : Nat) {q : Int} (hq : q < 29) : dysF (zr S) n q = dysF S n q := (Sh_dys (Sh_zr S) hn n).1 q (by omega)
theorem zr_fell {S : SS} (hn : S 0 ≤ 5) (n : Nat) {f : Int} (f0 : 0 ≤ f) (f1 : f < 16) : dysF (zr S) n (29 + f) = dysF S n (29 + f) - S (29 + f) := by
  have := (Sh_dys (Sh_zr S) hn n).2 (29 + f) (by omega) (by omega)
  omega
theorem Sh_md {g S T : SS} (h : Sh g S T) (x : Int) (h1 : 1 ≤ S 0) (hn : S 0 ≤ 5) : Sh g (mdF S x) (mdF T x) := by
  have e0 := h.1 0 (by omega)
  have a := Int.emod_nonneg x (b := S 0) (by omega)
  have b := Int.emod_lt_of_pos x (b := S 0) (by omega)
  unfold mdF
  rw [e0]
  split
  · rw [h.1 2 (by omega), h.1 (7 + 5 * (x % S 0)) (by omega)]
    exact Sh_up h (by omega)
  · exact h
