/-! ===== a sky of the class: its numbers, its six rows ===== -/
def SV (M : MM) (a : Nat) (S : SS) : Prop := (∀ q : Int, 0 ≤ q → q < 4 → M a q = S q) ∧ (∀ c : Int, 0 ≤ c → c < S 0 → M (a + 1) c = S (4 + 5 * c) ∧ M (a + 2) c = S (5 + 5 * c) ∧ M (a + 3) c = S (6 + 5 * c) ∧ M (a + 4) c = S (7 + 5 * c) ∧ M (a + 5) c = S (8 + 5 * c)) ∧ ∀ f : Int, 0 ≤ f → f < 16 → M (a + 6) f = S (29 + f)
/-- nothing but the sky at a has changed -/
def Fr (a : Nat) (M m : MM) : Prop := ∀ i : Nat, ¬ (a ≤ i ∧ i ≤ a + 6) → m i = M i
theorem Fr.refl (a : Nat) (M : MM) : Fr a M M := fun _ _ => rfl
theorem Fr.trans {a : Nat} {M m m2 : MM} (h : Fr a M m) (h2 : Fr a m m2) : Fr a M m2 := fun i hi => (h2 i hi).trans (h i hi)
theorem Fr.up {a b : Nat} {M m : MM} {j v : Int} (h : Fr a M m) (hb : a ≤ b ∧ b ≤ a + 6) : Fr a M (upM m b j v) := fun i hi => by
  rw [← h i hi]
  exact upM_cell (fun e => hi (by omega))
def upS (S : SS) (j v : Int) : SS := fun q => if q = j then v else S q
theorem upS_at (S : SS) (j v q : Int) : upS S j v q = if q = j then v else S q := rfl
theorem wgen {E : EV} {X : MD} {k : KK} {pc : Nat} {ls : LV} {st : List AV} {n : Nat} {G : GG} {M : MM} {Q : PP} (P : MM → Prop) (hp : P M) (h : ∀ m, P m → Wp E X k pc ls st n G m Q) : Wp E X k pc ls st n G M Q := h M hp
theorem SV.congr {M : MM} {a : Nat} {S T : SS} (h : SV M a S) (e : ∀ q, S q = T q) : SV M a T := by
  have : S = T := funext e
  rw [← this]; exact h
theorem SV.kept {M m : MM} {a b : Nat} {S : SS} (h : SV M a S) (hf : Fr b M m) (hd : a + 6 < b ∨ b + 6 < a) : SV m a S := by
  obtain ⟨h1, h2, h3⟩ := h
  have e : ∀ i, a ≤ i → i ≤ a + 6 → m i = M i := fun i x y => hf i (by omega)
  refine ⟨fun q q0 q1 => ?_, fun c c0 c1 => ?_, fun f f0 f1 => ?_⟩
  · rw [e a (by omega) (by omega)]; exact h1 q q0 q1
  · rw [e (a + 1) (by omega) (by omega), e (a + 2) (by omega) (by omega), e (a + 3) (by omega) (by omega), e (a + 4) (by omega) (by omega), e (a + 5) (by omega) (by omega)]; exact h2 c c0 c1
  · rw [e (a + 6) (by omega) (by omega)]; exact h3 f f0 f1
theorem SV.same {M m : MM} {a : Nat} {S : SS} (h : SV M a S) (e : ∀ i, a ≤ i → i ≤ a + 6 → m i = M i) : SV m a S := by
  obtain ⟨h1, h2, h3⟩ := h
  refine ⟨fun q q0 q1 => ?_, fun c c0 c1 => ?_, fun f f0 f1 => ?_⟩
  · rw [e a (by omega) (by omega)]; exact h1 q q0 q1
  · rw [e (a + 1) (by omega) (by omega), e (a + 2) (by omega) (by omega), e (a + 3) (by omega) (by omega), e (a + 4) (by omega) (by omega), e (a + 5) (by omega) (by omega)]; exact h2 c c0 c1
  · rw [e (a + 6) (by omega) (by omega)]; exact h3 f f0 f1
theorem SV.num {M : MM} {a : Nat} {S : SS} (h : SV M a S) : M a 0 = S 0 := h.1 0 (by decide) (by decide)
theorem SV.wind {M : MM} {a : Nat} {S : SS} (h : SV M a S) : M a 1 = S 1 := h.1 1 (by decide) (by decide)
theorem SV.silk {M : MM} {a : Nat} {S : SS} (h : SV M a S) : M a 2 = S 2 := h.1 2 (by decide) (by decide)
theorem SV.day {M : MM} {a : Nat} {S : SS} (h : SV M a S) : M a 3 = S 3 := h.1 3 (by decide) (by decide)
theorem SV.kind {M : MM} {a : Nat} {S : SS} (h : SV M a S) {c : Int} (c0 : 0 ≤ c) (c1 : c < S 0) : M (a + 1) c = S (4 + 5 * c) := (h.2.1 c c0 c1).1
theorem SV.p_kind {M : MM} {a : Nat} {S : SS} (h : SV M a S) {c v w : Int} (c0 : 0 ≤ c) (c1 : c < S 0) (c5 : S 0 ≤ 5) (hv : v = w) : SV (upM M (a + 1) c v) a (upS S (4 + 5 * c) w) := by
  subst hv
  obtain ⟨h1, h2, h3⟩ := h
  have e0 : upS S (4 + 5 * c) v 0 = S 0 := if_neg (by omega)
  refine ⟨fun q q0 q1 => ?_, fun d d0 d1 => ?_, fun f f0 f1 => ?_⟩
  · rw [upM_cell (by omega), upS_at, if_neg (by omega)]; exact h1 q q0 q1
  · rw [e0] at d1
    have hd := h2 d d0 d1
    have g1 : upM M (a + 1) c v (a + 1) d = upS S (4 + 5 * c) v (4 + 5 * d) := by
      by_cases e : d = c
      · subst e; rw [upM_same, upS_at, if_pos rfl]
      · rw [upM_ne (fun w => e w.2), upS_at, if_neg (by omega)]; exact hd.1
    have g2 : upM M (a + 1) c v (a + 2) d = upS S (4 + 5 * c) v (5 + 5 * d) := by
      rw [upM_cell (by omega), upS_at, if_neg (by omega)]; exact hd.2.1
    have g3 : upM M (a + 1) c v (a + 3) d = upS S (4 + 5 * c) v (6 + 5 * d) := by
      rw [upM_cell (by omega), upS_at, if_neg (by omega)]; exact hd.2.2.1
    have g4 : upM M (a + 1) c v (a + 4) d = upS S (4 + 5 * c) v (7 + 5 * d) := by
      rw [upM_cell (by omega), upS_at, if_neg (by omega)]; exact hd.2.2.2.1
    have g5 : upM M (a + 1) c v (a + 5) d = upS S (4 + 5 * c) v (8 + 5 * d) := by
      rw [upM_cell (by omega), upS_at, if_neg (by omega)]; exact hd.2.2.2.2
    exact ⟨g1, g2, g3, g4, g5⟩
  · rw [upM_cell (by omega), upS_at, if_neg (by omega)]; exact h3 f f0 f1
theorem SV.place {M : MM} {a : Nat} {S : SS} (h : SV M a S) {c : Int} (c0 : 0 ≤ c) (c1 : c < S 0) : M (a + 2) c = S (5 + 5 * c) := (h.2.1 c c0 c1).2.1
theorem SV.p_place {M : MM} {a : Nat} {S : SS} (h : SV M a S) {c v w : Int} (c0 : 0 ≤ c) (c1 : c < S 0) (c5 : S 0 ≤ 5) (hv : v = w) : SV (upM M (a + 2) c v) a (upS S (5 + 5 * c) w) := by
  subst hv
  obtain ⟨h1, h2, h3⟩ := h
  have e0 : upS S (5 + 5 * c) v 0 = S 0 := if_neg (by omega)
  refine ⟨fun q q0 q1 => ?_, fun d d0 d1 => ?_, fun f f0 f1 => ?_⟩
  · rw [upM_cell (by omega), upS_at, if_neg (by omega)]; exact h1 q q0 q1
  · rw [e0] at d1
    have hd := h2 d d0 d1
    have g1 : upM M (a + 2) c v (a + 1) d = upS S (5 + 5 * c) v (4 + 5 * d) := by
      rw [upM_cell (by omega), upS_at, if_neg (by omega)]; exact hd.1
    have g2 : upM M (a + 2) c v (a + 2) d = upS S (5 + 5 * c) v (5 + 5 * d) := by
      by_cases e : d = c
      · subst e; rw [upM_same, upS_at, if_pos rfl]
      · rw [upM_ne (fun w => e w.2), upS_at, if_neg (by omega)]; exact hd.2.1
    have g3 : upM M (a + 2) c v (a + 3) d = upS S (5 + 5 * c) v (6 + 5 * d) := by
      rw [upM_cell (by omega), upS_at, if_neg (by omega)]; exact hd.2.2.1
    have g4 : upM M (a + 2) c v (a + 4) d = upS S (5 + 5 * c) v (7 + 5 * d) := by
      rw [upM_cell (by omega), upS_at, if_neg (by omega)]; exact hd.2.2.2.1
    have g5 : upM M (a + 2) c v (a + 5) d = upS S (5 + 5 * c) v (8 + 5 * d) := by
      rw [upM_cell (by omega), upS_at, if_neg (by omega)]; exact hd.2.2.2.2
    exact ⟨g1, g2, g3, g4, g5⟩
  · rw [upM_cell (by omega), upS_at, if_neg (by omega)]; exact h3 f f0 f1
theorem SV.wide {M : MM} {a : Nat} {S : SS} (h : SV M a S) {c : Int} (c0 : 0 ≤ c) (c1 : c < S 0) : M (a + 3) c = S (6 + 5 * c) := (h.2.1 c c0 c1).2.2.1
theorem SV.p_wide {M : MM} {a : Nat} {S : SS} (h : SV M a S) {c v w : Int} (c0 : 0 ≤ c) (c1 : c < S 0) (c5 : S 0 ≤ 5) (hv : v = w) : SV (upM M (a + 3) c v) a (upS S (6 + 5 * c) w) := by
  subst hv
  obtain ⟨h1, h2, h3⟩ := h
  have e0 : upS S (6 + 5 * c) v 0 = S 0 := if_neg (by omega)
  refine ⟨fun q q0 q1 => ?_, fun d d0 d1 => ?_, fun f f0 f1 => ?_⟩
  · rw [upM_cell (by omega), upS_at, if_neg (by omega)]; exact h1 q q0 q1
  · rw [e0] at d1
    have hd := h2 d d0 d1
    have g1 : upM M (a + 3) c v (a + 1) d = upS S (6 + 5 * c) v (4 + 5 * d) := by
      rw [upM_cell (by omega), upS_at, if_neg (by omega)]; exact hd.1
    have g2 : upM M (a + 3) c v (a + 2) d = upS S (6 + 5 * c) v (5 + 5 * d) := by
      rw [upM_cell (by omega), upS_at, if_neg (by omega)]; exact hd.2.1
    have g3 : upM M (a + 3) c v (a + 3) d = upS S (6 + 5 * c) v (6 + 5 * d) := by
      by_cases e : d = c
      · subst e; rw [upM_same, upS_at, if_pos rfl]
      · rw [upM_ne (fun w => e w.2), upS_at, if_neg (by omega)]; exact hd.2.2.1
    have g4 : upM M (a + 3) c v (a + 4) d = upS S (6 + 5 * c) v (7 + 5 * d) := by
      rw [upM_cell (by omega), upS_at, if_neg (by omega)]; exact hd.2.2.2.1
    have g5 : upM M (a + 3) c v (a + 5) d = upS S (6 + 5 * c) v (8 + 5 * d) := by
      rw [upM_cell (by omega), upS_at, if_neg (by omega)]; exact hd.2.2.2.2
    exact ⟨g1, g2, g3, g4, g5⟩
  · rw [upM_cell (by omega), upS_at, if_neg (by omega)]; exact h3 f f0 f1
theorem SV.wet {M : MM} {a : Nat} {S : SS} (h : SV M a S) {c : Int} (c0 : 0 ≤ c) (c1 : c < S 0) : M (a + 4) c = S (7 + 5 * c) := (h.2.1 c c0 c1).2.2.2.1
theorem SV.p_wet {M : MM} {a : Nat} {S : SS} (h : SV M a S) {c v w : Int} (c0 : 0 ≤ c) (c1 : c < S 0) (c5 : S 0 ≤ 5) (hv : v = w) : SV (upM M (a + 4) c v) a (upS S (7 + 5 * c) w) := by
  subst hv
  obtain ⟨h1, h2, h3⟩ := h
  have e0 : upS S (7 + 5 * c) v 0 = S 0 := if_neg (by omega)
  refine ⟨fun q q0 q1 => ?_, fun d d0 d1 => ?_, fun f f0 f1 => ?_⟩
  · rw [upM_cell (by omega), upS_at, if_neg (by omega)]; exact h1 q q0 q1
  · rw [e0] at d1
    have hd := h2 d d0 d1
    have g1 : upM M (a + 4) c v (a + 1) d = upS S (7 + 5 * c) v (4 + 5 * d) := by
      rw [upM_cell (by omega), upS_at, if_neg (by omega)]; exact hd.1
    have g2 : upM M (a + 4) c v (a + 2) d = upS S (7 + 5 * c) v (5 + 5 * d) := by
      rw [upM_cell (by omega), upS_at, if_neg (by omega)]; exact hd.2.1
    have g3 : upM M (a + 4) c v (a + 3) d = upS S (7 + 5 * c) v (6 + 5 * d) := by
      rw [upM_cell (by omega), upS_at, if_neg (by omega)]; exact hd.2.2.1
    have g4 : upM M (a + 4) c v (a + 4) d = upS S (7 + 5 * c) v (7 + 5 * d) := by
      by_cases e : d = c
      · subst e; rw [upM_same, upS_at, if_pos rfl]
      · rw [upM_ne (fun w => e w.2), upS_at, if_neg (by omega)]; exact hd.2.2.2.1
    have g5 : upM M (a + 4) c v (a + 5) d = upS S (7 + 5 * c) v (8 + 5 * d) := by
      rw [upM_cell (by omega), upS_at, if_neg (by omega)]; exact hd.2.2.2.2
    exact ⟨g1, g2, g3, g4, g5⟩
  · rw [upM_cell (by omega), upS_at, if_neg (by omega)]; exact h3 f f0 f1
theorem SV.hand {M : MM} {a : Nat} {S : SS} (h : SV M a S) {c : Int} (c0 : 0 ≤ c) (c1 : c < S 0) : M (a + 5) c = S (8 + 5 * c) := (h.2.1 c c0 c1).2.2.2.2
theorem SV.p_hand {M : MM} {a : Nat} {S : SS} (h : SV M a S) {c v w : Int} (c0 : 0 ≤ c) (c1 : c < S 0) (c5 : S 0 ≤ 5) (hv : v = w) : SV (upM M (a + 5) c v) a (upS S (8 + 5 * c) w) := by
  subst hv
  obtain ⟨h1, h2, h3⟩ := h
  have e0 : upS S (8 + 5 * c) v 0 = S 0 := if_neg (by omega)
  refine ⟨fun q q0 q1 => ?_, fun d d0 d1 => ?_, fun f f0 f1 => ?_⟩
  · rw [upM_cell (by omega), upS_at, if_neg (by omega)]; exact h1 q q0 q1
  · rw [e0] at d1
    have hd := h2 d d0 d1
    have g1 : upM M (a + 5) c v (a + 1) d = upS S (8 + 5 * c) v (4 + 5 * d) := by
      rw [upM_cell (by omega), upS_at, if_neg (by omega)]; exact hd.1
    have g2 : upM M (a + 5) c v (a + 2) d = upS S (8 + 5 * c) v (5 + 5 * d) := by
      rw [upM_cell (by omega), upS_at, if_neg (by omega)]; exact hd.2.1
    have g3 : upM M (a + 5) c v (a + 3) d = upS S (8 + 5 * c) v (6 + 5 * d) := by
      rw [upM_cell (by omega), upS_at, if_neg (by omega)]; exact hd.2.2.1
    have g4 : upM M (a + 5) c v (a + 4) d = upS S (8 + 5 * c) v (7 + 5 * d) := by
      rw [upM_cell (by omega), upS_at, if_neg (by omega)]; exact hd.2.2.2.1
    have g5 : upM M (a + 5) c v (a + 5) d = upS S (8 + 5 * c) v (8 + 5 * d) := by
      by_cases e : d = c
      · subst e; rw [upM_same, upS_at, if_pos rfl]
      · rw [upM_ne (fun w => e w.2), upS_at, if_neg (by omega)]; exact hd.2.2.2.2
    exact ⟨g1, g2, g3, g4, g5⟩
  · rw [upM_cell (by omega), upS_at, if_neg (by omega)]; exact h3 f f0 f1
theorem SV.p_fell {M : MM} {a : Nat} {S : SS} (h : SV M a S) {f v w : Int} (f0 : 0 ≤ f) (c5 : S 0 ≤ 5) (hv : v = w) : SV (upM M (a + 6) f v) a (upS S (29 + f) w) := by
  subst hv
  obtain ⟨h1, h2, h3⟩ := h
  have e0 : upS S (29 + f) v 0 = S 0 := if_neg (by omega)
  refine ⟨fun q q0 q1 => ?_, fun d d0 d1 => ?_, fun g g0 g1 => ?_⟩
  · rw [upM_cell (by omega), upS_at, if_neg (by omega)]; exact h1 q q0 q1
  · rw [e0] at d1
    rw [upM_cell (by omega), upM_cell (by omega), upM_cell (by omega), upM_cell (by omega), upM_cell (by omega), upS_at, upS_at, upS_at, upS_at, upS_at, if_neg (by omega), if_neg (by omega), if_neg (by omega), if_neg (by omega), if_neg (by omega)]
    exact h2 d d0 d1
  · by_cases e : g = f
    · subst e; rw [upM_same, upS_at, if_pos rfl]
    · rw [upM_ne (fun w => e w.2), upS_at, if_neg (by omega)]; exact h3 g g0 g1
theorem SV.p_fld {M : MM} {a : Nat} {S : SS} (h : SV M a S) {j v w : Int} (j0 : 1 ≤ j) (j1 : j < 4) (hv : v = w) : SV (upM M a j v) a (upS S j w) := by
  subst hv
  obtain ⟨h1, h2, h3⟩ := h
  have e0 : upS S j v 0 = S 0 := if_neg (by omega)
  refine ⟨fun q q0 q1 => ?_, fun d d0 d1 => ?_, fun g g0 g1 => ?_⟩
  · by_cases e : q = j
    · subst e; rw [upM_same, upS_at, if_pos rfl]
    · rw [upM_ne (fun w => e w.2), upS_at, if_neg e]; exact h1 q q0 q1
  · rw [e0] at d1
    rw [upM_cell (by omega), upM_cell (by omega), upM_cell (by omega), upM_cell (by omega), upM_cell (by omega), upS_at, upS_at, upS_at, upS_at, upS_at, if_neg (by omega), if_neg (by omega), if_neg (by omega), if_neg (by omega), if_neg (by omega)]
    exact h2 d d0 d1
  · rw [upM_cell (by omega), upS_at, if_neg (by omega)]; exact h3 g g0 g1
/-! Integer.bitCount, of small numbers -/
def bcA (x : Nat) : Nat := x - (x / 2 &&& 1431655765)
def bcB (y : Nat) : Nat := (y &&& 858993459) + (y / 4 &&& 858993459)
def bcC (y : Nat) : Nat := (y + y / 16) &&& 252645135
def bcD (y : Nat) : Nat := y + y / 256
def bcE (y : Nat) : Nat := y + y / 65536
def bcN (x : Nat) : Nat := bcE (bcD (bcC (bcB (bcA x)))) &&& 63
theorem bc_span : ∀ p : Nat, p < 16 → ∀ w : Nat, w < 9 → bcN (spanF (p : Int) (w : Int)) = w := by decide +kernel
theorem c_J6_bitCount_0f7a4 {E : EV} {M : MM} {x : Nat} (hx : x < 65536) : Cm E mJ6_bitCount_0f7a4 0 [vi (x : Int)] M ((bcN x : Nat) : Int) M := by
  refine Ct.of [some (vi (x : Int))] (by decide +kernel) rfl rfl (Nat.le_of_ble_eq_true rfl) ?_
  have a1 : (x / 2 &&& 1431655765) ≤ x / 2 := Nat.and_le_left
  have a2 : bcA x < 65536 := by unfold bcA; omega
  have eA : ((x : Int) - ((x / 2 &&& 1431655765 : Nat) : Int)) = ((bcA x : Nat) : Int) := by unfold bcA; omega
  have b1 : (bcA x &&& 858993459) ≤ 858993459 := Nat.and_le_right
  have b2 : (bcA x / 4 &&& 858993459) ≤ 858993459 := Nat.and_le_right
  have eB : (((bcA x &&& 858993459 : Nat) : Int) + ((bcA x / 4 &&& 858993459 : Nat) : Int)) = ((bcB (bcA x) : Nat) : Int) := by unfold bcB; omega
  have b3 : bcB (bcA x) ≤ 1717986918 := by unfold bcB; omega
  have c1 : bcC (bcB (bcA x)) ≤ 252645135 := by unfold bcC; exact Nat.and_le_right
  have eD : (((bcC (bcB (bcA x)) : Nat) : Int) + ((bcC (bcB (bcA x)) / 256 : Nat) : Int)) = ((bcD (bcC (bcB (bcA x))) : Nat) : Int) := by unfold bcD; omega
  have d1 : bcD (bcC (bcB (bcA x))) ≤ 260000000 := by unfold bcD; omega
  have eE : (((bcD (bcC (bcB (bcA x))) : Nat) : Int) + ((bcD (bcC (bcB (bcA x))) / 65536 : Nat) : Int)) = ((bcE (bcD (bcC (bcB (bcA x)))) : Nat) : Int) := by unfold bcE; omega
  have f1 : bcN x ≤ 63 := by unfold bcN; exact Nat.and_le_right
  refine w_iload_n dJ6_bitCount_0f7a4_0 rfl ?_
  refine w_iload_n dJ6_bitCount_0f7a4_1 rfl ?_
  refine w_iconst dJ6_bitCount_0f7a4_2 ?_
  refine w_ibin (r := ((x / 2 : Nat) : Int)) dJ6_bitCount_0f7a4_3 (Or.inr <| Or.inr <| Or.inr <| Or.inr <| Or.inr ⟨rfl, b_ushr (k := 1) (by omega) (by omega)⟩) ?_
  refine w_ldcw dJ6_bitCount_0f7a4_4 co13_265 ?_
  refine w_ibin (r := ((x / 2 &&& 1431655765 : Nat) : Int)) dJ6_bitCount_0f7a4_7 (Or.inl ⟨rfl, b_and _ 1431655765⟩) ?_
  refine w_isub dJ6_bitCount_0f7a4_8 ?_
  refine w_istore_n dJ6_bitCount_0f7a4_9 (by decide) ?_
  refine w_iload_n dJ6_bitCount_0f7a4_10 rfl ?_
  refine w_ldcw dJ6_bitCount_0f7a4_11 co13_266 ?_
  refine w_ibin (r := ((bcA x &&& 858993459 : Nat) : Int)) dJ6_bitCount_0f7a4_14 (Or.inl ⟨rfl, by rw [eA]; exact b_and _ 858993459⟩) ?_
  refine w_iload_n dJ6_bitCount_0f7a4_15 rfl ?_
  refine w_iconst dJ6_bitCount_0f7a4_16 ?_
  refine w_ibin (r := ((bcA x / 4 : Nat) : Int)) dJ6_bitCount_0f7a4_17 (Or.inr <| Or.inr <| Or.inr <| Or.inr <| Or.inr ⟨rfl, by rw [eA]; exact b_ushr (k := 2) (by omega) (by omega)⟩) ?_
  refine w_ldcw dJ6_bitCount_0f7a4_18 co13_266 ?_
  refine w_ibin (r := ((bcA x / 4 &&& 858993459 : Nat) : Int)) dJ6_bitCount_0f7a4_21 (Or.inl ⟨rfl, b_and _ 858993459⟩) ?_
  refine w_iadd dJ6_bitCount_0f7a4_22 ?_
  refine w_istore_n dJ6_bitCount_0f7a4_23 (by decide) ?_
  refine w_iload_n dJ6_bitCount_0f7a4_24 rfl ?_
  refine w_iload_n dJ6_bitCount_0f7a4_25 rfl ?_
  refine w_iconst dJ6_bitCount_0f7a4_26 ?_
  refine w_ibin (r := ((bcB (bcA x) / 16 : Nat) : Int)) dJ6_bitCount_0f7a4_27 (Or.inr <| Or.inr <| Or.inr <| Or.inr <| Or.inr ⟨rfl, by rw [eB]; exact b_ushr (k := 4) (by omega) (by omega)⟩) ?_
  refine w_iadd dJ6_bitCount_0f7a4_28 ?_
  refine w_ldcw dJ6_bitCount_0f7a4_29 co13_267 ?_
  refine w_ibin (r := ((bcC (bcB (bcA x)) : Nat) : Int)) dJ6_bitCount_0f7a4_32 (Or.inl ⟨rfl, by rw [eB, show ((bcB (bcA x) : Nat) : Int) + ((bcB (bcA x) / 16 : Nat) : Int) = ((bcB (bcA x) + bcB (bcA x) / 16 : Nat) : Int) by omega]; exact b_and _ 252645135⟩) ?_
  refine w_istore_n dJ6_bitCount_0f7a4_33 (by decide) ?_
  refine w_iload_n dJ6_bitCount_0f7a4_34 rfl ?_
  refine w_iload_n dJ6_bitCount_0f7a4_35 rfl ?_
  refine w_bipush dJ6_bitCount_0f7a4_36 (by decide +kernel) ?_
  refine w_ibin (r := ((bcC (bcB (bcA x)) / 256 : Nat) : Int)) dJ6_bitCount_0f7a4_38 (Or.inr <| Or.inr <| Or.inr <| Or.inr <| Or.inr ⟨rfl, b_ushr (k := 8) (by omega) (by omega)⟩) ?_
  refine w_iadd dJ6_bitCount_0f7a4_39 ?_
  refine w_istore_n dJ6_bitCount_0f7a4_40 (by decide) ?_
  refine w_iload_n dJ6_bitCount_0f7a4_41 rfl ?_
  refine w_iload_n dJ6_bitCount_0f7a4_42 rfl ?_
  refine w_bipush dJ6_bitCount_0f7a4_43 (by decide +kernel) ?_
  refine w_ibin (r := ((bcD (bcC (bcB (bcA x))) / 65536 : Nat) : Int)) dJ6_bitCount_0f7a4_45 (Or.inr <| Or.inr <| Or.inr <| Or.inr <| Or.inr ⟨rfl, by rw [eD]; exact b_ushr (k := 16) (by omega) (by omega)⟩) ?_
  refine w_iadd dJ6_bitCount_0f7a4_46 ?_
  refine w_istore_n dJ6_bitCount_0f7a4_47 (by decide) ?_
  refine w_iload_n dJ6_bitCount_0f7a4_48 rfl ?_
  refine w_bipush dJ6_bitCount_0f7a4_49 (by decide +kernel) ?_
  refine w_ibin (r := ((bcN x : Nat) : Int)) dJ6_bitCount_0f7a4_51 (Or.inl ⟨rfl, by rw [eD, eE]; exact b_and _ 63⟩) ?_
  exact w_iret dJ6_bitCount_0f7a4_52 rfl (by omega) ⟨rfl, rfl, rfl, rfl⟩ (by decide)
