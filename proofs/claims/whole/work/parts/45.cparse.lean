/-! ===== reading: the pure reader, and the class's ===== -/
/-- a place, and what is wrong there (0: nothing) -/
abbrev RS : Type := Int × Int
def ltr (L : Int → Int) (n i : Int) : Int := if 0 ≤ i ∧ i < n then L i else -1
def figB (x : Int) : Prop := 48 ≤ x ∧ x ≤ 57
def kndF (x : Int) : Int := if x = 99 then 1 else if x = 97 then 2 else if x = 109 then 3 else if x = 102 then 4 else if x = 98 then 5 else 0
def tkP (L : Int → Int) (n c : Int) (s : RS) : RS := if s.2 ≠ 0 then s else if ltr L n s.1 = c then (s.1 + 1, 0) else (s.1, 1)
def nmN (L : Int → Int) (n a : Int) : Int := if 48 ≤ ltr L n a ∧ ltr L n a ≤ 57 then (if 48 ≤ ltr L n (a + 1) ∧ ltr L n (a + 1) ≤ 57 then (if 48 ≤ ltr L n (a + 2) ∧ ltr L n (a + 2) ≤ 57 then 3 else 2) else 1) else 0
def nmV (L : Int → Int) (n a : Int) : Int := if nmN L n a = 1 then ltr L n a - 48 else 10 * (ltr L n a - 48) + (ltr L n (a + 1) - 48)
def nmS (L : Int → Int) (n lo hi : Int) (s : RS) : RS := if s.2 ≠ 0 then s else if nmN L n s.1 = 0 ∨ nmN L n s.1 = 3 then (s.1, 1) else if lo ≤ nmV L n s.1 ∧ nmV L n s.1 ≤ hi then (s.1 + nmN L n s.1, 0) else (s.1, 2)
def srS (L : Int → Int) (n k : Int) (s : RS) : RS := if s.2 ≠ 0 then s else if kndF (ltr L n s.1) = 0 then (s.1, 1) else if 5 ≤ k then (s.1, 3) else (s.1 + 1, 0)
theorem kndF_r (x : Int) : 0 ≤ kndF x ∧ kndF x ≤ 5 := by unfold kndF; (repeat' split) <;> omega
def okS (n : Int) (s : RS) : Prop := 0 ≤ s.1 ∧ s.1 ≤ n ∧ 0 ≤ s.2 ∧ s.2 ≤ 3
theorem ltr_in {L : Int → Int} {n i : Int} (h : ltr L n i ≠ -1) : 0 ≤ i ∧ i < n := Decidable.by_contra (fun e => h (if_neg e))
theorem ok_tk {L : Int → Int} {n c : Int} {s : RS} (hc : c ≠ -1) (h : okS n s) : okS n (tkP L n c s) := by
  unfold okS at h ⊢
  unfold tkP
  by_cases e : s.2 ≠ 0
  · rw [if_pos e]; exact h
  · rw [if_neg e]
    by_cases e2 : ltr L n s.1 = c
    · rw [if_pos e2]
      have := ltr_in (L := L) (n := n) (i := s.1) (by omega)
      show 0 ≤ s.1 + 1 ∧ s.1 + 1 ≤ n ∧ (0 : Int) ≤ 0 ∧ (0 : Int) ≤ 3
      omega
    · rw [if_neg e2]
      show 0 ≤ s.1 ∧ s.1 ≤ n ∧ (0 : Int) ≤ 1 ∧ (1 : Int) ≤ 3
      omega
theorem nmN_le {L : Int → Int} {n a : Int} (h0 : 0 ≤ a) (h1 : a ≤ n) : 0 ≤ nmN L n a ∧ nmN L n a ≤ 3 ∧ a + nmN L n a ≤ n := by
  have t0 : 48 ≤ ltr L n a ∧ ltr L n a ≤ 57 → a < n := fun h => (ltr_in (L := L) (n := n) (i := a) (by omega)).2
  have t1 : 48 ≤ ltr L n (a + 1) ∧ ltr L n (a + 1) ≤ 57 → a + 1 < n := fun h => (ltr_in (L := L) (n := n) (i := (a + 1)) (by omega)).2
  have t2 : 48 ≤ ltr L n (a + 2) ∧ ltr L n (a + 2) ≤ 57 → a + 2 < n := fun h => (ltr_in (L := L) (n := n) (i := (a + 2)) (by omega)).2
  unfold nmN
  by_cases e0 : 48 ≤ ltr L n a ∧ ltr L n a ≤ 57
  · have := t0 e0
    by_cases e1 : 48 ≤ ltr L n (a + 1) ∧ ltr L n (a + 1) ≤ 57
    · have := t1 e1
      by_cases e2 : 48 ≤ ltr L n (a + 2) ∧ ltr L n (a + 2) ≤ 57
      · have := t2 e2
        rw [if_pos e0, if_pos e1, if_pos e2]; omega
      · rw [if_pos e0, if_pos e1, if_neg e2]; omega
    · rw [if_pos e0, if_neg e1]; omega
  · rw [if_neg e0]; omega
theorem ok_nm {L : Int → Int} {n lo hi : Int} {s : RS} (h : okS n s) : okS n (nmS L n lo hi s) := by
  have hl := nmN_le (L := L) h.1 h.2.1
  unfold okS at h ⊢
  unfold nmS
  by_cases e : s.2 ≠ 0
  · rw [if_pos e]; exact h
  · rw [if_neg e]
    by_cases e2 : nmN L n s.1 = 0 ∨ nmN L n s.1 = 3
    · rw [if_pos e2]
      show 0 ≤ s.1 ∧ s.1 ≤ n ∧ (0 : Int) ≤ 1 ∧ (1 : Int) ≤ 3
      omega
    · rw [if_neg e2]
      by_cases e3 : lo ≤ nmV L n s.1 ∧ nmV L n s.1 ≤ hi
      · rw [if_pos e3]
        show 0 ≤ s.1 + nmN L n s.1 ∧ s.1 + nmN L n s.1 ≤ n ∧ (0 : Int) ≤ 0 ∧ (0 : Int) ≤ 3
        omega
      · rw [if_neg e3]
        show 0 ≤ s.1 ∧ s.1 ≤ n ∧ (0 : Int) ≤ 2 ∧ (2 : Int) ≤ 3
        omega
theorem ok_sr {L : Int → Int} {n k : Int} {s : RS} (h : okS n s) : okS n (srS L n k s) := by
  unfold okS at h ⊢
  unfold srS
  by_cases e : s.2 ≠ 0
  · rw [if_pos e]; exact h
  · rw [if_neg e]
    by_cases e2 : kndF (ltr L n s.1) = 0
    · rw [if_pos e2]
      show 0 ≤ s.1 ∧ s.1 ≤ n ∧ (0 : Int) ≤ 1 ∧ (1 : Int) ≤ 3
      omega
    · rw [if_neg e2]
      have : ltr L n s.1 ≠ -1 := fun q => e2 (by rw [q]; rfl)
      have := ltr_in this
      by_cases e3 : 5 ≤ k
      · rw [if_pos e3]
        show 0 ≤ s.1 ∧ s.1 ≤ n ∧ (0 : Int) ≤ 3 ∧ (3 : Int) ≤ 3
        omega
      · rw [if_neg e3]
        show 0 ≤ s.1 + 1 ∧ s.1 + 1 ≤ n ∧ (0 : Int) ≤ 0 ∧ (0 : Int) ≤ 3
        omega
/-- the class's reader: the tape, the place, the fault -/
def TP (M : MM) (L : Int → Int) (n : Int) : Prop := M 13 1 = n ∧ (∀ i : Int, 0 ≤ i → i < 100 → M 14 i = L i) ∧ 0 ≤ n ∧ n ≤ 100
def RC (M : MM) (s : RS) : Prop := M 15 1 = s.1 ∧ M 15 3 = s.2
/-- nothing but place and fault has changed -/
def FrR (M m : MM) : Prop := ∀ i : Nat, i ≠ 15 → m i = M i
theorem FrR.tp {M m : MM} {L : Int → Int} {n : Int} (h : FrR M m) (t : TP M L n) : TP m L n := ⟨by rw [h 13 (by omega)]; exact t.1, fun i a b => by rw [h 14 (by omega)]; exact t.2.1 i a b, t.2.2⟩
theorem c_ltr {E : EV} {M : MM} {L : Int → Int} {n i : Int} (t : TP M L n) (hi : R32 i) : Cm E mX7_letter 0 [vr 13, vi i] M (ltr L n i) M := by
  have h := c_X7_letter (E := E) (M := M) (i := i) hi (by rw [t.1]; exact t.2.2.2)
  have e : (if 0 ≤ i ∧ i < M 13 1 then M 14 i else -1) = ltr L n i := by
    unfold ltr
    rw [t.1]
    by_cases q : 0 ≤ i ∧ i < n
    · rw [if_pos q, if_pos q]; exact t.2.1 i q.1 (by have := t.2.2.2; omega)
    · rw [if_neg q, if_neg q]
  rw [e] at h
  exact h
theorem c_X4_isFigure {E : EV} {M : MM} {x : Int} (hx : R32 x) : Cm E mX4_isFigure 0 [vi x] M (bi (decide (48 ≤ x ∧ x ≤ 57))) M := by
  refine Ct.of [some (vi x)] rfl rfl rfl (Nat.le_of_ble_eq_true rfl) ?_
  refine w_iload_n dX4_isFigure_0 rfl ?_
  refine w_bipush dX4_isFigure_1 (by decide +kernel) ?_
  refine w_icmp_lt (tgt := 16) dX4_isFigure_3 (by decide) (by omega) (by omega) (fun h3 => ?_) (fun h3 => ?_)
  · refine w_iconst dX4_isFigure_16 ?_
    refine w_zret (b := false) dX4_isFigure_17 rfl ?_ ⟨Nat.le_refl _, Nat.le_refl _⟩
    exact (q_b (decide_eq_false (by omega)).symm)
  · refine w_iload_n dX4_isFigure_6 rfl ?_
    refine w_bipush dX4_isFigure_7 (by decide +kernel) ?_
    refine w_icmp_gt (tgt := 16) dX4_isFigure_9 (by decide) (by omega) (by omega) (fun h9 => ?_) (fun h9 => ?_)
    · refine w_iconst dX4_isFigure_16 ?_
      refine w_zret (b := false) dX4_isFigure_17 rfl ?_ ⟨Nat.le_refl _, Nat.le_refl _⟩
      exact (q_b (decide_eq_false (by omega)).symm)
    · refine w_iconst dX4_isFigure_12 ?_
      refine w_goto (tgt := 17) dX4_isFigure_13 (by decide) ?_
      refine w_zret (b := true) dX4_isFigure_17 rfl ?_ ⟨Nat.le_refl _, Nat.le_refl _⟩
      exact (q_b (decide_eq_true (by omega)).symm)
theorem c_X4_kindOf {E : EV} {M : MM} {x : Int} (hx : R32 x) : Cm E mX4_kindOf 0 [vi x] M (kndF x) M := by
  refine Ct.of [some (vi x)] rfl rfl rfl (Nat.le_of_ble_eq_true rfl) ?_
  refine w_iload_n dX4_kindOf_0 rfl ?_
  refine w_tabC (97) (tgt := 70) dX4_kindOf_1 (by omega) (by decide) rfl (by decide) (fun t97 => ?_) (fun t97 => ?_)
  · refine w_iconst dX4_kindOf_70 ?_
    refine w_iret dX4_kindOf_71 rfl (by omega) ?_ ⟨Nat.le_refl _, Nat.le_refl _⟩
    exact (q_i (by unfold kndF; (repeat' split) <;> omega))
  refine w_tabC (98) (tgt := 76) dX4_kindOf_1 (by omega) (by decide) rfl (by decide) (fun t98 => ?_) (fun t98 => ?_)
  · refine w_iconst dX4_kindOf_76 ?_
    refine w_iret dX4_kindOf_77 rfl (by omega) ?_ ⟨Nat.le_refl _, Nat.le_refl _⟩
    exact (q_i (by unfold kndF; (repeat' split) <;> omega))
  refine w_tabC (99) (tgt := 68) dX4_kindOf_1 (by omega) (by decide) rfl (by decide) (fun t99 => ?_) (fun t99 => ?_)
  · refine w_iconst dX4_kindOf_68 ?_
    refine w_iret dX4_kindOf_69 rfl (by omega) ?_ ⟨Nat.le_refl _, Nat.le_refl _⟩
    exact (q_i (by unfold kndF; (repeat' split) <;> omega))
  refine w_tabC (100) (tgt := 78) dX4_kindOf_1 (by omega) (by decide) rfl (by decide) (fun t100 => ?_) (fun t100 => ?_)
  · refine w_iconst dX4_kindOf_78 ?_
    refine w_iret dX4_kindOf_79 rfl (by omega) ?_ ⟨Nat.le_refl _, Nat.le_refl _⟩
    exact (q_i (by unfold kndF; (repeat' split) <;> omega))
  refine w_tabC (101) (tgt := 78) dX4_kindOf_1 (by omega) (by decide) rfl (by decide) (fun t101 => ?_) (fun t101 => ?_)
  · refine w_iconst dX4_kindOf_78 ?_
    refine w_iret dX4_kindOf_79 rfl (by omega) ?_ ⟨Nat.le_refl _, Nat.le_refl _⟩
    exact (q_i (by unfold kndF; (repeat' split) <;> omega))
  refine w_tabC (102) (tgt := 74) dX4_kindOf_1 (by omega) (by decide) rfl (by decide) (fun t102 => ?_) (fun t102 => ?_)
  · refine w_iconst dX4_kindOf_74 ?_
    refine w_iret dX4_kindOf_75 rfl (by omega) ?_ ⟨Nat.le_refl _, Nat.le_refl _⟩
    exact (q_i (by unfold kndF; (repeat' split) <;> omega))
  refine w_tabC (103) (tgt := 78) dX4_kindOf_1 (by omega) (by decide) rfl (by decide) (fun t103 => ?_) (fun t103 => ?_)
  · refine w_iconst dX4_kindOf_78 ?_
    refine w_iret dX4_kindOf_79 rfl (by omega) ?_ ⟨Nat.le_refl _, Nat.le_refl _⟩
    exact (q_i (by unfold kndF; (repeat' split) <;> omega))
  refine w_tabC (104) (tgt := 78) dX4_kindOf_1 (by omega) (by decide) rfl (by decide) (fun t104 => ?_) (fun t104 => ?_)
  · refine w_iconst dX4_kindOf_78 ?_
    refine w_iret dX4_kindOf_79 rfl (by omega) ?_ ⟨Nat.le_refl _, Nat.le_refl _⟩
    exact (q_i (by unfold kndF; (repeat' split) <;> omega))
  refine w_tabC (105) (tgt := 78) dX4_kindOf_1 (by omega) (by decide) rfl (by decide) (fun t105 => ?_) (fun t105 => ?_)
  · refine w_iconst dX4_kindOf_78 ?_
    refine w_iret dX4_kindOf_79 rfl (by omega) ?_ ⟨Nat.le_refl _, Nat.le_refl _⟩
    exact (q_i (by unfold kndF; (repeat' split) <;> omega))
  refine w_tabC (106) (tgt := 78) dX4_kindOf_1 (by omega) (by decide) rfl (by decide) (fun t106 => ?_) (fun t106 => ?_)
  · refine w_iconst dX4_kindOf_78 ?_
    refine w_iret dX4_kindOf_79 rfl (by omega) ?_ ⟨Nat.le_refl _, Nat.le_refl _⟩
    exact (q_i (by unfold kndF; (repeat' split) <;> omega))
  refine w_tabC (107) (tgt := 78) dX4_kindOf_1 (by omega) (by decide) rfl (by decide) (fun t107 => ?_) (fun t107 => ?_)
  · refine w_iconst dX4_kindOf_78 ?_
    refine w_iret dX4_kindOf_79 rfl (by omega) ?_ ⟨Nat.le_refl _, Nat.le_refl _⟩
    exact (q_i (by unfold kndF; (repeat' split) <;> omega))
  refine w_tabC (108) (tgt := 78) dX4_kindOf_1 (by omega) (by decide) rfl (by decide) (fun t108 => ?_) (fun t108 => ?_)
  · refine w_iconst dX4_kindOf_78 ?_
    refine w_iret dX4_kindOf_79 rfl (by omega) ?_ ⟨Nat.le_refl _, Nat.le_refl _⟩
    exact (q_i (by unfold kndF; (repeat' split) <;> omega))
  refine w_tabC (109) (tgt := 72) dX4_kindOf_1 (by omega) (by decide) rfl (by decide) (fun t109 => ?_) (fun t109 => ?_)
  · refine w_iconst dX4_kindOf_72 ?_
    refine w_iret dX4_kindOf_73 rfl (by omega) ?_ ⟨Nat.le_refl _, Nat.le_refl _⟩
    exact (q_i (by unfold kndF; (repeat' split) <;> omega))
  refine w_tabOut (tgt := 78) dX4_kindOf_1 (by omega) (by omega) (by decide) ?_
  refine w_iconst dX4_kindOf_78 ?_
  refine w_iret dX4_kindOf_79 rfl (by omega) ?_ ⟨Nat.le_refl _, Nat.le_refl _⟩
  exact (q_i (by unfold kndF; (repeat' split) <;> omega))
theorem c_X4_take {E : EV} {M : MM} {L : Int → Int} {n c : Int} {s : RS} (t : TP M L n) (h : RC M s) (ho : okS n s) (hc : R32 c) : Cxv E mX4_take 1 [vr 15, vi c] M (fun m => RC m (tkP L n c s) ∧ FrR M m) := by
  refine Ct.of [some (vr 15), some (vi c)] rfl rfl rfl (Nat.le_of_ble_eq_true rfl) ?_
  obtain ⟨h1, h2⟩ := h
  obtain ⟨o1, o2, o3, o4⟩ := ho
  have tn := t.2.2
  refine w_aload_n dX4_take_0 rfl ?_
  refine r_getI (q := 3) dX4_take_1 fl4_26 g0_15 (by decide) rfl (by decide) rfl (fun r1 => ?_)
  refine w_if_eq (tgt := 8) dX4_take_4 (by decide) (by omega) (fun h4 => ?_) (fun h4 => ?_)
  · refine w_aload_n dX4_take_8 rfl ?_
    refine w_getR (r := 13) dX4_take_9 fl4_18 g0_15 (by decide) rfl ?_
    refine w_aload_n dX4_take_12 rfl ?_
    refine r_getI (q := 1) dX4_take_13 fl4_22 g0_15 (by decide) rfl (by decide) rfl (fun r13 => ?_)
    rw [h1]
    refine cVm dX4_take_16 ok_X7_letter lv4_65 (c_ltr t (by omega)) rfl (congrArg Prod.fst g0_13) (by decide) (by decide) rfl (by decide) (Nat.le_of_ble_eq_true rfl) (fun r16 => ?_)
    refine w_iload_n dX4_take_19 rfl ?_
    refine w_icmp_ne (tgt := 36) dX4_take_20 (by decide) (by omega) (by omega) (fun h20 => ?_) (fun h20 => ?_)
    · refine w_aload_n dX4_take_36 rfl ?_
      refine w_iconst dX4_take_37 ?_
      refine r_putI (q := 3) dX4_take_38 fl4_26 g0_15 (by decide) rfl (by decide) (by omega) rfl (by decide +kernel) rfl ?_
      refine w_vret dX4_take_41 rfl ?_ ⟨Nat.le_refl _, Nat.le_refl _⟩
      first | (refine q_xv ⟨?_, fun i hi => upM_cell hi⟩; unfold tkP; rw [if_neg (by omega), if_pos (by omega)]; exact ⟨by rw [upM_same, h1], by rw [upM_ne (by omega)]; omega⟩) | (refine q_xv ⟨?_, fun i hi => upM_cell hi⟩; unfold tkP; rw [if_neg (by omega), if_neg (by omega)]; exact ⟨by rw [upM_ne (by omega)]; exact h1, by rw [upM_same]⟩)
    · refine w_aload_n dX4_take_23 rfl ?_
      refine w_dup dX4_take_24 rfl ?_
      refine r_getI (q := 1) dX4_take_25 fl4_22 g0_15 (by decide) rfl (by decide) rfl (fun r25 => ?_)
      refine w_iconst dX4_take_28 ?_
      refine w_iadd dX4_take_29 ?_
      refine r_putI (q := 1) dX4_take_30 fl4_22 g0_15 (by decide) rfl (by decide) (by omega) rfl (by decide +kernel) rfl ?_
      refine w_goto (tgt := 41) dX4_take_33 (by decide) ?_
      refine w_vret dX4_take_41 rfl ?_ ⟨Nat.le_refl _, Nat.le_refl _⟩
      first | (refine q_xv ⟨?_, fun i hi => upM_cell hi⟩; unfold tkP; rw [if_neg (by omega), if_pos (by omega)]; exact ⟨by rw [upM_same, h1], by rw [upM_ne (by omega)]; omega⟩) | (refine q_xv ⟨?_, fun i hi => upM_cell hi⟩; unfold tkP; rw [if_neg (by omega), if_neg (by omega)]; exact ⟨by rw [upM_ne (by omega)]; exact h1, by rw [upM_same]⟩)
  · refine w_vret dX4_take_7 rfl ?_ ⟨Nat.le_refl _, Nat.le_refl _⟩
    exact (q_xv ⟨by unfold tkP; rw [if_pos (by omega)]; exact ⟨h1, h2⟩, fun i _ => rfl⟩)
theorem c_X4_takeSort {E : EV} {M : MM} {L : Int → Int} {n k : Int} {s : RS} (t : TP M L n) (h : RC M s) (ho : okS n s) (hk : R32 k) : Cx E mX4_takeSort 1 [vr 15, vi k] M (fun z m => ((srS L n k s).2 = 0 → z = kndF (ltr L n s.1)) ∧ (0 ≤ z ∧ z ≤ 5) ∧ RC m (srS L n k s) ∧ FrR M m) := by
  refine Ct.of [some (vr 15), some (vi k), none] rfl rfl rfl (Nat.le_of_ble_eq_true rfl) ?_
  obtain ⟨h1, h2⟩ := h
  obtain ⟨o1, o2, o3, o4⟩ := ho
  have tn := t.2.2
  have kr := kndF_r (ltr L n s.1)
  refine w_aload_n dX4_takeSort_0 rfl ?_
  refine r_getI (q := 3) dX4_takeSort_1 fl4_26 g0_15 (by decide) rfl (by decide) rfl (fun r1 => ?_)
  refine w_if_eq (tgt := 9) dX4_takeSort_4 (by decide) (by omega) (fun h4 => ?_) (fun h4 => ?_)
  · refine w_aload_n dX4_takeSort_9 rfl ?_
    refine w_getR (r := 13) dX4_takeSort_10 fl4_18 g0_15 (by decide) rfl ?_
    refine w_aload_n dX4_takeSort_13 rfl ?_
    refine r_getI (q := 1) dX4_takeSort_14 fl4_22 g0_15 (by decide) rfl (by decide) rfl (fun r14 => ?_)
    rw [h1]
    refine cVm dX4_takeSort_17 ok_X7_letter lv4_65 (c_ltr t (by omega)) rfl (congrArg Prod.fst g0_13) (by decide) (by decide) rfl (by decide) (Nat.le_of_ble_eq_true rfl) (fun r17 => ?_)
    refine cSm dX4_takeSort_20 ok_X4_kindOf (Or.inl ls4_68) (c_X4_kindOf (by omega)) rfl  rfl (by decide) (Nat.le_of_ble_eq_true rfl) (fun r20 => ?_)
    refine w_istore_n dX4_takeSort_23 (by decide) ?_
    refine w_iload_n dX4_takeSort_24 rfl ?_
    refine w_if_ne (tgt := 36) dX4_takeSort_25 (by decide) (by omega) (fun h25 => ?_) (fun h25 => ?_)
    · refine w_iload_n dX4_takeSort_36 rfl ?_
      refine w_iconst dX4_takeSort_37 ?_
      refine w_icmp_lt (tgt := 49) dX4_takeSort_38 (by decide) (by omega) (by omega) (fun h38 => ?_) (fun h38 => ?_)
      · refine w_aload_n dX4_takeSort_49 rfl ?_
        refine w_dup dX4_takeSort_50 rfl ?_
        refine r_getI (q := 1) dX4_takeSort_51 fl4_22 g0_15 (by decide) rfl (by decide) rfl (fun r51 => ?_)
        refine w_iconst dX4_takeSort_54 ?_
        refine w_iadd dX4_takeSort_55 ?_
        refine r_putI (q := 1) dX4_takeSort_56 fl4_22 g0_15 (by decide) rfl (by decide) (by omega) rfl (by decide +kernel) rfl ?_
        refine w_iload_n dX4_takeSort_59 rfl ?_
        refine w_iret dX4_takeSort_60 rfl (by omega) ?_ ⟨Nat.le_refl _, Nat.le_refl _⟩
        first | (refine q_x ?_; unfold srS; rw [if_neg (by omega), if_pos (by omega)]; exact ⟨fun e => absurd (show (1 : Int) = 0 from e) (by decide), kr, ⟨by rw [upM_ne (by omega)]; exact h1, by rw [upM_same]⟩, fun i hi => upM_cell hi⟩) | (refine q_x ?_; unfold srS; rw [if_neg (by omega), if_neg (by omega), if_pos (by omega)]; exact ⟨fun e => absurd (show (3 : Int) = 0 from e) (by decide), kr, ⟨by rw [upM_ne (by omega)]; exact h1, by rw [upM_same]⟩, fun i hi => upM_cell hi⟩) | (refine q_x ?_; unfold srS; rw [if_neg (by omega), if_neg (by omega), if_neg (by omega)]; exact ⟨fun _ => rfl, kr, ⟨by rw [upM_same, h1], by rw [upM_ne (by omega)]; omega⟩, fun i hi => upM_cell hi⟩)
      · refine w_aload_n dX4_takeSort_41 rfl ?_
        refine w_iconst dX4_takeSort_42 ?_
        refine r_putI (q := 3) dX4_takeSort_43 fl4_26 g0_15 (by decide) rfl (by decide) (by omega) rfl (by decide +kernel) rfl ?_
        refine w_goto (tgt := 59) dX4_takeSort_46 (by decide) ?_
        refine w_iload_n dX4_takeSort_59 rfl ?_
        refine w_iret dX4_takeSort_60 rfl (by omega) ?_ ⟨Nat.le_refl _, Nat.le_refl _⟩
        first | (refine q_x ?_; unfold srS; rw [if_neg (by omega), if_pos (by omega)]; exact ⟨fun e => absurd (show (1 : Int) = 0 from e) (by decide), kr, ⟨by rw [upM_ne (by omega)]; exact h1, by rw [upM_same]⟩, fun i hi => upM_cell hi⟩) | (refine q_x ?_; unfold srS; rw [if_neg (by omega), if_neg (by omega), if_pos (by omega)]; exact ⟨fun e => absurd (show (3 : Int) = 0 from e) (by decide), kr, ⟨by rw [upM_ne (by omega)]; exact h1, by rw [upM_same]⟩, fun i hi => upM_cell hi⟩) | (refine q_x ?_; unfold srS; rw [if_neg (by omega), if_neg (by omega), if_neg (by omega)]; exact ⟨fun _ => rfl, kr, ⟨by rw [upM_same, h1], by rw [upM_ne (by omega)]; omega⟩, fun i hi => upM_cell hi⟩)
    · refine w_aload_n dX4_takeSort_28 rfl ?_
      refine w_iconst dX4_takeSort_29 ?_
      refine r_putI (q := 3) dX4_takeSort_30 fl4_26 g0_15 (by decide) rfl (by decide) (by omega) rfl (by decide +kernel) rfl ?_
      refine w_goto (tgt := 59) dX4_takeSort_33 (by decide) ?_
      refine w_iload_n dX4_takeSort_59 rfl ?_
      refine w_iret dX4_takeSort_60 rfl (by omega) ?_ ⟨Nat.le_refl _, Nat.le_refl _⟩
      first | (refine q_x ?_; unfold srS; rw [if_neg (by omega), if_pos (by omega)]; exact ⟨fun e => absurd (show (1 : Int) = 0 from e) (by decide), kr, ⟨by rw [upM_ne (by omega)]; exact h1, by rw [upM_same]⟩, fun i hi => upM_cell hi⟩) | (refine q_x ?_; unfold srS; rw [if_neg (by omega), if_neg (by omega), if_pos (by omega)]; exact ⟨fun e => absurd (show (3 : Int) = 0 from e) (by decide), kr, ⟨by rw [upM_ne (by omega)]; exact h1, by rw [upM_same]⟩, fun i hi => upM_cell hi⟩) | (refine q_x ?_; unfold srS; rw [if_neg (by omega), if_neg (by omega), if_neg (by omega)]; exact ⟨fun _ => rfl, kr, ⟨by rw [upM_same, h1], by rw [upM_ne (by omega)]; omega⟩, fun i hi => upM_cell hi⟩)
  · refine w_iconst dX4_takeSort_7 ?_
    refine w_iret dX4_takeSort_8 rfl (by omega) ?_ ⟨Nat.le_refl _, Nat.le_refl _⟩
    exact (q_x (by unfold srS; rw [if_pos (by omega)]; exact ⟨fun e => absurd e (by omega), by omega, ⟨h1, h2⟩, fun i _ => rfl⟩))
