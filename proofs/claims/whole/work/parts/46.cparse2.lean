/-! ===== the class's reader: numbers, clouds ===== -/
theorem c_X4_takeNumber {E : EV} {M : MM} {L : Int → Int} {n lo hi : Int} {s : RS} (t : TP M L n) (h : RC M s) (ho : okS n s) (hlo : R32 lo) (hhi : R32 hi) : Cx E mX4_takeNumber 1 [vr 15, vi lo, vi hi] M (fun z m => ((nmS L n lo hi s).2 = 0 → s.2 = 0 → z = nmV L n s.1) ∧ RC m (nmS L n lo hi s) ∧ FrR M m) := by
  refine Ct.of [some (vr 15), some (vi lo), some (vi hi), none, none] rfl rfl rfl (Nat.le_of_ble_eq_true rfl) ?_
  obtain ⟨h1, h2⟩ := h
  obtain ⟨o1, o2, o3, o4⟩ := ho
  have tn := t.2.2
  have hl := nmN_le (L := L) o1 o2
  have tail : s.2 = 0 → ∀ f v : Int, nmN L n s.1 = f → (f = 1 ∨ f = 2 → v = nmV L n s.1) → -1000 ≤ v → v ≤ 1000 → Wp E mX4_takeNumber (kd 1) 68 [some (vr 15), some (vi lo), some (vi hi), some (vi f), some (vi v)] [] N0 G0 M (Px (fun z m => ((nmS L n lo hi s).2 = 0 → s.2 = 0 → z = nmV L n s.1) ∧ RC m (nmS L n lo hi s) ∧ FrR M m)) := by
    intro s0 f v hf hv v0 v1
    refine w_iload_n dX4_takeNumber_68 rfl ?_
    refine w_if_eq (tgt := 77) dX4_takeNumber_69 (by decide) (by omega) (fun h69 => ?_) (fun h69 => ?_)
    · refine w_aload_n dX4_takeNumber_77 rfl ?_
      refine w_iconst dX4_takeNumber_78 ?_
      refine r_putI (q := 3) dX4_takeNumber_79 fl4_26 g0_15 (by decide) rfl (by decide) (by omega) rfl (by decide +kernel) rfl ?_
      refine w_goto (tgt := 113) dX4_takeNumber_82 (by decide) ?_
      refine w_iload dX4_takeNumber_113 rfl ?_
      refine w_iret dX4_takeNumber_115 rfl (by omega) ?_ ⟨Nat.le_refl _, Nat.le_refl _⟩
      first | (refine q_x ?_; unfold nmS; rw [if_neg (by omega), if_pos (by omega)]; exact ⟨fun e => absurd (show (1 : Int) = 0 from e) (by decide), ⟨by rw [upM_ne (by omega)]; exact h1, by rw [upM_same]⟩, fun i hi => upM_cell hi⟩) | (have hv := hv (by omega); refine q_x ?_; unfold nmS; rw [if_neg (by omega), if_neg (by omega), if_pos (by omega)]; exact ⟨fun _ _ => hv, ⟨by rw [upM_same, h1, hf], by rw [upM_ne (by omega)]; omega⟩, fun i hi => upM_cell hi⟩) | (have hv := hv (by omega); refine q_x ?_; unfold nmS; rw [if_neg (by omega), if_neg (by omega), if_neg (by omega)]; exact ⟨fun e => absurd (show (2 : Int) = 0 from e) (by decide), ⟨by rw [upM_ne (by omega)]; exact h1, by rw [upM_same]⟩, fun i hi => upM_cell hi⟩)
    · refine w_iload_n dX4_takeNumber_72 rfl ?_
      refine w_iconst dX4_takeNumber_73 ?_
      refine w_icmp_ne (tgt := 85) dX4_takeNumber_74 (by decide) (by omega) (by omega) (fun h74 => ?_) (fun h74 => ?_)
      · refine w_iload dX4_takeNumber_85 rfl ?_
        refine w_iload_n dX4_takeNumber_87 rfl ?_
        refine w_iload_n dX4_takeNumber_88 rfl ?_
        refine cSm dX4_takeNumber_89 ok_X9_within (Or.inr ln4_75) (c_X9_within (by omega) (by omega) (by omega)) rfl  rfl (by decide) (Nat.le_of_ble_eq_true rfl) (fun r89 => ?_)
        refine w_ifB_ne (tgt := 103) dX4_takeNumber_92 (by decide) (fun h92 => ?_) (fun h92 => ?_)
        · (first | replace h92 := of_decide_eq_true h92 | replace h92 := of_decide_eq_false h92 | skip)
          refine w_aload_n dX4_takeNumber_103 rfl ?_
          refine w_dup dX4_takeNumber_104 rfl ?_
          refine r_getI (q := 1) dX4_takeNumber_105 fl4_22 g0_15 (by decide) rfl (by decide) rfl (fun r105 => ?_)
          refine w_iload_n dX4_takeNumber_108 rfl ?_
          refine w_iadd dX4_takeNumber_109 ?_
          refine r_putI (q := 1) dX4_takeNumber_110 fl4_22 g0_15 (by decide) rfl (by decide) (by omega) rfl (by decide +kernel) rfl ?_
          refine w_iload dX4_takeNumber_113 rfl ?_
          refine w_iret dX4_takeNumber_115 rfl (by omega) ?_ ⟨Nat.le_refl _, Nat.le_refl _⟩
          first | (refine q_x ?_; unfold nmS; rw [if_neg (by omega), if_pos (by omega)]; exact ⟨fun e => absurd (show (1 : Int) = 0 from e) (by decide), ⟨by rw [upM_ne (by omega)]; exact h1, by rw [upM_same]⟩, fun i hi => upM_cell hi⟩) | (have hv := hv (by omega); refine q_x ?_; unfold nmS; rw [if_neg (by omega), if_neg (by omega), if_pos (by omega)]; exact ⟨fun _ _ => hv, ⟨by rw [upM_same, h1, hf], by rw [upM_ne (by omega)]; omega⟩, fun i hi => upM_cell hi⟩) | (have hv := hv (by omega); refine q_x ?_; unfold nmS; rw [if_neg (by omega), if_neg (by omega), if_neg (by omega)]; exact ⟨fun e => absurd (show (2 : Int) = 0 from e) (by decide), ⟨by rw [upM_ne (by omega)]; exact h1, by rw [upM_same]⟩, fun i hi => upM_cell hi⟩)
        · (first | replace h92 := of_decide_eq_true h92 | replace h92 := of_decide_eq_false h92 | skip)
          refine w_aload_n dX4_takeNumber_95 rfl ?_
          refine w_iconst dX4_takeNumber_96 ?_
          refine r_putI (q := 3) dX4_takeNumber_97 fl4_26 g0_15 (by decide) rfl (by decide) (by omega) rfl (by decide +kernel) rfl ?_
          refine w_goto (tgt := 113) dX4_takeNumber_100 (by decide) ?_
          refine w_iload dX4_takeNumber_113 rfl ?_
          refine w_iret dX4_takeNumber_115 rfl (by omega) ?_ ⟨Nat.le_refl _, Nat.le_refl _⟩
          first | (refine q_x ?_; unfold nmS; rw [if_neg (by omega), if_pos (by omega)]; exact ⟨fun e => absurd (show (1 : Int) = 0 from e) (by decide), ⟨by rw [upM_ne (by omega)]; exact h1, by rw [upM_same]⟩, fun i hi => upM_cell hi⟩) | (have hv := hv (by omega); refine q_x ?_; unfold nmS; rw [if_neg (by omega), if_neg (by omega), if_pos (by omega)]; exact ⟨fun _ _ => hv, ⟨by rw [upM_same, h1, hf], by rw [upM_ne (by omega)]; omega⟩, fun i hi => upM_cell hi⟩) | (have hv := hv (by omega); refine q_x ?_; unfold nmS; rw [if_neg (by omega), if_neg (by omega), if_neg (by omega)]; exact ⟨fun e => absurd (show (2 : Int) = 0 from e) (by decide), ⟨by rw [upM_ne (by omega)]; exact h1, by rw [upM_same]⟩, fun i hi => upM_cell hi⟩)
      · refine w_aload_n dX4_takeNumber_77 rfl ?_
        refine w_iconst dX4_takeNumber_78 ?_
        refine r_putI (q := 3) dX4_takeNumber_79 fl4_26 g0_15 (by decide) rfl (by decide) (by omega) rfl (by decide +kernel) rfl ?_
        refine w_goto (tgt := 113) dX4_takeNumber_82 (by decide) ?_
        refine w_iload dX4_takeNumber_113 rfl ?_
        refine w_iret dX4_takeNumber_115 rfl (by omega) ?_ ⟨Nat.le_refl _, Nat.le_refl _⟩
        first | (refine q_x ?_; unfold nmS; rw [if_neg (by omega), if_pos (by omega)]; exact ⟨fun e => absurd (show (1 : Int) = 0 from e) (by decide), ⟨by rw [upM_ne (by omega)]; exact h1, by rw [upM_same]⟩, fun i hi => upM_cell hi⟩) | (have hv := hv (by omega); refine q_x ?_; unfold nmS; rw [if_neg (by omega), if_neg (by omega), if_pos (by omega)]; exact ⟨fun _ _ => hv, ⟨by rw [upM_same, h1, hf], by rw [upM_ne (by omega)]; omega⟩, fun i hi => upM_cell hi⟩) | (have hv := hv (by omega); refine q_x ?_; unfold nmS; rw [if_neg (by omega), if_neg (by omega), if_neg (by omega)]; exact ⟨fun e => absurd (show (2 : Int) = 0 from e) (by decide), ⟨by rw [upM_ne (by omega)]; exact h1, by rw [upM_same]⟩, fun i hi => upM_cell hi⟩)
  have l3 : s.2 = 0 → (48 ≤ ltr L n s.1 ∧ ltr L n s.1 ≤ 57) → (48 ≤ ltr L n (s.1 + 1) ∧ ltr L n (s.1 + 1) ≤ 57) → (48 ≤ ltr L n (s.1 + 2) ∧ ltr L n (s.1 + 2) ≤ 57) → ∀ f v : Int, f = 3 → 0 ≤ v → v ≤ 1000 → Wp E mX4_takeNumber (kd 1) 14 [some (vr 15), some (vi lo), some (vi hi), some (vi f), some (vi v)] [] N0 G0 M (Px (fun z m => ((nmS L n lo hi s).2 = 0 → s.2 = 0 → z = nmV L n s.1) ∧ RC m (nmS L n lo hi s) ∧ FrR M m)) := by
    intro s0 f0 f1 f2 f v hf v0 v1
    subst hf
    refine w_iload_n dX4_takeNumber_14 rfl ?_
    refine w_iconst dX4_takeNumber_15 ?_
    refine w_icmp_ge (tgt := 68) dX4_takeNumber_16 (by decide) (by omega) (by omega) (fun h16 => ?_) (fun h16 => ?_)
    · exact tail s0 3 v (by unfold nmN; rw [if_pos f0, if_pos f1, if_pos f2]) (fun e => absurd e (by omega)) (by omega) v1
    · exact absurd h16 (by omega)
  have l2 : s.2 = 0 → (48 ≤ ltr L n s.1 ∧ ltr L n s.1 ≤ 57) → (48 ≤ ltr L n (s.1 + 1) ∧ ltr L n (s.1 + 1) ≤ 57) → ∀ f v : Int, f = 2 → v = 10 * (ltr L n s.1 - 48) + (ltr L n (s.1 + 1) - 48) → Wp E mX4_takeNumber (kd 1) 14 [some (vr 15), some (vi lo), some (vi hi), some (vi f), some (vi v)] [] N0 G0 M (Px (fun z m => ((nmS L n lo hi s).2 = 0 → s.2 = 0 → z = nmV L n s.1) ∧ RC m (nmS L n lo hi s) ∧ FrR M m)) := by
    intro s0 f0 f1 f v hf hv
    subst hf
    refine w_iload_n dX4_takeNumber_14 rfl ?_
    refine w_iconst dX4_takeNumber_15 ?_
    refine w_icmp_ge (tgt := 68) dX4_takeNumber_16 (by decide) (by omega) (by omega) (fun h16 => ?_) (fun h16 => ?_)
    · exact absurd h16 (by omega)
    · refine w_aload_n dX4_takeNumber_19 rfl ?_
      refine w_getR (r := 13) dX4_takeNumber_20 fl4_18 g0_15 (by decide) rfl ?_
      refine w_aload_n dX4_takeNumber_23 rfl ?_
      refine r_getI (q := 1) dX4_takeNumber_24 fl4_22 g0_15 (by decide) rfl (by decide) rfl (fun r24 => ?_)
      refine w_iload_n dX4_takeNumber_27 rfl ?_
      refine w_iadd dX4_takeNumber_28 ?_
      rw [h1]
      refine cVm dX4_takeNumber_29 ok_X7_letter lv4_65 (c_ltr t (by omega)) rfl (congrArg Prod.fst g0_13) (by decide) (by decide) rfl (by decide) (Nat.le_of_ble_eq_true rfl) (fun r29 => ?_)
      refine cSm dX4_takeNumber_32 ok_X4_isFigure (Or.inl ls4_71) (c_X4_isFigure (by omega)) rfl  rfl (by decide) (Nat.le_of_ble_eq_true rfl) (fun r32 => ?_)
      refine w_ifB_eq (tgt := 68) dX4_takeNumber_35 (by decide) (fun h35 => ?_) (fun h35 => ?_)
      · (first | replace h35 := of_decide_eq_true h35 | replace h35 := of_decide_eq_false h35 | skip)
        exact tail s0 2 v (by unfold nmN; rw [if_pos f0, if_pos f1, if_neg h35]) (fun _ => by rw [hv]; unfold nmV; rw [if_neg (by unfold nmN; rw [if_pos f0, if_pos f1, if_neg h35]; decide)]) (by omega) (by omega)
      · (first | replace h35 := of_decide_eq_true h35 | replace h35 := of_decide_eq_false h35 | skip)
        refine w_bipush dX4_takeNumber_38 (by decide +kernel) ?_
        refine w_iload dX4_takeNumber_40 rfl ?_
        refine w_imul dX4_takeNumber_42 ?_
        refine w_aload_n dX4_takeNumber_43 rfl ?_
        refine w_getR (r := 13) dX4_takeNumber_44 fl4_18 g0_15 (by decide) rfl ?_
        refine w_aload_n dX4_takeNumber_47 rfl ?_
        refine r_getI (q := 1) dX4_takeNumber_48 fl4_22 g0_15 (by decide) rfl (by decide) rfl (fun r48 => ?_)
        refine w_iload_n dX4_takeNumber_51 rfl ?_
        refine w_iadd dX4_takeNumber_52 ?_
        rw [h1]
        refine cVm dX4_takeNumber_53 ok_X7_letter lv4_65 (c_ltr t (by omega)) rfl (congrArg Prod.fst g0_13) (by decide) (by decide) rfl (by decide) (Nat.le_of_ble_eq_true rfl) (fun r53 => ?_)
        refine w_iadd dX4_takeNumber_56 ?_
        refine w_bipush dX4_takeNumber_57 (by decide +kernel) ?_
        refine w_isub dX4_takeNumber_59 ?_
        refine w_istore dX4_takeNumber_60 (by decide) ?_
        refine w_iinc dX4_takeNumber_62 rfl (by decide) ?_
        refine w_goto (tgt := 14) dX4_takeNumber_65 (by decide) ?_
        exact l3 s0 f0 f1 h35 _ _ (by omega) (by omega) (by omega)
  have l1 : s.2 = 0 → (48 ≤ ltr L n s.1 ∧ ltr L n s.1 ≤ 57) → ∀ f v : Int, f = 1 → v = ltr L n s.1 - 48 → Wp E mX4_takeNumber (kd 1) 14 [some (vr 15), some (vi lo), some (vi hi), some (vi f), some (vi v)] [] N0 G0 M (Px (fun z m => ((nmS L n lo hi s).2 = 0 → s.2 = 0 → z = nmV L n s.1) ∧ RC m (nmS L n lo hi s) ∧ FrR M m)) := by
    intro s0 f0 f v hf hv
    subst hf
    refine w_iload_n dX4_takeNumber_14 rfl ?_
    refine w_iconst dX4_takeNumber_15 ?_
    refine w_icmp_ge (tgt := 68) dX4_takeNumber_16 (by decide) (by omega) (by omega) (fun h16 => ?_) (fun h16 => ?_)
    · exact absurd h16 (by omega)
    · refine w_aload_n dX4_takeNumber_19 rfl ?_
      refine w_getR (r := 13) dX4_takeNumber_20 fl4_18 g0_15 (by decide) rfl ?_
      refine w_aload_n dX4_takeNumber_23 rfl ?_
      refine r_getI (q := 1) dX4_takeNumber_24 fl4_22 g0_15 (by decide) rfl (by decide) rfl (fun r24 => ?_)
      refine w_iload_n dX4_takeNumber_27 rfl ?_
      refine w_iadd dX4_takeNumber_28 ?_
      rw [h1]
      refine cVm dX4_takeNumber_29 ok_X7_letter lv4_65 (c_ltr t (by omega)) rfl (congrArg Prod.fst g0_13) (by decide) (by decide) rfl (by decide) (Nat.le_of_ble_eq_true rfl) (fun r29 => ?_)
      refine cSm dX4_takeNumber_32 ok_X4_isFigure (Or.inl ls4_71) (c_X4_isFigure (by omega)) rfl  rfl (by decide) (Nat.le_of_ble_eq_true rfl) (fun r32 => ?_)
      refine w_ifB_eq (tgt := 68) dX4_takeNumber_35 (by decide) (fun h35 => ?_) (fun h35 => ?_)
      · (first | replace h35 := of_decide_eq_true h35 | replace h35 := of_decide_eq_false h35 | skip)
        exact tail s0 1 v (by unfold nmN; rw [if_pos f0, if_neg h35]) (fun _ => by rw [hv]; unfold nmV; rw [if_pos (by unfold nmN; rw [if_pos f0, if_neg h35])]) (by omega) (by omega)
      · (first | replace h35 := of_decide_eq_true h35 | replace h35 := of_decide_eq_false h35 | skip)
        refine w_bipush dX4_takeNumber_38 (by decide +kernel) ?_
        refine w_iload dX4_takeNumber_40 rfl ?_
        refine w_imul dX4_takeNumber_42 ?_
        refine w_aload_n dX4_takeNumber_43 rfl ?_
        refine w_getR (r := 13) dX4_takeNumber_44 fl4_18 g0_15 (by decide) rfl ?_
        refine w_aload_n dX4_takeNumber_47 rfl ?_
        refine r_getI (q := 1) dX4_takeNumber_48 fl4_22 g0_15 (by decide) rfl (by decide) rfl (fun r48 => ?_)
        refine w_iload_n dX4_takeNumber_51 rfl ?_
        refine w_iadd dX4_takeNumber_52 ?_
        rw [h1]
        refine cVm dX4_takeNumber_53 ok_X7_letter lv4_65 (c_ltr t (by omega)) rfl (congrArg Prod.fst g0_13) (by decide) (by decide) rfl (by decide) (Nat.le_of_ble_eq_true rfl) (fun r53 => ?_)
        refine w_iadd dX4_takeNumber_56 ?_
        refine w_bipush dX4_takeNumber_57 (by decide +kernel) ?_
        refine w_isub dX4_takeNumber_59 ?_
        refine w_istore dX4_takeNumber_60 (by decide) ?_
        refine w_iinc dX4_takeNumber_62 rfl (by decide) ?_
        refine w_goto (tgt := 14) dX4_takeNumber_65 (by decide) ?_
        exact l2 s0 f0 h35 _ _ (by omega) (by omega)
  refine w_aload_n dX4_takeNumber_0 rfl ?_
  refine r_getI (q := 3) dX4_takeNumber_1 fl4_26 g0_15 (by decide) rfl (by decide) rfl (fun r1 => ?_)
  refine w_if_eq (tgt := 9) dX4_takeNumber_4 (by decide) (by omega) (fun h4 => ?_) (fun h4 => ?_)
  · refine w_iconst dX4_takeNumber_9 ?_
    refine w_istore_n dX4_takeNumber_10 (by decide) ?_
    refine w_iconst dX4_takeNumber_11 ?_
    refine w_istore dX4_takeNumber_12 (by decide) ?_
    refine w_iload_n dX4_takeNumber_14 rfl ?_
    refine w_iconst dX4_takeNumber_15 ?_
    refine w_icmp_ge (tgt := 68) dX4_takeNumber_16 (by decide) (by omega) (by omega) (fun h16 => ?_) (fun h16 => ?_)
    · exact absurd h16 (by omega)
    · refine w_aload_n dX4_takeNumber_19 rfl ?_
      refine w_getR (r := 13) dX4_takeNumber_20 fl4_18 g0_15 (by decide) rfl ?_
      refine w_aload_n dX4_takeNumber_23 rfl ?_
      refine r_getI (q := 1) dX4_takeNumber_24 fl4_22 g0_15 (by decide) rfl (by decide) rfl (fun r24 => ?_)
      refine w_iload_n dX4_takeNumber_27 rfl ?_
      refine w_iadd dX4_takeNumber_28 ?_
      rw [h1, Int.add_zero]
      refine cVm dX4_takeNumber_29 ok_X7_letter lv4_65 (c_ltr t (by omega)) rfl (congrArg Prod.fst g0_13) (by decide) (by decide) rfl (by decide) (Nat.le_of_ble_eq_true rfl) (fun r29 => ?_)
      refine cSm dX4_takeNumber_32 ok_X4_isFigure (Or.inl ls4_71) (c_X4_isFigure (by omega)) rfl  rfl (by decide) (Nat.le_of_ble_eq_true rfl) (fun r32 => ?_)
      refine w_ifB_eq (tgt := 68) dX4_takeNumber_35 (by decide) (fun h35 => ?_) (fun h35 => ?_)
      · (first | replace h35 := of_decide_eq_true h35 | replace h35 := of_decide_eq_false h35 | skip)
        exact tail (by omega) 0 0 (by unfold nmN; rw [if_neg h35]) (fun e => absurd e (by omega)) (by omega) (by omega)
      · (first | replace h35 := of_decide_eq_true h35 | replace h35 := of_decide_eq_false h35 | skip)
        refine w_bipush dX4_takeNumber_38 (by decide +kernel) ?_
        refine w_iload dX4_takeNumber_40 rfl ?_
        refine w_imul dX4_takeNumber_42 ?_
        refine w_aload_n dX4_takeNumber_43 rfl ?_
        refine w_getR (r := 13) dX4_takeNumber_44 fl4_18 g0_15 (by decide) rfl ?_
        refine w_aload_n dX4_takeNumber_47 rfl ?_
        refine r_getI (q := 1) dX4_takeNumber_48 fl4_22 g0_15 (by decide) rfl (by decide) rfl (fun r48 => ?_)
        refine w_iload_n dX4_takeNumber_51 rfl ?_
        refine w_iadd dX4_takeNumber_52 ?_
        rw [h1, Int.add_zero]
        refine cVm dX4_takeNumber_53 ok_X7_letter lv4_65 (c_ltr t (by omega)) rfl (congrArg Prod.fst g0_13) (by decide) (by decide) rfl (by decide) (Nat.le_of_ble_eq_true rfl) (fun r53 => ?_)
        refine w_iadd dX4_takeNumber_56 ?_
        refine w_bipush dX4_takeNumber_57 (by decide +kernel) ?_
        refine w_isub dX4_takeNumber_59 ?_
        refine w_istore dX4_takeNumber_60 (by decide) ?_
        refine w_iinc dX4_takeNumber_62 rfl (by decide) ?_
        refine w_goto (tgt := 14) dX4_takeNumber_65 (by decide) ?_
        exact l1 (by omega) h35 _ _ (by omega) (by omega)
        skip
  · refine w_iconst dX4_takeNumber_7 ?_
    refine w_iret dX4_takeNumber_8 rfl (by omega) ?_ ⟨Nat.le_refl _, Nat.le_refl _⟩
    exact (q_x ⟨fun _ e => absurd e (by omega), by unfold nmS; rw [if_pos (by omega)]; exact ⟨h1, h2⟩, fun i _ => rfl⟩)
