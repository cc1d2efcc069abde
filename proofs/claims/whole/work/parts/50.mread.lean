/-! ===== the reference reads numbers, clouds ===== -/
def vD (L : Int → Int) (n b : Int) (j : Nat) : Int := if j = 0 then 0 else if j = 1 then ltr L n b - 48 else if j = 2 then 10 * (ltr L n b - 48) + (ltr L n (b + 1) - 48) else 10 * (10 * (ltr L n b - 48) + (ltr L n (b + 1) - 48)) + (ltr L n (b + 2) - 48)
def FrA (M m : MM) : Prop := (∀ i : Nat, i ≠ 238 → m i = M i) ∧ ∀ k : Int, k ≠ 9 → m 238 k = M 238 k
theorem FrA.w {M m : MM} (h : FrA M m) : FrW M m := ⟨h.1, fun k hk => h.2 k (by omega)⟩
theorem nmN_j {L : Int → Int} {n b : Int} {j : Nat} (hf : ∀ i : Nat, i < j → 48 ≤ ltr L n (b + (i : Int)) ∧ ltr L n (b + (i : Int)) ≤ 57) (hx : ¬ (48 ≤ ltr L n (b + (j : Int)) ∧ ltr L n (b + (j : Int)) ≤ 57)) : nmN L n b = (if j < 3 then (j : Int) else 3) := by
  have g : ∀ i : Nat, ∀ x : Int, x = b + (i : Int) → i < j → 48 ≤ ltr L n x ∧ ltr L n x ≤ 57 := fun i x e hi => by rw [e]; exact hf i hi
  unfold nmN
  rcases (show j = 0 ∨ j = 1 ∨ j = 2 ∨ 3 ≤ j by omega) with e | e | e | e
  · subst e
    rw [show b + ((0 : Nat) : Int) = b by omega] at hx
    rw [if_neg hx]; rfl
  · subst e
    rw [show b + ((1 : Nat) : Int) = b + 1 by omega] at hx
    rw [if_pos (g 0 b (by omega) (by omega)), if_neg hx]; rfl
  · subst e
    rw [show b + ((2 : Nat) : Int) = b + 2 by omega] at hx
    rw [if_pos (g 0 b (by omega) (by omega)), if_pos (g 1 (b + 1) (by omega) (by omega)), if_neg hx]; rfl
  · rw [if_pos (g 0 b (by omega) (by omega)), if_pos (g 1 (b + 1) (by omega) (by omega)), if_pos (g 2 (b + 2) (by omega) (by omega)), if_neg (by omega)]
theorem vD_r {L : Int → Int} {n b : Int} {j : Nat} (hf : ∀ i : Nat, i < j → 48 ≤ ltr L n (b + (i : Int)) ∧ ltr L n (b + (i : Int)) ≤ 57) : 0 ≤ vD L n b j ∧ vD L n b j ≤ 999 := by
  have g : ∀ i : Nat, ∀ x : Int, x = b + (i : Int) → i < j → 48 ≤ ltr L n x ∧ ltr L n x ≤ 57 := fun i x e hi => by rw [e]; exact hf i hi
  have g0 := g 0 b (by omega)
  have g1 := g 1 (b + 1) (by omega)
  have g2 := g 2 (b + 2) (by omega)
  unfold vD
  split
  · omega
  · split
    · have := g0 (by omega); omega
    · split
      · have := g0 (by omega); have := g1 (by omega); omega
      · have := g0 (by omega); have := g1 (by omega); have := g2 (by omega); omega
theorem vD_c {L : Int → Int} {n b : Int} {j : Nat} (h : 3 ≤ j) : vD L n b (j + 1) = vD L n b j := by
  unfold vD
  rw [if_neg (by omega), if_neg (by omega), if_neg (by omega), if_neg (by omega), if_neg (by omega), if_neg (by omega)]
theorem vD_s {L : Int → Int} {n b : Int} {j : Nat} (h : j < 3) : vD L n b (j + 1) = 10 * vD L n b j + ltr L n (b + (j : Int)) - 48 := by
  unfold vD
  rcases (show j = 0 ∨ j = 1 ∨ j = 2 by omega) with e | e | e
  · subst e
    rw [if_neg (by omega), if_pos rfl, if_pos rfl, show b + ((0 : Nat) : Int) = b by omega]; omega
  · subst e
    rw [if_neg (by omega), if_neg (by omega), if_pos rfl, if_neg (by omega), if_pos rfl, show b + ((1 : Nat) : Int) = b + 1 by omega]; omega
  · subst e
    rw [if_neg (by omega), if_neg (by omega), if_neg (by omega), if_neg (by omega), if_neg (by omega), if_pos rfl, show b + ((2 : Nat) : Int) = b + 2 by omega]; omega
theorem l_X10_number {E : EV} {M : MM} {L : Int → Int} {n lo hi b : Int} {Q : PP} (t : TM M L n) (b0 : 0 ≤ b) (b1 : b ≤ n)
    (hQ : ∀ (j : Nat) (v : Int) (m : MM), v = vD L n b j → m 238 9 = b + (j : Int) → b + (j : Int) ≤ n → FrA M m → (∀ i : Nat, i < j → 48 ≤ ltr L n (b + (i : Int)) ∧ ltr L n (b + (i : Int)) ≤ 57) → ¬ (48 ≤ ltr L n (b + (j : Int)) ∧ ltr L n (b + (j : Int)) ≤ 57) → Wp E mX10_number (kd 1) 88 [some (vr 238), some (vi lo), some (vi hi), some (vi b), some (vi v)] [] N0 G0 m Q) :
    ∀ (k j : Nat) (v : Int) (m : MM), v = vD L n b j → m 238 9 = b + (j : Int) → b + (j : Int) ≤ n → FrA M m → (∀ i : Nat, i < j → 48 ≤ ltr L n (b + (i : Int)) ∧ ltr L n (b + (i : Int)) ≤ 57) → (n - b).toNat - j < k → Wp E mX10_number (kd 1) 17 [some (vr 238), some (vi lo), some (vi hi), some (vi b), some (vi v)] [] N0 G0 m Q := by
  intro k
  have tn := t.2.2
  induction k with
  | zero => intro j v m hv h9 hj hF hf hk; exact absurd hk (by omega)
  | succ k ih =>
    intro j v m hv h9 hj hF hf hk
    subst hv
    have tm := hF.w.tm t
    have t1 := tm.1
    have vrr := vD_r hf
    have lx : ¬ b + (j : Int) < n → ltr L n (b + (j : Int)) = -1 := fun q => if_neg (by omega)
    have step : b + (j : Int) < n → (48 ≤ ltr L n (b + (j : Int)) ∧ ltr L n (b + (j : Int)) ≤ 57) → ∀ v : Int, v = vD L n b (j + 1) → Wp E mX10_number (kd 1) 75 [some (vr 238), some (vi lo), some (vi hi), some (vi b), some (vi v)] [] N0 G0 m Q := by
      intro q1 q2 v hv
      refine w_aload_n dX10_number_75 rfl ?_
      refine w_dup dX10_number_76 rfl ?_
      refine r_getI (q := 9) dX10_number_77 fl10_78 g0_238 (by decide) rfl (by decide) rfl (fun r77 => ?_)
      refine w_iconst dX10_number_80 ?_
      refine w_iadd dX10_number_81 ?_
      refine r_putI (q := 9) dX10_number_82 fl10_78 g0_238 (by decide) rfl (by decide) (by omega) rfl (by decide +kernel) rfl ?_
      refine w_goto (tgt := 17) dX10_number_85 (by decide) ?_
      exact ih (j + 1) _ _ hv (by rw [upM_same, h9]; omega) (by omega) ⟨fun i hi => by rw [upM_cell hi]; exact hF.1 i hi, fun k hk => by rw [upM_ne (fun w => hk w.2)]; exact hF.2 k hk⟩ (fun i hi => if e : i = j then (by rw [e]; exact q2) else hf i (by omega)) (by omega)
    refine w_aload_n dX10_number_17 rfl ?_
    refine r_getI (q := 9) dX10_number_18 fl10_78 g0_238 (by decide) rfl (by decide) rfl (fun r18 => ?_)
    refine w_aload_n dX10_number_21 rfl ?_
    refine r_getI (q := 8) dX10_number_22 fl10_74 g0_238 (by decide) rfl (by decide) rfl (fun r22 => ?_)
    refine w_icmp_ge (tgt := 88) dX10_number_25 (by decide) (by omega) (by omega) (fun h25 => ?_) (fun h25 => ?_)
    · exact hQ j _ m rfl h9 hj hF hf (by rw [lx (by omega)]; omega)
    · refine w_aload_n dX10_number_28 rfl ?_
      refine cVm dX10_number_29 ok_X10_here lv10_87 (c_here tm h9 (by omega)) rfl (congrArg Prod.fst g0_238) (by decide) (by decide) rfl (by decide) (Nat.le_of_ble_eq_true rfl) (fun r29 => ?_)
      rw [if_pos (show b + (j : Int) < n by omega)]
      rw [if_pos (show b + (j : Int) < n by omega)] at r29
      refine w_i2l dX10_number_32 (by omega) ?_
      refine w_ldc2 dX10_number_33 cl10_95 ?_
      refine w_ldc2 dX10_number_36 cl10_97 ?_
      refine cSm dX10_number_39 ok_X10_in (Or.inl ls10_50) (c_X10_in (by omega) (by omega) (by omega)) rfl  rfl (by decide) (Nat.le_of_ble_eq_true rfl) (fun r39 => ?_)
      refine w_ifB_eq (tgt := 88) dX10_number_42 (by decide) (fun h42 => ?_) (fun h42 => ?_)
      · (first | replace h42 := of_decide_eq_true h42 | replace h42 := of_decide_eq_false h42 | skip)
        exact hQ j _ m rfl h9 hj hF hf h42
      · (first | replace h42 := of_decide_eq_true h42 | replace h42 := of_decide_eq_false h42 | skip)
        refine w_aload_n dX10_number_45 rfl ?_
        refine r_getI (q := 9) dX10_number_46 fl10_78 g0_238 (by decide) rfl (by decide) rfl (fun r46 => ?_)
        refine w_iload_n dX10_number_49 rfl ?_
        refine w_isub dX10_number_50 ?_
        refine w_iconst dX10_number_51 ?_
        refine w_icmp_le (tgt := 60) dX10_number_52 (by decide) (by omega) (by omega) (fun h52 => ?_) (fun h52 => ?_)
        · refine w_bipush dX10_number_60 (by decide +kernel) ?_
          refine w_iload dX10_number_62 rfl ?_
          refine w_imul dX10_number_64 ?_
          refine w_aload_n dX10_number_65 rfl ?_
          refine cVm dX10_number_66 ok_X10_here lv10_87 (c_here tm h9 (by omega)) rfl (congrArg Prod.fst g0_238) (by decide) (by decide) rfl (by decide) (Nat.le_of_ble_eq_true rfl) (fun r66 => ?_)
          rw [if_pos (show b + (j : Int) < n by omega)]
          rw [if_pos (show b + (j : Int) < n by omega)] at r66
          refine w_iadd dX10_number_69 ?_
          refine w_bipush dX10_number_70 (by decide +kernel) ?_
          refine w_isub dX10_number_72 ?_
          refine w_istore dX10_number_73 (by decide) ?_
          first | exact step (by omega) h42 _ (vD_c (by omega)).symm | exact step (by omega) h42 _ (vD_s (by omega)).symm
        · refine w_iload dX10_number_55 rfl ?_
          refine w_goto (tgt := 73) dX10_number_57 (by decide) ?_
          refine w_istore dX10_number_73 (by decide) ?_
          first | exact step (by omega) h42 _ (vD_c (by omega)).symm | exact step (by omega) h42 _ (vD_s (by omega)).symm
theorem c_X10_number {E : EV} {M : MM} {L : Int → Int} {n lo hi : Int} {s : RS} (t : TM M L n) (h : RM M s) (ho : okS n s) (hlo : R32 lo) (hhi : R32 hi) : Cx E mX10_number 1 [vr 238, vi lo, vi hi] M (fun z m => ((nmS L n lo hi s).2 = 0 → s.2 = 0 → z = nmV L n s.1) ∧ RM m (nmS L n lo hi s) ∧ FrW M m) := by
  refine Ct.of [some (vr 238), some (vi lo), some (vi hi), none, none] rfl rfl rfl (Nat.le_of_ble_eq_true rfl) ?_
  obtain ⟨h1, h2, h3⟩ := h
  obtain ⟨o1, o2, o3, o4⟩ := ho
  have tn := t.2.2
  have tail : s.2 = 0 → ∀ (j : Nat) (v : Int) (m : MM), v = vD L n s.1 j → m 238 9 = s.1 + (j : Int) → s.1 + (j : Int) ≤ n → FrA M m → (∀ i : Nat, i < j → 48 ≤ ltr L n (s.1 + (i : Int)) ∧ ltr L n (s.1 + (i : Int)) ≤ 57) → ¬ (48 ≤ ltr L n (s.1 + (j : Int)) ∧ ltr L n (s.1 + (j : Int)) ≤ 57) → Wp E mX10_number (kd 1) 88 [some (vr 238), some (vi lo), some (vi hi), some (vi s.1), some (vi v)] [] N0 G0 m (Px (fun z m => ((nmS L n lo hi s).2 = 0 → s.2 = 0 → z = nmV L n s.1) ∧ RM m (nmS L n lo hi s) ∧ FrW M m)) := by
    intro s0 j v m hv h9 hj hF hf hx
    have nj := nmN_j hf hx
    have vrr := vD_r hf
    rw [← hv] at vrr
    have e10 : m 238 10 = 0 := by rw [hF.2 10 (by omega), h1]; exact s0
    have ev : j = 1 ∨ j = 2 → v = nmV L n s.1 := fun q => by
      rw [hv]
      unfold vD nmV
      rcases q with e | e
      · rw [nj, e]; rfl
      · rw [nj, e]; rfl
    have n1 : j = 0 ∨ 2 < j → nmS L n lo hi s = (s.1, 1) := fun q => by
      unfold nmS
      rw [if_neg (by omega), if_pos (by rw [nj]; split <;> omega)]
    have n2 : (j = 1 ∨ j = 2) → (lo ≤ v ∧ v ≤ hi) → nmS L n lo hi s = (s.1 + (j : Int), 0) := fun q w => by
      unfold nmS
      rw [if_neg (by omega), if_neg (by rw [nj, if_pos (by omega)]; omega), if_pos (by rw [← ev q]; exact w), nj, if_pos (by omega)]
    have n3 : (j = 1 ∨ j = 2) → ¬ (lo ≤ v ∧ v ≤ hi) → nmS L n lo hi s = (s.1, 2) := fun q w => by
      unfold nmS
      rw [if_neg (by omega), if_neg (by rw [nj, if_pos (by omega)]; omega), if_neg (by rw [← ev q]; exact w)]
    refine w_aload_n dX10_number_88 rfl ?_
    refine r_getI (q := 9) dX10_number_89 fl10_78 g0_238 (by decide) rfl (by decide) rfl (fun r89 => ?_)
    refine w_iload_n dX10_number_92 rfl ?_
    refine w_icmp_eq (tgt := 106) dX10_number_93 (by decide) (by omega) (by omega) (fun h93 => ?_) (fun h93 => ?_)
    · refine w_aload_n dX10_number_106 rfl ?_
      refine w_iconst dX10_number_107 ?_
      refine w_iload_n dX10_number_108 rfl ?_
      refine cVv dX10_number_109 ok_X10_wrong lv10_91 (c_X10_wrong (by omega) (by omega)) rfl (congrArg Prod.fst g0_238) (by decide) (by decide) rfl (by decide) (Nat.le_of_ble_eq_true rfl) ?_
      rw [if_pos e10]
      refine w_goto (tgt := 134) dX10_number_112 (by decide) ?_
      refine w_iload dX10_number_134 rfl ?_
      refine w_iret dX10_number_136 rfl (by omega) ?_ ⟨Nat.le_refl _, Nat.le_refl _⟩
      first | (have q := n1 (by omega); refine q_x ?_; rw [q]; exact ⟨fun w => absurd (show (1 : Int) = 0 from w) (by decide), ⟨by rw [upM_ne (by omega), upM_same], fun w => absurd (show (1 : Int) = 0 from w) (by decide), fun _ => by rw [upM_same]⟩, ((hF.w).up (by omega)).up (by omega)⟩) | (have q := n3 (by omega) h125; refine q_x ?_; rw [q]; exact ⟨fun w => absurd (show (2 : Int) = 0 from w) (by decide), ⟨by rw [upM_ne (by omega), upM_same], fun w => absurd (show (2 : Int) = 0 from w) (by decide), fun _ => by rw [upM_same]⟩, ((hF.w).up (by omega)).up (by omega)⟩) | (have q := n2 (by omega) h125; refine q_x ?_; rw [q]; exact ⟨fun _ _ => ev (by omega), ⟨e10, fun _ => h9, fun w => absurd (show (0 : Int) = 0 from rfl) w⟩, hF.w⟩)
    · refine w_aload_n dX10_number_96 rfl ?_
      refine r_getI (q := 9) dX10_number_97 fl10_78 g0_238 (by decide) rfl (by decide) rfl (fun r97 => ?_)
      refine w_iload_n dX10_number_100 rfl ?_
      refine w_isub dX10_number_101 ?_
      refine w_iconst dX10_number_102 ?_
      refine w_icmp_le (tgt := 115) dX10_number_103 (by decide) (by omega) (by omega) (fun h103 => ?_) (fun h103 => ?_)
      · refine w_iload dX10_number_115 rfl ?_
        refine w_i2l dX10_number_117 (by omega) ?_
        refine w_iload_n dX10_number_118 rfl ?_
        refine w_i2l dX10_number_119 (by omega) ?_
        refine w_iload_n dX10_number_120 rfl ?_
        refine w_i2l dX10_number_121 (by omega) ?_
        refine cSm dX10_number_122 ok_X10_in (Or.inl ls10_50) (c_X10_in (by omega) (by omega) (by omega)) rfl  rfl (by decide) (Nat.le_of_ble_eq_true rfl) (fun r122 => ?_)
        refine w_ifB_ne (tgt := 134) dX10_number_125 (by decide) (fun h125 => ?_) (fun h125 => ?_)
        · (first | replace h125 := of_decide_eq_true h125 | replace h125 := of_decide_eq_false h125 | skip)
          refine w_iload dX10_number_134 rfl ?_
          refine w_iret dX10_number_136 rfl (by omega) ?_ ⟨Nat.le_refl _, Nat.le_refl _⟩
          first | (have q := n1 (by omega); refine q_x ?_; rw [q]; exact ⟨fun w => absurd (show (1 : Int) = 0 from w) (by decide), ⟨by rw [upM_ne (by omega), upM_same], fun w => absurd (show (1 : Int) = 0 from w) (by decide), fun _ => by rw [upM_same]⟩, ((hF.w).up (by omega)).up (by omega)⟩) | (have q := n3 (by omega) h125; refine q_x ?_; rw [q]; exact ⟨fun w => absurd (show (2 : Int) = 0 from w) (by decide), ⟨by rw [upM_ne (by omega), upM_same], fun w => absurd (show (2 : Int) = 0 from w) (by decide), fun _ => by rw [upM_same]⟩, ((hF.w).up (by omega)).up (by omega)⟩) | (have q := n2 (by omega) h125; refine q_x ?_; rw [q]; exact ⟨fun _ _ => ev (by omega), ⟨e10, fun _ => h9, fun w => absurd (show (0 : Int) = 0 from rfl) w⟩, hF.w⟩)
        · (first | replace h125 := of_decide_eq_true h125 | replace h125 := of_decide_eq_false h125 | skip)
          refine w_aload_n dX10_number_128 rfl ?_
          refine w_iconst dX10_number_129 ?_
          refine w_iload_n dX10_number_130 rfl ?_
          refine cVv dX10_number_131 ok_X10_wrong lv10_91 (c_X10_wrong (by omega) (by omega)) rfl (congrArg Prod.fst g0_238) (by decide) (by decide) rfl (by decide) (Nat.le_of_ble_eq_true rfl) ?_
          rw [if_pos e10]
          refine w_iload dX10_number_134 rfl ?_
          refine w_iret dX10_number_136 rfl (by omega) ?_ ⟨Nat.le_refl _, Nat.le_refl _⟩
          first | (have q := n1 (by omega); refine q_x ?_; rw [q]; exact ⟨fun w => absurd (show (1 : Int) = 0 from w) (by decide), ⟨by rw [upM_ne (by omega), upM_same], fun w => absurd (show (1 : Int) = 0 from w) (by decide), fun _ => by rw [upM_same]⟩, ((hF.w).up (by omega)).up (by omega)⟩) | (have q := n3 (by omega) h125; refine q_x ?_; rw [q]; exact ⟨fun w => absurd (show (2 : Int) = 0 from w) (by decide), ⟨by rw [upM_ne (by omega), upM_same], fun w => absurd (show (2 : Int) = 0 from w) (by decide), fun _ => by rw [upM_same]⟩, ((hF.w).up (by omega)).up (by omega)⟩) | (have q := n2 (by omega) h125; refine q_x ?_; rw [q]; exact ⟨fun _ _ => ev (by omega), ⟨e10, fun _ => h9, fun w => absurd (show (0 : Int) = 0 from rfl) w⟩, hF.w⟩)
      · refine w_aload_n dX10_number_106 rfl ?_
        refine w_iconst dX10_number_107 ?_
        refine w_iload_n dX10_number_108 rfl ?_
        refine cVv dX10_number_109 ok_X10_wrong lv10_91 (c_X10_wrong (by omega) (by omega)) rfl (congrArg Prod.fst g0_238) (by decide) (by decide) rfl (by decide) (Nat.le_of_ble_eq_true rfl) ?_
        rw [if_pos e10]
        refine w_goto (tgt := 134) dX10_number_112 (by decide) ?_
        refine w_iload dX10_number_134 rfl ?_
        refine w_iret dX10_number_136 rfl (by omega) ?_ ⟨Nat.le_refl _, Nat.le_refl _⟩
        first | (have q := n1 (by omega); refine q_x ?_; rw [q]; exact ⟨fun w => absurd (show (1 : Int) = 0 from w) (by decide), ⟨by rw [upM_ne (by omega), upM_same], fun w => absurd (show (1 : Int) = 0 from w) (by decide), fun _ => by rw [upM_same]⟩, ((hF.w).up (by omega)).up (by omega)⟩) | (have q := n3 (by omega) h125; refine q_x ?_; rw [q]; exact ⟨fun w => absurd (show (2 : Int) = 0 from w) (by decide), ⟨by rw [upM_ne (by omega), upM_same], fun w => absurd (show (2 : Int) = 0 from w) (by decide), fun _ => by rw [upM_same]⟩, ((hF.w).up (by omega)).up (by omega)⟩) | (have q := n2 (by omega) h125; refine q_x ?_; rw [q]; exact ⟨fun _ _ => ev (by omega), ⟨e10, fun _ => h9, fun w => absurd (show (0 : Int) = 0 from rfl) w⟩, hF.w⟩)
  refine w_aload_n dX10_number_0 rfl ?_
  refine r_getI (q := 10) dX10_number_1 fl10_81 g0_238 (by decide) rfl (by decide) rfl (fun r1 => ?_)
  refine w_if_eq (tgt := 9) dX10_number_4 (by decide) (by omega) (fun h4 => ?_) (fun h4 => ?_)
  · refine w_aload_n dX10_number_9 rfl ?_
    refine r_getI (q := 9) dX10_number_10 fl10_78 g0_238 (by decide) rfl (by decide) rfl (fun r10 => ?_)
    refine w_istore_n dX10_number_13 (by decide) ?_
    refine w_iconst dX10_number_14 ?_
    refine w_istore dX10_number_15 (by decide) ?_
    have e0 : s.2 = 0 := by omega
    rw [h2 e0]
    exact l_X10_number t o1 o2 (tail e0) ((n - s.1).toNat + 1) 0 _ _ rfl (by rw [h2 e0]; omega) (by omega) ⟨fun i _ => rfl, fun k _ => rfl⟩ (fun i hi => absurd hi (Nat.not_lt_zero i)) (by omega)
  · refine w_iload_n dX10_number_7 rfl ?_
    refine w_iret dX10_number_8 rfl (by omega) ?_ ⟨Nat.le_refl _, Nat.le_refl _⟩
    exact (q_x ⟨fun _ e => absurd e (by omega), by unfold nmS; rw [if_pos (by omega)]; exact ⟨h1, h2, h3⟩, FrW.refl M⟩)
