/-! ===== the reference: days go by; acts are noted ===== -/
theorem l_X10_goesBy {E : EV} {M : MM} {S : SS} {B : Int} (hO : SOK B S) (hB : B ≤ 90000) (hD : S 3 ≤ 90000) :
    ∀ (k c : Nat) (z : Int) (m : MM), z = c → (c : Int) ≤ S 0 → (S 0).toNat - c < k → (∀ q, m 243 q = clsF S c q) → FrN M m → Wp E mX10_goesBy (kd 4) 2 [some (vr 238), some (vi z)] [] N0 G0 m (Pxv (fun m => (∀ q, m 243 q = dyF S q) ∧ FrN M m)) := by
  intro k
  induction k with
  | zero => intro c z m hz hc hk; exact absurd hk (by omega)
  | succ k ih =>
    intro c z m hz hc hk hm hF
    subst hz
    have hn := hO.1
    have e0 : m 243 0 = S 0 := by rw [hm, clsF_low (by omega)]
    have e3 : m 243 3 = S 3 := by rw [hm, clsF_low (by omega)]
    have e30 : clsF S c 3 = S 3 := clsF_low (by omega) c
    have e00 : clsF S c 0 = S 0 := clsF_low (by omega) c
    have hT := SOK_cls hO c hc
    have eT := hm (7 + 5 * (c : Int))
    have hd := hO.2.2.2.1
    have skip : clsF S c (7 + 5 * (c : Int)) = 0 → ∀ q, m 243 q = clsF S (c + 1) q := fun h q => by
      rw [hm, clsF]; unfold clF adR flF
      rw [if_neg (fun w => by have := w.2.2; rw [if_pos (Or.inl h), Nat.zero_testBit] at this; cases this), mvF_at, if_pos h]
    refine w_iload_n dX10_goesBy_2 rfl ?_
    refine w_aload_n dX10_goesBy_3 rfl ?_
    refine w_getR (r := 243) dX10_goesBy_4 fl10_22 g0_238 (by decide) rfl ?_
    refine w_iconst dX10_goesBy_7 ?_
    refine r_ild dX10_goesBy_8 g0_243 (by decide) (by omega) (by omega) (by decide) (fun r8 => ?_)
    refine w_icmp_ge (tgt := 36) dX10_goesBy_9 (by decide) (by omega) (by omega) (fun hc => ?_) (fun hc => ?_)
    · have ec : (S 0).toNat = c := by omega
      refine w_aload_n dX10_goesBy_36 rfl ?_
      refine w_getR (r := 243) dX10_goesBy_37 fl10_22 g0_238 (by decide) rfl ?_
      refine w_iconst dX10_goesBy_40 ?_
      refine w_dup2 dX10_goesBy_41 rfl rfl ?_
      refine r_ild dX10_goesBy_42 g0_243 (by decide) (by omega) (by omega) (by decide) (fun r42 => ?_)
      refine w_iconst dX10_goesBy_43 ?_
      refine w_iadd dX10_goesBy_44 ?_
      refine r_ist dX10_goesBy_45 g0_243 (by decide) (by omega) (by omega) (by omega) (by decide) ?_
      refine w_vret dX10_goesBy_46 rfl ?_ ⟨Nat.le_refl _, Nat.le_refl _⟩
      exact (q_xv ⟨fun q => by rw [upS_mem hm (j := 3) (w := S 3 + 1) (by rw [e3]) q, upS_at]; unfold dyF; rw [ec], hF.up⟩)
    · refine w_aload_n dX10_goesBy_12 rfl ?_
      refine w_iload_n dX10_goesBy_13 rfl ?_
      refine cVm dX10_goesBy_14 ok_X10_isGone lv10_129 (c_X10_isGone (by omega) (by omega)) rfl (congrArg Prod.fst g0_238) (by decide) (by decide) rfl (by decide) (Nat.le_of_ble_eq_true rfl) (fun r14 => ?_)
      refine w_ifB_ne (tgt := 30) dX10_goesBy_17 (by decide) (fun h17 => ?_) (fun h17 => ?_)
      · refine w_iinc dX10_goesBy_30 rfl (by decide) ?_
        refine w_goto (tgt := 2) dX10_goesBy_33 (by decide) ?_
        first | exact ih (c + 1) _ _ (by omega) (by omega) (by omega) (fun q => p27.1 q) ((hF.trans p22.2).trans p27.2) | exact ih (c + 1) _ _ (by omega) (by omega) (by omega) (skip (by rw [← eT]; exact of_decide_eq_true h17)) hF
      · have h17 := of_decide_eq_false h17
        refine w_aload_n dX10_goesBy_20 rfl ?_
        refine w_iload_n dX10_goesBy_21 rfl ?_
        refine cVxv dX10_goesBy_22 ok_X10_goesOn lv10_138 (c_X10_goesOn hm hT (by omega) (by omega)) rfl (congrArg Prod.fst g0_238) (by decide) (by decide) rfl (by decide) (Nat.le_of_ble_eq_true rfl) (fun m22 p22 => ?_)
        refine w_aload_n dX10_goesBy_25 rfl ?_
        refine w_iload_n dX10_goesBy_26 rfl ?_
        refine cVxv dX10_goesBy_27 ok_X10_rainsOf lv10_141 (c_X10_rainsOf p22.1 hT (by omega) (by omega) (by omega) (by omega) (by rw [← eT]; exact h17)) rfl (congrArg Prod.fst g0_238) (by decide) (by decide) rfl (by decide) (Nat.le_of_ble_eq_true rfl) (fun m27 p27 => ?_)
        refine w_iinc dX10_goesBy_30 rfl (by decide) ?_
        refine w_goto (tgt := 2) dX10_goesBy_33 (by decide) ?_
        first | exact ih (c + 1) _ _ (by omega) (by omega) (by omega) (fun q => p27.1 q) ((hF.trans p22.2).trans p27.2) | exact ih (c + 1) _ _ (by omega) (by omega) (by omega) (skip (by rw [← eT]; exact of_decide_eq_true h17)) hF
theorem c_X10_goesBy {E : EV} {M : MM} {S : SS} {B : Int} (hM : ∀ q, M 243 q = S q) (hO : SOK B S) (hB : B ≤ 90000) (hD : S 3 ≤ 90000) : Cxv E mX10_goesBy 4 [vr 238] M (fun m => (∀ q, m 243 q = dyF S q) ∧ FrN M m) := by
  refine Ct.of [some (vr 238), none] rfl rfl rfl (Nat.le_of_ble_eq_true rfl) ?_
  have hn := hO.1
  refine w_iconst dX10_goesBy_0 ?_
  refine w_istore_n dX10_goesBy_1 (by decide) ?_
  exact l_X10_goesBy hO hB hD ((S 0).toNat + 1) 0 _ _ rfl (by omega) (by omega) hM (FrN.refl M)
theorem l_X10_goes {E : EV} {M : MM} {S : SS} {B n : Int} (hO : SOK B S) (hB : B ≤ 80000) (hD : S 3 ≤ 80000) (n0 : 0 ≤ n) (n1 : n ≤ 100) :
    ∀ (k d : Nat) (z : Int) (m : MM), z = d → (d : Int) ≤ n → n.toNat - d < k → (∀ q, m 243 q = dysF S d q) → FrN M m → Wp E mX10_goes (kd 5) 2 [some (vr 238), some (vi n), some (vi z)] [] N0 G0 m (Pxv (fun m => (∀ q, m 243 q = dysF S n.toNat q) ∧ FrN M m)) := by
  intro k
  induction k with
  | zero => intro d z m hz hd hk; exact absurd hk (by omega)
  | succ k ih =>
    intro d z m hz hd hk hm hF
    subst hz
    have h3 := dysF_3 S d
    refine w_iload_n dX10_goes_2 rfl ?_
    refine w_iload_n dX10_goes_3 rfl ?_
    refine w_icmp_ge (tgt := 17) dX10_goes_4 (by decide) (by omega) (by omega) (fun h4 => ?_) (fun h4 => ?_)
    · have ed : n.toNat = d := by omega
      refine w_vret dX10_goes_17 rfl ?_ ⟨Nat.le_refl _, Nat.le_refl _⟩
      exact (q_xv ⟨by rw [ed]; exact hm, hF⟩)
    · refine w_aload_n dX10_goes_7 rfl ?_
      refine cVxv dX10_goes_8 ok_X10_goesBy lv10_153 (c_X10_goesBy hm (SOK_dys hO d) (by omega) (by omega)) rfl (congrArg Prod.fst g0_238) (by decide) (by decide) rfl (by decide) (Nat.le_of_ble_eq_true rfl) (fun m8 p8 => ?_)
      refine w_iinc dX10_goes_11 rfl (by decide) ?_
      refine w_goto (tgt := 2) dX10_goes_14 (by decide) ?_
      exact ih (d + 1) _ _ (by omega) (by omega) (by omega) p8.1 (hF.trans p8.2)
theorem c_X10_goes {E : EV} {M : MM} {S : SS} {B n : Int} (hM : ∀ q, M 243 q = S q) (hO : SOK B S) (hB : B ≤ 80000) (hD : S 3 ≤ 80000) (n0 : 0 ≤ n) (n1 : n ≤ 100) : Cxv E mX10_goes 5 [vr 238, vi n] M (fun m => (∀ q, m 243 q = dysF S n.toNat q) ∧ FrN M m) := by
  refine Ct.of [some (vr 238), some (vi n), none] rfl rfl rfl (Nat.le_of_ble_eq_true rfl) ?_
  refine w_iconst dX10_goes_0 ?_
  refine w_istore_n dX10_goes_1 (by decide) ?_
  exact l_X10_goes hO hB hD n0 n1 (n.toNat + 1) 0 _ _ rfl (by omega) (by omega) hM (FrN.refl M)
/-- the oldest is forgotten -/
def shM (M : MM) (z : Int) : MM := fun i q => if i = 246 ∧ 0 ≤ q ∧ q < z then M 246 (q + 45) else M i q
theorem sh_step {M : MM} {z : Int} (hz : 0 ≤ z) : upM (shM M z) 246 z (shM M z 246 (z + 45)) = shM M (z + 1) := by
  have e : shM M z 246 (z + 45) = M 246 (z + 45) := by unfold shM; rw [if_neg (by omega)]
  rw [e]
  funext i q
  unfold upM shM
  by_cases h1 : i = 246 ∧ q = z
  · rw [if_pos h1, if_pos ⟨h1.1, by omega, by omega⟩, h1.2]
  · rw [if_neg h1]
    by_cases h2 : i = 246 ∧ 0 ≤ q ∧ q < z
    · rw [if_pos h2, if_pos ⟨h2.1, h2.2.1, by omega⟩]
    · rw [if_neg h2, if_neg (fun w => by
        by_cases e : q = z
        · exact h1 ⟨w.1, e⟩
        · exact h2 ⟨w.1, w.2.1, by omega⟩)]
theorem sh_cell {M : MM} {z : Int} {i : Nat} (h : i ≠ 246) : shM M z i = M i := by funext q; simp [shM, h]
theorem l_X10_notesA {E : EV} {M : MM} {Q : PP} (hQ : Wp E mX10_notes (kd 0) 40 [some (vr 238), some (vi 1080)] [] N0 G0 (shM M 1035) Q) :
    ∀ (k c : Nat) (z : Int) (m : MM), z = (c : Int) + 45 → m = shM M (c : Int) → c ≤ 1035 → 1035 - c < k → Wp E mX10_notes (kd 0) 12 [some (vr 238), some (vi z)] [] N0 G0 m Q := by
  intro k
  induction k with
  | zero => intro c z m hz hm hc hk; exact absurd hk (by omega)
  | succ k ih =>
    intro c z m hz hm hc hk
    subst hz
    subst hm
    refine w_iload_n dX10_notes_12 rfl ?_
    refine w_sipush dX10_notes_13 (by decide +kernel) ?_
    refine w_icmp_ge (tgt := 40) dX10_notes_16 (by decide) (by omega) (by omega) (fun h16 => ?_) (fun h16 => ?_)
    · have ec : c = 1035 := by omega
      subst ec
      exact hQ
    · refine w_aload_n dX10_notes_19 rfl ?_
      refine w_getR (r := 246) dX10_notes_20 fl10_31 g0_238 (by decide) rfl ?_
      refine w_iload_n dX10_notes_23 rfl ?_
      refine w_bipush dX10_notes_24 (by decide +kernel) ?_
      refine w_isub dX10_notes_26 ?_
      refine w_aload_n dX10_notes_27 rfl ?_
      refine w_getR (r := 246) dX10_notes_28 fl10_31 g0_238 (by decide) rfl ?_
      refine w_iload_n dX10_notes_31 rfl ?_
      refine r_ild dX10_notes_32 g0_246 (by decide) (by omega) (by omega) (by decide) (fun r32 => ?_)
      refine r_istq (q := (c : Int)) dX10_notes_33 g0_246 (by decide) (by omega) (by omega) (by omega) (by omega) (by decide) ?_
      refine w_iinc dX10_notes_34 rfl (by decide) ?_
      refine w_goto (tgt := 12) dX10_notes_37 (by decide) ?_
      exact ih (c + 1) _ _ (by omega) (by rw [sh_step (by omega)]; rfl) (by omega) (by omega)
theorem l_X10_notesB {E : EV} {M : MM} {u : Int} {Q : PP} (u0 : 0 ≤ u) (u1 : u ≤ 23) (hu : M 238 15 = u) (hQ : Wp E mX10_notes (kd 0) 80 [some (vr 238), some (vi 45)] [] N0 G0 (cpM M 243 246 0 (45 * u) 45) Q) :
    ∀ (k c : Nat) (z : Int) (m : MM), z = (c : Int) → m = cpM M 243 246 0 (45 * u) (c : Int) → c ≤ 45 → 45 - c < k → Wp E mX10_notes (kd 0) 48 [some (vr 238), some (vi z)] [] N0 G0 m Q := by
  intro k
  induction k with
  | zero => intro c z m hz hm hc hk; exact absurd hk (by omega)
  | succ k ih =>
    intro c z m hz hm hc hk
    subst hz
    subst hm
    have er : cpM M 243 246 0 (45 * u) (c : Int) 243 (c : Int) = M 243 (0 + (c : Int)) := by rw [cpM_cell (by omega), Int.zero_add]
    have eu : cpM M 243 246 0 (45 * u) (c : Int) 238 15 = u := by rw [cpM_cell (by omega)]; exact hu
    refine w_iload_n dX10_notes_48 rfl ?_
    refine w_bipush dX10_notes_49 (by decide +kernel) ?_
    refine w_icmp_ge (tgt := 80) dX10_notes_51 (by decide) (by omega) (by omega) (fun h51 => ?_) (fun h51 => ?_)
    · have ec : c = 45 := by omega
      subst ec
      exact hQ
    · refine w_aload_n dX10_notes_54 rfl ?_
      refine w_getR (r := 246) dX10_notes_55 fl10_31 g0_238 (by decide) rfl ?_
      refine w_bipush dX10_notes_58 (by decide +kernel) ?_
      refine w_aload_n dX10_notes_60 rfl ?_
      refine r_getI (q := 15) dX10_notes_61 fl10_121 g0_238 (by decide) rfl (by decide) rfl (fun r61 => ?_)
      refine w_imul dX10_notes_64 ?_
      refine w_iload_n dX10_notes_65 rfl ?_
      refine w_iadd dX10_notes_66 ?_
      refine w_aload_n dX10_notes_67 rfl ?_
      refine w_getR (r := 243) dX10_notes_68 fl10_22 g0_238 (by decide) rfl ?_
      refine w_iload_n dX10_notes_71 rfl ?_
      refine r_ild dX10_notes_72 g0_243 (by decide) (by omega) (by omega) (by decide) (fun r72 => ?_)
      refine r_istq (q := 45 * u + (c : Int)) dX10_notes_73 g0_246 (by decide) (by omega) (by omega) (by omega) (by omega) (by decide) ?_
      refine w_iinc dX10_notes_74 rfl (by decide) ?_
      refine w_goto (tgt := 48) dX10_notes_77 (by decide) ?_
      exact ih (c + 1) _ _ (by omega) (by rw [er, show ((c + 1 : Nat) : Int) = (c : Int) + 1 by omega, ← cp_step (by decide) (by omega)]) (by omega) (by omega)
/-- what an act leaves noted -/
def ntM (M : MM) : MM := if M 238 15 = 24 then upM (cpM (upM (shM M 1035) 238 15 23) 243 246 0 1035 45) 238 15 24 else upM (cpM M 243 246 0 (45 * M 238 15) 45) 238 15 (M 238 15 + 1)
theorem c_X10_notes {E : EV} {M : MM} (u0 : 0 ≤ M 238 15) (u1 : M 238 15 ≤ 24) : Cv E mX10_notes 0 [vr 238] M (ntM M) := by
  refine Ct.of [some (vr 238), none] rfl rfl rfl (Nat.le_of_ble_eq_true rfl) ?_
  have tail : ∀ (m : MM) (u : Int) (M' : MM), 0 ≤ u → u ≤ 23 → m 238 15 = u → upM (cpM m 243 246 0 (45 * u) 45) 238 15 (u + 1) = M' → Wp E mX10_notes (kd 0) 80 [some (vr 238), some (vi 45)] [] N0 G0 (cpM m 243 246 0 (45 * u) 45) (Pv M') := by
    intro m u M' h0 h1 hu he
    have eu : cpM m 243 246 0 (45 * u) 45 238 15 = u := by rw [cpM_cell (by omega)]; exact hu
    refine w_aload_n dX10_notes_80 rfl ?_
    refine w_dup dX10_notes_81 rfl ?_
    refine r_getI (q := 15) dX10_notes_82 fl10_121 g0_238 (by decide) rfl (by decide) rfl (fun r82 => ?_)
    refine w_iconst dX10_notes_85 ?_
    refine w_iadd dX10_notes_86 ?_
    refine r_putI (q := 15) dX10_notes_87 fl10_121 g0_238 (by decide) rfl (by decide) (by omega) rfl (by decide +kernel) rfl ?_
    refine w_vret dX10_notes_90 rfl ?_ ⟨Nat.le_refl _, Nat.le_refl _⟩
    exact (q_v (by rw [eu]; exact he))
  refine w_aload_n dX10_notes_0 rfl ?_
  refine r_getI (q := 15) dX10_notes_1 fl10_121 g0_238 (by decide) rfl (by decide) rfl (fun r1 => ?_)
  refine w_bipush dX10_notes_4 (by decide +kernel) ?_
  refine w_icmp_ne (tgt := 46) dX10_notes_6 (by decide) (by omega) (by omega) (fun h6 => ?_) (fun h6 => ?_)
  · refine w_iconst dX10_notes_46 ?_
    refine w_istore_n dX10_notes_47 (by decide) ?_
    exact l_X10_notesB (u := M 238 15) (by omega) (by omega) rfl (tail _ _ _ (by omega) (by omega) rfl (by unfold ntM; rw [if_neg (by omega)])) 46 0 _ _ rfl (cp_none _ _ _ _ _).symm (by omega) (by omega)
  · refine w_bipush dX10_notes_9 (by decide +kernel) ?_
    refine w_istore_n dX10_notes_11 (by decide) ?_
    refine l_X10_notesA (M := M) ?_ 1036 0 _ _ (by omega) (by funext i q; unfold shM; rw [if_neg (by omega)]) (by omega) (by omega)
    refine w_aload_n dX10_notes_40 rfl ?_
    refine w_bipush dX10_notes_41 (by decide +kernel) ?_
    refine r_putI (q := 15) dX10_notes_43 fl10_121 g0_238 (by decide) rfl (by decide) (by omega) rfl (by decide +kernel) rfl ?_
    refine w_iconst dX10_notes_46 ?_
    refine w_istore_n dX10_notes_47 (by decide) ?_
    exact l_X10_notesB (u := 23) (by omega) (by omega) (by rw [upM_same]) (tail _ 23 _ (by omega) (by omega) (by rw [upM_same]) (by unfold ntM; rw [if_pos (by omega)]; rfl)) 46 0 _ _ rfl (cp_none _ _ _ _ _).symm (by omega) (by omega)
