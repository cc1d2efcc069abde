/-! ===== the reference: acts ===== -/
theorem upS_cell {M : MM} {T : SS} {j v : Int} (h : M 243 = T) : upM M 243 j v 243 = upS T j v := by
  funext q
  rw [upS_at]
  by_cases e : q = j
  · rw [e, upM_same, if_pos rfl]
  · rw [upM_ne (fun w => e w.2), if_neg e, h]
theorem c_X10_wind {E : EV} {M : MM} {p : PS} {n : Int} (hI : MI M p) (hP : POK p) (hn : R32 n) : Cx E mX10_wind 9 [vr 238, vi n] M (KM M (windR p n)) := by
  refine Ct.of [some (vr 238), some (vi n), none] rfl rfl rfl (Nat.le_of_ble_eq_true rfl) ?_
  have hs := hI.sn
  refine w_aload_n dX10_wind_0 rfl ?_
  refine r_getI (q := 13) dX10_wind_1 fl10_117 g0_238 (by decide) rfl (by decide) rfl (fun r1 => ?_)
  refine w_if_ne (tgt := 10) dX10_wind_4 (by decide) (by omega) (fun h4 => ?_) (fun h4 => ?_)
  · refine w_iload_n dX10_wind_10 rfl ?_
    refine w_i2l dX10_wind_11 (by omega) ?_
    refine w_lconst0 dX10_wind_12 ?_
    refine w_ldc2 dX10_wind_13 cl10_124 ?_
    refine cSm dX10_wind_16 ok_X10_in (Or.inl ls10_50) (c_X10_in (by omega) (by omega) (by omega)) rfl  rfl (by decide) (Nat.le_of_ble_eq_true rfl) (fun r16 => ?_)
    refine w_ifB_ne (tgt := 25) dX10_wind_19 (by decide) (fun h19 => ?_) (fun h19 => ?_)
    · (first | replace h19 := of_decide_eq_true h19 | replace h19 := of_decide_eq_false h19 | skip)
      refine w_aload_n dX10_wind_25 rfl ?_
      refine cVxv dX10_wind_26 ok_X10_notes lv10_150 (c_notes hI hP) rfl (congrArg Prod.fst g0_238) (by decide) (by decide) rfl (by decide) (Nat.le_of_ble_eq_true rfl) (fun m26 p26 => ?_)
      have eS : m26 243 = p.S := by rw [p26.1.S, ntP_S]
      have e1 : m26 243 1 = p.S 1 := by rw [eS]
      refine w_aload_n dX10_wind_29 rfl ?_
      refine w_getR (r := 243) dX10_wind_30 fl10_22 g0_238 (by decide) rfl ?_
      refine w_iconst dX10_wind_33 ?_
      refine r_ild dX10_wind_34 g0_243 (by decide) (by omega) (by omega) (by decide) (fun r34 => ?_)
      refine w_istore_n dX10_wind_35 (by decide) ?_
      refine w_aload_n dX10_wind_36 rfl ?_
      refine w_getR (r := 243) dX10_wind_37 fl10_22 g0_238 (by decide) rfl ?_
      refine w_iconst dX10_wind_40 ?_
      refine w_iload_n dX10_wind_41 rfl ?_
      refine r_ist dX10_wind_42 g0_243 (by decide) (by omega) (by omega) (by omega) (by decide) ?_
      refine w_iload_n dX10_wind_43 rfl ?_
      refine w_iret dX10_wind_44 rfl (by omega) ?_ ⟨Nat.le_refl _, Nat.le_refl _⟩
      exact (q_x (by unfold windR; (repeat (first | rw [if_pos (by omega)] | rw [if_neg (by omega)])); exact ⟨e1, p26.1.setS (fun i a b => by rw [upM_cell b]) (upS_cell eS) (by rw [upS_at, if_neg (by omega), ntP_S]), p26.2.up (by omega)⟩))
    · (first | replace h19 := of_decide_eq_true h19 | replace h19 := of_decide_eq_false h19 | skip)
      refine w_ldc dX10_wind_22 co10_60 ?_
      refine w_iret dX10_wind_24 rfl (by omega) ?_ ⟨Nat.le_refl _, Nat.le_refl _⟩
      exact (q_x (KM.stay hI (by unfold windR; ((repeat (first | rw [if_pos (by omega)] | rw [if_neg (by omega)])) <;> rfl))))
  · refine w_ldc dX10_wind_7 co10_144 ?_
    refine w_iret dX10_wind_9 rfl (by omega) ?_ ⟨Nat.le_refl _, Nat.le_refl _⟩
    exact (q_x (KM.stay hI (by unfold windR; ((repeat (first | rw [if_pos (by omega)] | rw [if_neg (by omega)])) <;> rfl))))
theorem c_X10_tow {E : EV} {M : MM} {p : PS} {c n : Int} (hI : MI M p) (hP : POK p) (hc : R32 c) (hn9 : R32 n) : Cx E mX10_tow 9 [vr 238, vi c, vi n] M (KM M (towR p c n)) := by
  refine Ct.of [some (vr 238), some (vi c), some (vi n), none] rfl rfl rfl (Nat.le_of_ble_eq_true rfl) ?_
  have hn := hP.hs.n
  have e0 := hI.sq 0
  have k2 := hI.sq (7 + 5 * c)
  refine w_aload_n dX10_tow_0 rfl ?_
  refine w_iload_n dX10_tow_1 rfl ?_
  refine cVm dX10_tow_2 ok_X10_isCloud lv10_156 (c_X10_isCloud (by omega) (by omega)) rfl (congrArg Prod.fst g0_238) (by decide) (by decide) rfl (by decide) (Nat.le_of_ble_eq_true rfl) (fun r2 => ?_)
  refine w_ifB_eq (tgt := 20) dX10_tow_5 (by decide) (fun h5 => ?_) (fun h5 => ?_)
  · (first | replace h5 := of_decide_eq_true h5 | replace h5 := of_decide_eq_false h5 | skip)
    refine w_ldc dX10_tow_20 co10_60 ?_
    refine w_iret dX10_tow_22 rfl (by omega) ?_ ⟨Nat.le_refl _, Nat.le_refl _⟩
    exact (q_x (KM.stay hI (by unfold towR; ((repeat (first | rw [if_pos (by omega)] | rw [if_neg (by omega)])) <;> rfl))))
  · (first | replace h5 := of_decide_eq_true h5 | replace h5 := of_decide_eq_false h5 | skip)
    refine w_iload_n dX10_tow_8 rfl ?_
    refine w_i2l dX10_tow_9 (by omega) ?_
    refine w_lconst1 dX10_tow_10 ?_
    refine w_ldc2 dX10_tow_11 cl10_124 ?_
    refine cSm dX10_tow_14 ok_X10_in (Or.inl ls10_50) (c_X10_in (by omega) (by omega) (by omega)) rfl  rfl (by decide) (Nat.le_of_ble_eq_true rfl) (fun r14 => ?_)
    refine w_ifB_ne (tgt := 23) dX10_tow_17 (by decide) (fun h17 => ?_) (fun h17 => ?_)
    · (first | replace h17 := of_decide_eq_true h17 | replace h17 := of_decide_eq_false h17 | skip)
      refine w_aload_n dX10_tow_23 rfl ?_
      refine w_iload_n dX10_tow_24 rfl ?_
      refine cVm dX10_tow_25 ok_X10_isGone lv10_129 (c_X10_isGone (by omega) (by omega)) rfl (congrArg Prod.fst g0_238) (by decide) (by decide) rfl (by decide) (Nat.le_of_ble_eq_true rfl) (fun r25 => ?_)
      refine w_ifB_eq (tgt := 34) dX10_tow_28 (by decide) (fun h28 => ?_) (fun h28 => ?_)
      · (first | replace h28 := of_decide_eq_true h28 | replace h28 := of_decide_eq_false h28 | skip)
        have kb := hP.hs.2.1.cl (c := c) (by omega) (by omega)
        refine w_aload_n dX10_tow_34 rfl ?_
        refine cVxv dX10_tow_35 ok_X10_notes lv10_150 (c_notes hI hP) rfl (congrArg Prod.fst g0_238) (by decide) (by decide) rfl (by decide) (Nat.le_of_ble_eq_true rfl) (fun m35 p35 => ?_)
        have eS : m35 243 = p.S := by rw [p35.1.S, ntP_S]
        have k3 : m35 243 (5 + 5 * c) = p.S (5 + 5 * c) := by rw [eS]
        refine w_iconst dX10_tow_38 ?_
        refine w_iconst dX10_tow_39 ?_
        refine w_iload_n dX10_tow_40 rfl ?_
        refine w_imul dX10_tow_41 ?_
        refine w_iadd dX10_tow_42 ?_
        refine w_iconst dX10_tow_43 ?_
        refine w_iadd dX10_tow_44 ?_
        refine w_istore_n dX10_tow_45 (by decide) ?_
        refine w_aload_n dX10_tow_46 rfl ?_
        refine w_getR (r := 243) dX10_tow_47 fl10_22 g0_238 (by decide) rfl ?_
        refine w_iload_n dX10_tow_50 rfl ?_
        refine w_aload_n dX10_tow_51 rfl ?_
        refine w_getR (r := 243) dX10_tow_52 fl10_22 g0_238 (by decide) rfl ?_
        refine w_iload_n dX10_tow_55 rfl ?_
        refine r_ildq (q := 5 + 5 * c) dX10_tow_56 g0_243 (by decide) (by omega) (by omega) (by omega) (by decide) (fun r56 => ?_)
        refine w_iload_n dX10_tow_57 rfl ?_
        refine w_iadd dX10_tow_58 ?_
        refine w_bipush dX10_tow_59 (by decide +kernel) ?_
        refine w_irem dX10_tow_61 (by omega) (by omega) (by omega) (by omega) ?_
        refine r_istq (q := 5 + 5 * c) dX10_tow_62 g0_243 (by decide) (by omega) (by omega) (by omega) (by omega) (by decide) ?_
        refine w_aload_n dX10_tow_63 rfl ?_
        refine w_getR (r := 243) dX10_tow_64 fl10_22 g0_238 (by decide) rfl ?_
        refine w_iload_n dX10_tow_67 rfl ?_
        refine r_ildq (q := 5 + 5 * c) dX10_tow_68 g0_243 (by decide) (by omega) (by omega) (by omega) (by decide) (fun r68 => ?_)
        refine w_iret dX10_tow_69 rfl (by omega) ?_ ⟨Nat.le_refl _, Nat.le_refl _⟩
        exact (q_x (by unfold towR; (repeat (first | rw [if_pos (by omega)] | rw [if_neg (by omega)])); exact ⟨by rw [upM_same, k3], p35.1.setS (fun i a b => by rw [upM_cell b]) (by rw [k3]; exact upS_cell eS) (by rw [upS_at, if_neg (by omega), ntP_S]), p35.2.up (by omega)⟩))
      · (first | replace h28 := of_decide_eq_true h28 | replace h28 := of_decide_eq_false h28 | skip)
        refine w_ldc dX10_tow_31 co10_144 ?_
        refine w_iret dX10_tow_33 rfl (by omega) ?_ ⟨Nat.le_refl _, Nat.le_refl _⟩
        exact (q_x (KM.stay hI (by unfold towR; ((repeat (first | rw [if_pos (by omega)] | rw [if_neg (by omega)])) <;> rfl))))
    · (first | replace h17 := of_decide_eq_true h17 | replace h17 := of_decide_eq_false h17 | skip)
      refine w_ldc dX10_tow_20 co10_60 ?_
      refine w_iret dX10_tow_22 rfl (by omega) ?_ ⟨Nat.le_refl _, Nat.le_refl _⟩
      exact (q_x (KM.stay hI (by unfold towR; ((repeat (first | rw [if_pos (by omega)] | rw [if_neg (by omega)])) <;> rfl))))
theorem c_X10_silk {E : EV} {M : MM} {p : PS} {c : Int} (hI : MI M p) (hP : POK p) (hc : R32 c) : Cx E mX10_silk 9 [vr 238, vi c] M (KM M (silkR p c)) := by
  refine Ct.of [some (vr 238), some (vi c), none] rfl rfl rfl (Nat.le_of_ble_eq_true rfl) ?_
  have hn := hP.hs.n
  have hs := hP.hs.2.1.2.2.1
  have e0 := hI.sq 0
  have e2 := hI.sq 2
  have k2 := hI.sq (7 + 5 * c)
  refine w_aload_n dX10_silk_0 rfl ?_
  refine w_iload_n dX10_silk_1 rfl ?_
  refine cVm dX10_silk_2 ok_X10_isCloud lv10_156 (c_X10_isCloud (by omega) (by omega)) rfl (congrArg Prod.fst g0_238) (by decide) (by decide) rfl (by decide) (Nat.le_of_ble_eq_true rfl) (fun r2 => ?_)
  refine w_ifB_ne (tgt := 11) dX10_silk_5 (by decide) (fun h5 => ?_) (fun h5 => ?_)
  · (first | replace h5 := of_decide_eq_true h5 | replace h5 := of_decide_eq_false h5 | skip)
    have kb := hP.hs.2.1.cl (c := c) (by omega) (by omega)
    refine w_iconst dX10_silk_11 ?_
    refine w_iconst dX10_silk_12 ?_
    refine w_iload_n dX10_silk_13 rfl ?_
    refine w_imul dX10_silk_14 ?_
    refine w_iadd dX10_silk_15 ?_
    refine w_iconst dX10_silk_16 ?_
    refine w_iadd dX10_silk_17 ?_
    refine w_istore_n dX10_silk_18 (by decide) ?_
    refine w_aload_n dX10_silk_19 rfl ?_
    refine w_getR (r := 243) dX10_silk_20 fl10_22 g0_238 (by decide) rfl ?_
    refine w_iload_n dX10_silk_23 rfl ?_
    refine r_ildq (q := 7 + 5 * c) dX10_silk_24 g0_243 (by decide) (by omega) (by omega) (by omega) (by decide) (fun r24 => ?_)
    refine w_aload_n dX10_silk_25 rfl ?_
    refine w_getR (r := 243) dX10_silk_26 fl10_22 g0_238 (by decide) rfl ?_
    refine w_iconst dX10_silk_29 ?_
    refine r_ild dX10_silk_30 g0_243 (by decide) (by omega) (by omega) (by decide) (fun r30 => ?_)
    refine w_iadd dX10_silk_31 ?_
    refine w_bipush dX10_silk_32 (by decide +kernel) ?_
    refine w_icmp_le (tgt := 40) dX10_silk_34 (by decide) (by omega) (by omega) (fun h34 => ?_) (fun h34 => ?_)
    · refine w_aload_n dX10_silk_40 rfl ?_
      refine cVxv dX10_silk_41 ok_X10_notes lv10_150 (c_notes hI hP) rfl (congrArg Prod.fst g0_238) (by decide) (by decide) rfl (by decide) (Nat.le_of_ble_eq_true rfl) (fun m41 p41 => ?_)
      have eS : m41 243 = p.S := by rw [p41.1.S, ntP_S]
      have k3 : m41 243 (7 + 5 * c) = p.S (7 + 5 * c) := by rw [eS]
      have k4 : m41 243 2 = p.S 2 := by rw [eS]
      refine w_aload_n dX10_silk_44 rfl ?_
      refine w_getR (r := 243) dX10_silk_45 fl10_22 g0_238 (by decide) rfl ?_
      refine w_iload_n dX10_silk_48 rfl ?_
      refine w_dup2 dX10_silk_49 rfl rfl ?_
      refine r_ildq (q := 7 + 5 * c) dX10_silk_50 g0_243 (by decide) (by omega) (by omega) (by omega) (by decide) (fun r50 => ?_)
      refine w_aload_n dX10_silk_51 rfl ?_
      refine w_getR (r := 243) dX10_silk_52 fl10_22 g0_238 (by decide) rfl ?_
      refine w_iconst dX10_silk_55 ?_
      refine r_ild dX10_silk_56 g0_243 (by decide) (by omega) (by omega) (by decide) (fun r56 => ?_)
      refine w_iadd dX10_silk_57 ?_
      refine r_istq (q := 7 + 5 * c) dX10_silk_58 g0_243 (by decide) (by omega) (by omega) (by omega) (by omega) (by decide) ?_
      refine w_aload_n dX10_silk_59 rfl ?_
      refine w_getR (r := 243) dX10_silk_60 fl10_22 g0_238 (by decide) rfl ?_
      refine w_iload_n dX10_silk_63 rfl ?_
      refine r_ildq (q := 7 + 5 * c) dX10_silk_64 g0_243 (by decide) (by omega) (by omega) (by omega) (by decide) (fun r64 => ?_)
      refine w_iret dX10_silk_65 rfl (by omega) ?_ ⟨Nat.le_refl _, Nat.le_refl _⟩
      exact (q_x (by unfold silkR; (repeat (first | rw [if_pos (by omega)] | rw [if_neg (by omega)])); exact ⟨by rw [upM_same, k3, k4], p41.1.setS (fun i a b => by rw [upM_cell b]) (by rw [k3, k4]; exact upS_cell eS) (by rw [upS_at, if_neg (by omega), ntP_S]), p41.2.up (by omega)⟩))
    · refine w_ldc dX10_silk_37 co10_77 ?_
      refine w_iret dX10_silk_39 rfl (by omega) ?_ ⟨Nat.le_refl _, Nat.le_refl _⟩
      exact (q_x (KM.stay hI (by unfold silkR; ((repeat (first | rw [if_pos (by omega)] | rw [if_neg (by omega)])) <;> rfl))))
  · (first | replace h5 := of_decide_eq_true h5 | replace h5 := of_decide_eq_false h5 | skip)
    refine w_ldc dX10_silk_8 co10_60 ?_
    refine w_iret dX10_silk_10 rfl (by omega) ?_ ⟨Nat.le_refl _, Nat.le_refl _⟩
    exact (q_x (KM.stay hI (by unfold silkR; ((repeat (first | rw [if_pos (by omega)] | rw [if_neg (by omega)])) <;> rfl))))
theorem c_X10_sign {E : EV} {M : MM} {p : PS} {c h : Int} (hI : MI M p) (hP : POK p) (hc : R32 c) (hh : R32 h) : Cx E mX10_sign 9 [vr 238, vi c, vi h] M (KM M (signR p c h)) := by
  refine Ct.of [some (vr 238), some (vi c), some (vi h), none, none] rfl rfl rfl (Nat.le_of_ble_eq_true rfl) ?_
  have hn := hP.hs.n
  have e0 := hI.sq 0
  refine w_aload_n dX10_sign_0 rfl ?_
  refine w_iload_n dX10_sign_1 rfl ?_
  refine cVm dX10_sign_2 ok_X10_isCloud lv10_156 (c_X10_isCloud (by omega) (by omega)) rfl (congrArg Prod.fst g0_238) (by decide) (by decide) rfl (by decide) (Nat.le_of_ble_eq_true rfl) (fun r2 => ?_)
  refine w_ifB_eq (tgt := 20) dX10_sign_5 (by decide) (fun h5 => ?_) (fun h5 => ?_)
  · (first | replace h5 := of_decide_eq_true h5 | replace h5 := of_decide_eq_false h5 | skip)
    refine w_ldc dX10_sign_20 co10_60 ?_
    refine w_iret dX10_sign_22 rfl (by omega) ?_ ⟨Nat.le_refl _, Nat.le_refl _⟩
    exact (q_x (KM.stay hI (by unfold signR; ((repeat (first | rw [if_pos (by omega)] | rw [if_neg (by omega)])) <;> rfl))))
  · (first | replace h5 := of_decide_eq_true h5 | replace h5 := of_decide_eq_false h5 | skip)
    refine w_iload_n dX10_sign_8 rfl ?_
    refine w_i2l dX10_sign_9 (by omega) ?_
    refine w_lconst0 dX10_sign_10 ?_
    refine w_ldc2 dX10_sign_11 cl10_159 ?_
    refine cSm dX10_sign_14 ok_X10_in (Or.inl ls10_50) (c_X10_in (by omega) (by omega) (by omega)) rfl  rfl (by decide) (Nat.le_of_ble_eq_true rfl) (fun r14 => ?_)
    refine w_ifB_ne (tgt := 23) dX10_sign_17 (by decide) (fun h17 => ?_) (fun h17 => ?_)
    · (first | replace h17 := of_decide_eq_true h17 | replace h17 := of_decide_eq_false h17 | skip)
      refine w_aload_n dX10_sign_23 rfl ?_
      refine cVxv dX10_sign_24 ok_X10_notes lv10_150 (c_notes hI hP) rfl (congrArg Prod.fst g0_238) (by decide) (by decide) rfl (by decide) (Nat.le_of_ble_eq_true rfl) (fun m24 p24 => ?_)
      have eS : m24 243 = p.S := by rw [p24.1.S, ntP_S]
      have k3 : m24 243 (8 + 5 * c) = p.S (8 + 5 * c) := by rw [eS]
      refine w_iconst dX10_sign_27 ?_
      refine w_iconst dX10_sign_28 ?_
      refine w_iload_n dX10_sign_29 rfl ?_
      refine w_imul dX10_sign_30 ?_
      refine w_iadd dX10_sign_31 ?_
      refine w_iconst dX10_sign_32 ?_
      refine w_iadd dX10_sign_33 ?_
      refine w_istore_n dX10_sign_34 (by decide) ?_
      refine w_aload_n dX10_sign_35 rfl ?_
      refine w_getR (r := 243) dX10_sign_36 fl10_22 g0_238 (by decide) rfl ?_
      refine w_iload_n dX10_sign_39 rfl ?_
      refine r_ildq (q := 8 + 5 * c) dX10_sign_40 g0_243 (by decide) (by omega) (by omega) (by omega) (by decide) (fun r40 => ?_)
      refine w_istore dX10_sign_41 (by decide) ?_
      refine w_aload_n dX10_sign_43 rfl ?_
      refine w_getR (r := 243) dX10_sign_44 fl10_22 g0_238 (by decide) rfl ?_
      refine w_iload_n dX10_sign_47 rfl ?_
      refine w_iload_n dX10_sign_48 rfl ?_
      refine r_istq (q := 8 + 5 * c) dX10_sign_49 g0_243 (by decide) (by omega) (by omega) (by omega) (by omega) (by decide) ?_
      refine w_iload dX10_sign_50 rfl ?_
      refine w_iret dX10_sign_52 rfl (by omega) ?_ ⟨Nat.le_refl _, Nat.le_refl _⟩
      exact (q_x (by unfold signR; (repeat (first | rw [if_pos (by omega)] | rw [if_neg (by omega)])); exact ⟨k3, p24.1.setS (fun i a b => by rw [upM_cell b]) (upS_cell eS) (by rw [upS_at, if_neg (by omega), ntP_S]), p24.2.up (by omega)⟩))
    · (first | replace h17 := of_decide_eq_true h17 | replace h17 := of_decide_eq_false h17 | skip)
      refine w_ldc dX10_sign_20 co10_60 ?_
      refine w_iret dX10_sign_22 rfl (by omega) ?_ ⟨Nat.le_refl _, Nat.le_refl _⟩
      exact (q_x (KM.stay hI (by unfold signR; ((repeat (first | rw [if_pos (by omega)] | rw [if_neg (by omega)])) <;> rfl))))
theorem l_X10_undo {E : EV} {M : MM} {u : Int} {Q : PP} (u0 : 0 ≤ u) (u1 : u ≤ 23) (hu : M 238 15 = u) (hQ : Wp E mX10_undo (kd 9) 54 [some (vr 238), some (vi 45)] [] N0 G0 (cpM M 246 243 (45 * u) 0 45) Q) :
    ∀ (k c : Nat) (z : Int) (m : MM), z = (c : Int) → m = cpM M 246 243 (45 * u) 0 (c : Int) → c ≤ 45 → 45 - c < k → Wp E mX10_undo (kd 9) 22 [some (vr 238), some (vi z)] [] N0 G0 m Q := by
  intro k
  induction k with
  | zero => intro c z m hz hm hc hk; exact absurd hk (by omega)
  | succ k ih =>
    intro c z m hz hm hc hk
    subst hz
    subst hm
    have er : cpM M 246 243 (45 * u) 0 (c : Int) 246 (45 * u + (c : Int)) = M 246 (45 * u + (c : Int)) := by rw [cpM_cell (by omega)]
    have eu : cpM M 246 243 (45 * u) 0 (c : Int) 238 15 = u := by rw [cpM_cell (by omega)]; exact hu
    refine w_iload_n dX10_undo_22 rfl ?_
    refine w_bipush dX10_undo_23 (by decide +kernel) ?_
    refine w_icmp_ge (tgt := 54) dX10_undo_25 (by decide) (by omega) (by omega) (fun h25 => ?_) (fun h25 => ?_)
    · have ec : c = 45 := by omega
      subst ec
      exact hQ
    · refine w_aload_n dX10_undo_28 rfl ?_
      refine w_getR (r := 243) dX10_undo_29 fl10_22 g0_238 (by decide) rfl ?_
      refine w_iload_n dX10_undo_32 rfl ?_
      refine w_aload_n dX10_undo_33 rfl ?_
      refine w_getR (r := 246) dX10_undo_34 fl10_31 g0_238 (by decide) rfl ?_
      refine w_bipush dX10_undo_37 (by decide +kernel) ?_
      refine w_aload_n dX10_undo_39 rfl ?_
      refine r_getI (q := 15) dX10_undo_40 fl10_121 g0_238 (by decide) rfl (by decide) rfl (fun r40 => ?_)
      refine w_imul dX10_undo_43 ?_
      refine w_iload_n dX10_undo_44 rfl ?_
      refine w_iadd dX10_undo_45 ?_
      refine r_ildq (q := 45 * u + (c : Int)) dX10_undo_46 g0_246 (by decide) (by omega) (by omega) (by omega) (by decide) (fun r46 => ?_)
      refine r_istq (q := 0 + (c : Int)) dX10_undo_47 g0_243 (by decide) (by omega) (by omega) (by omega) (by omega) (by decide) ?_
      refine w_iinc dX10_undo_48 rfl (by decide) ?_
      refine w_goto (tgt := 22) dX10_undo_51 (by decide) ?_
      exact ih (c + 1) _ _ (by omega) (by rw [er, show ((c + 1 : Nat) : Int) = (c : Int) + 1 by omega, ← cp_step (by decide) (by omega)]) (by omega) (by omega)
theorem cp_sky {M : MM} {a : Nat} {sp : Int} {S T : SS} (hS : M 243 = S) (oS : OUT S) (oT : OUT T) (h : ∀ q : Int, 0 ≤ q → q < 45 → M a (sp + q) = T q) : cpM M a 243 sp 0 45 243 = T := by
  funext q
  unfold cpM
  by_cases e : 0 ≤ q ∧ q < 0 + 45
  · rw [if_pos ⟨rfl, e⟩, ← h q e.1 (by omega)]
    congr 1
    omega
  · rw [if_neg (fun w => e w.2), hS, oS q (by omega), oT q (by omega)]
theorem c_X10_undo {E : EV} {M : MM} {p : PS} (hI : MI M p) (hP : POK p) : Cx E mX10_undo 9 [vr 238] M (KM M (undoR p)) := by
  refine Ct.of [some (vr 238), none] rfl rfl rfl (Nat.le_of_ble_eq_true rfl) ?_
  have eu := hI.u
  have hu := hP.hu
  have key : p.u ≠ 0 → MI (cpM (upM M 238 15 (M 238 15 - 1)) 246 243 (45 * ((p.u : Int) - 1)) 0 45) (⟨p.ln, p.sz, p.it, p.tn, p.tp, p.U (p.u - 1), p.u - 1, p.U, p.fl, p.I, p.lf, p.fd, p.tr, p.tb⟩ : PS) ∧ Lo M (cpM (upM M 238 15 (M 238 15 - 1)) 246 243 (45 * ((p.u : Int) - 1)) 0 45) := by
    intro h1
    have a := hP.hU (p.u - 1) (by omega)
    have sn : p.S 0 ≠ 0 := fun e => h1 (hP.h0 e).1
    refine ⟨hI.sact (fun i a b c d e f => by rw [cpM_cell b, upM_cell (by omega)]) (fun k _ h2 h3 => by rw [cpM_cell (by omega), upM_ne (fun w => h3 w.2)]) ?_ ?_ ?_ (fun j hj q x y => by rw [cpM_cell (by omega), upM_cell (by omega)]; exact hI.U j hj q x y), ((Lo.refl M).up (by omega)).cp (by omega)⟩
    · refine cp_sky (S := p.S) (by rw [upM_cell (by omega)]; exact hI.S) hP.hs.1 a.1.1 (fun q x y => ?_)
      rw [upM_cell (by omega), show (p.u : Int) - 1 = ((p.u - 1 : Nat) : Int) by omega]
      exact hI.U (p.u - 1) (by omega) q x y
    · rw [cpM_cell (by omega), upM_ne (by omega), hI.is, if_neg sn, if_neg (by omega)]
    · rw [cpM_cell (by omega), upM_same]; omega
  refine w_aload_n dX10_undo_0 rfl ?_
  refine r_getI (q := 15) dX10_undo_1 fl10_121 g0_238 (by decide) rfl (by decide) rfl (fun r1 => ?_)
  refine w_if_ne (tgt := 10) dX10_undo_4 (by decide) (by omega) (fun h4 => ?_) (fun h4 => ?_)
  · refine w_aload_n dX10_undo_10 rfl ?_
    refine w_dup dX10_undo_11 rfl ?_
    refine r_getI (q := 15) dX10_undo_12 fl10_121 g0_238 (by decide) rfl (by decide) rfl (fun r12 => ?_)
    refine w_iconst dX10_undo_15 ?_
    refine w_isub dX10_undo_16 ?_
    refine r_putI (q := 15) dX10_undo_17 fl10_121 g0_238 (by decide) rfl (by decide) (by omega) rfl (by decide +kernel) rfl ?_
    refine w_iconst dX10_undo_20 ?_
    refine w_istore_n dX10_undo_21 (by decide) ?_
    have key := key (by omega)
    refine l_X10_undo (u := (p.u : Int) - 1) (by omega) (by omega) (by rw [upM_same]; omega) ?_ 46 0 _ _ rfl (cp_none _ _ _ _ _).symm (by omega) (by omega)
    have er : cpM (upM M 238 15 (M 238 15 - 1)) 246 243 (45 * ((p.u : Int) - 1)) 0 45 238 15 = (p.u : Int) - 1 := by rw [cpM_cell (by omega), upM_same]; omega
    refine w_aload_n dX10_undo_54 rfl ?_
    refine r_getI (q := 15) dX10_undo_55 fl10_121 g0_238 (by decide) rfl (by decide) rfl (fun r55 => ?_)
    refine w_iret dX10_undo_58 rfl (by omega) ?_ ⟨Nat.le_refl _, Nat.le_refl _⟩
    exact q_x (by unfold undoR; (repeat (first | rw [if_pos (by omega)] | rw [if_neg (by omega)])); exact ⟨er, key⟩)
  · refine w_ldc dX10_undo_7 co10_144 ?_
    refine w_iret dX10_undo_9 rfl (by omega) ?_ ⟨Nat.le_refl _, Nat.le_refl _⟩
    exact (q_x (KM.stay hI (by unfold undoR; ((repeat (first | rw [if_pos (by omega)] | rw [if_neg (by omega)])) <;> rfl))))
theorem l_X10_days {E : EV} {M : MM} {p : PS} {n w : Int} (hP : POK p) (h1 : p.S 0 ≠ 0) (n0 : 0 ≤ n) (n1 : n ≤ 24) (hd : p.S 3 + n ≤ 999) (hw : w = fellS p.S) :
    ∀ (k d : Nat) (z : Int) (m : MM), z = d → (d : Int) ≤ n → n.toNat - d < k → MI m (dsP p d) → Lo M m → Wp E mX10_days (kd 9) 49 [some (vr 238), some (vi n), some (vi w), some (vi z)] [] N0 G0 m (Px (KM M (fellS (dysF p.S n.toNat) - fellS p.S, dsP p n.toNat))) := by
  intro k
  induction k with
  | zero => intro d z m hz hd2 hk; exact absurd hk (by omega)
  | succ k ih =>
    intro d z m hz hd2 hk hI hH
    subst hz
    have hp := POK_ds hP h1 d (by omega)
    have e := dsP_S p d
    have e3 : (dsP p d).S 3 = p.S 3 + d := by rw [e, dysF_3]
    have f0 := fellS_r hP.hs.ok
    have f1 := fellS_r (SOK_dys hP.hs.ok d)
    have hO : SOK 9990 (m 243) := by rw [hI.S]; exact hp.hs.ok
    have ef : fellS (m 243) = fellS (dysF p.S d) := by rw [hI.S, e]
    refine w_iload_n dX10_days_49 rfl ?_
    refine w_iload_n dX10_days_50 rfl ?_
    refine w_icmp_ge (tgt := 68) dX10_days_51 (by decide) (by omega) (by omega) (fun h51 => ?_) (fun h51 => ?_)
    · have ed : n.toNat = d := by omega
      refine w_aload_n dX10_days_68 rfl ?_
      refine cVm dX10_days_69 ok_X10_fell lv10_147 (c_X10_fell hO (by omega)) rfl (congrArg Prod.fst g0_238) (by decide) (by decide) rfl (by decide) (Nat.le_of_ble_eq_true rfl) (fun r69 => ?_)
      refine w_iload_n dX10_days_72 rfl ?_
      refine w_isub dX10_days_73 ?_
      refine w_iret dX10_days_74 rfl (by omega) ?_ ⟨Nat.le_refl _, Nat.le_refl _⟩
      exact (q_x ⟨by rw [ef, ed, hw], by rw [ed]; exact hI, hH⟩)
    · refine w_aload_n dX10_days_54 rfl ?_
      refine cVxv dX10_days_55 ok_X10_notes lv10_150 (c_notes hI hp) rfl (congrArg Prod.fst g0_238) (by decide) (by decide) rfl (by decide) (Nat.le_of_ble_eq_true rfl) (fun m55 p55 => ?_)
      have eS : m55 243 = (dsP p d).S := by rw [p55.1.S, ntP_S]
      refine w_aload_n dX10_days_58 rfl ?_
      refine cVxv dX10_days_59 ok_X10_goesBy lv10_153 (c_X10_goesBy (fun q => by rw [eS]) hp.hs.ok (by omega) (by omega)) rfl (congrArg Prod.fst g0_238) (by decide) (by decide) rfl (by decide) (Nat.le_of_ble_eq_true rfl) (fun m59 p59 => ?_)
      refine w_iinc dX10_days_62 rfl (by decide) ?_
      refine w_goto (tgt := 49) dX10_days_65 (by decide) ?_
      exact ih (d + 1) _ _ (by omega) (by omega) (by omega) (p55.1.setS (fun i a b => p59.2 i b) (funext p59.1) (by rw [dyF_low (by omega), ntP_S])) ((hH.trans p55.2).trans p59.2.lo)
theorem c_X10_days {E : EV} {M : MM} {p : PS} {n : Int} (hI : MI M p) (hP : POK p) (hn : R32 n) : Cx E mX10_days 9 [vr 238, vi n] M (KM M (daysR p n)) := by
  refine Ct.of [some (vr 238), some (vi n), none, none] rfl rfl rfl (Nat.le_of_ble_eq_true rfl) ?_
  have hs := hI.sn
  have e3 := hI.sq 3
  have hd := hP.hs.d
  have hO : SOK 9990 (M 243) := by rw [hI.S]; exact hP.hs.ok
  refine w_aload_n dX10_days_0 rfl ?_
  refine r_getI (q := 13) dX10_days_1 fl10_117 g0_238 (by decide) rfl (by decide) rfl (fun r1 => ?_)
  refine w_if_ne (tgt := 10) dX10_days_4 (by decide) (by omega) (fun h4 => ?_) (fun h4 => ?_)
  · refine w_iload_n dX10_days_10 rfl ?_
    refine w_i2l dX10_days_11 (by omega) ?_
    refine w_lconst1 dX10_days_12 ?_
    refine w_ldc2 dX10_days_13 cl10_145 ?_
    refine cSm dX10_days_16 ok_X10_in (Or.inl ls10_50) (c_X10_in (by omega) (by omega) (by omega)) rfl  rfl (by decide) (Nat.le_of_ble_eq_true rfl) (fun r16 => ?_)
    refine w_ifB_ne (tgt := 25) dX10_days_19 (by decide) (fun h19 => ?_) (fun h19 => ?_)
    · (first | replace h19 := of_decide_eq_true h19 | replace h19 := of_decide_eq_false h19 | skip)
      refine w_aload_n dX10_days_25 rfl ?_
      refine w_getR (r := 243) dX10_days_26 fl10_22 g0_238 (by decide) rfl ?_
      refine w_iconst dX10_days_29 ?_
      refine r_ild dX10_days_30 g0_243 (by decide) (by omega) (by omega) (by decide) (fun r30 => ?_)
      refine w_iload_n dX10_days_31 rfl ?_
      refine w_iadd dX10_days_32 ?_
      refine w_sipush dX10_days_33 (by decide +kernel) ?_
      refine w_icmp_le (tgt := 42) dX10_days_36 (by decide) (by omega) (by omega) (fun h36 => ?_) (fun h36 => ?_)
      · refine w_aload_n dX10_days_42 rfl ?_
        refine cVm dX10_days_43 ok_X10_fell lv10_147 (c_X10_fell hO (by omega)) rfl (congrArg Prod.fst g0_238) (by decide) (by decide) rfl (by decide) (Nat.le_of_ble_eq_true rfl) (fun r43 => ?_)
        refine w_istore_n dX10_days_46 (by decide) ?_
        refine w_iconst dX10_days_47 ?_
        refine w_istore_n dX10_days_48 (by decide) ?_
        rw [show daysR p n = (fellS (dysF p.S n.toNat) - fellS p.S, dsP p n.toNat) from by unfold daysR; ((repeat (first | rw [if_pos (by omega)] | rw [if_neg (by omega)])) <;> rfl)]
        exact l_X10_days hP (by omega) (by omega) (by omega) (by omega) (by rw [hI.S]) (n.toNat + 1) 0 _ _ rfl (by omega) (by omega) hI (Lo.refl M)
      · refine w_ldc dX10_days_39 co10_77 ?_
        refine w_iret dX10_days_41 rfl (by omega) ?_ ⟨Nat.le_refl _, Nat.le_refl _⟩
        exact (q_x (KM.stay hI (by unfold daysR; ((repeat (first | rw [if_pos (by omega)] | rw [if_neg (by omega)])) <;> rfl))))
    · (first | replace h19 := of_decide_eq_true h19 | replace h19 := of_decide_eq_false h19 | skip)
      refine w_ldc dX10_days_22 co10_60 ?_
      refine w_iret dX10_days_24 rfl (by omega) ?_ ⟨Nat.le_refl _, Nat.le_refl _⟩
      exact (q_x (KM.stay hI (by unfold daysR; ((repeat (first | rw [if_pos (by omega)] | rw [if_neg (by omega)])) <;> rfl))))
  · refine w_ldc dX10_days_7 co10_144 ?_
    refine w_iret dX10_days_9 rfl (by omega) ?_ ⟨Nat.le_refl _, Nat.le_refl _⟩
    exact (q_x (KM.stay hI (by unfold daysR; ((repeat (first | rw [if_pos (by omega)] | rw [if_neg (by omega)])) <;> rfl))))
theorem l_X10_image {E : EV} {M : MM} {g : Int} {Q : PP} (g0 : 0 ≤ g) (g1 : g ≤ 1) (hQ : Wp E mX10_image (kd 9) 66 [some (vr 238), some (vi g), some (vi 45)] [] N0 G0 (cpM M 243 248 0 (46 * g + 1) 45) Q) :
    ∀ (k c : Nat) (z : Int) (m : MM), z = (c : Int) → m = cpM M 243 248 0 (46 * g + 1) (c : Int) → c ≤ 45 → 45 - c < k → Wp E mX10_image (kd 9) 35 [some (vr 238), some (vi g), some (vi z)] [] N0 G0 m Q := by
  intro k
  induction k with
  | zero => intro c z m hz hm hc hk; exact absurd hk (by omega)
  | succ k ih =>
    intro c z m hz hm hc hk
    subst hz
    subst hm
    have er : cpM M 243 248 0 (46 * g + 1) (c : Int) 243 (0 + (c : Int)) = M 243 (0 + (c : Int)) := by rw [cpM_cell (by omega)]
    refine w_iload_n dX10_image_35 rfl ?_
    refine w_bipush dX10_image_36 (by decide +kernel) ?_
    refine w_icmp_ge (tgt := 66) dX10_image_38 (by decide) (by omega) (by omega) (fun h38 => ?_) (fun h38 => ?_)
    · have ec : c = 45 := by omega
      subst ec
      exact hQ
    · refine w_aload_n dX10_image_41 rfl ?_
      refine w_getR (r := 248) dX10_image_42 fl10_37 g0_238 (by decide) rfl ?_
      refine w_bipush dX10_image_45 (by decide +kernel) ?_
      refine w_iload_n dX10_image_47 rfl ?_
      refine w_imul dX10_image_48 ?_
      refine w_iconst dX10_image_49 ?_
      refine w_iadd dX10_image_50 ?_
      refine w_iload_n dX10_image_51 rfl ?_
      refine w_iadd dX10_image_52 ?_
      refine w_aload_n dX10_image_53 rfl ?_
      refine w_getR (r := 243) dX10_image_54 fl10_22 g0_238 (by decide) rfl ?_
      refine w_iload_n dX10_image_57 rfl ?_
      refine r_ildq (q := 0 + (c : Int)) dX10_image_58 g0_243 (by decide) (by omega) (by omega) (by omega) (by decide) (fun r58 => ?_)
      refine r_istq (q := 46 * g + 1 + (c : Int)) dX10_image_59 g0_248 (by decide) (by omega) (by omega) (by omega) (by omega) (by decide) ?_
      refine w_iinc dX10_image_60 rfl (by decide) ?_
      refine w_goto (tgt := 35) dX10_image_63 (by decide) ?_
      exact ih (c + 1) _ _ (by omega) (by rw [er, show ((c + 1 : Nat) : Int) = (c : Int) + 1 by omega, ← cp_step (by decide) (by omega)]) (by omega) (by omega)
theorem c_X10_image {E : EV} {M : MM} {p : PS} {g : Int} (hI : MI M p) (hP : POK p) (hg : R32 g) : Cx E mX10_image 9 [vr 238, vi g] M (KM M (imgR p g)) := by
  refine Ct.of [some (vr 238), some (vi g), none] rfl rfl rfl (Nat.le_of_ble_eq_true rfl) ?_
  have hs := hI.sn
  have key : 0 ≤ g → g ≤ 1 → MI (cpM (upM M 248 (46 * g) 1) 243 248 0 (46 * g + 1) 45) (⟨p.ln, p.sz, p.it, p.tn, p.tp, p.S, p.u, p.U, upS p.fl g 1, fun j => if j = g then p.S else p.I j, p.lf, p.fd, p.tr, p.tb⟩ : PS) ∧ Lo M (cpM (upM M 248 (46 * g) 1) 243 248 0 (46 * g + 1) 45) := by
    intro g0 g1
    refine ⟨hI.imgs (fun i a b c d e => by rw [cpM_cell b, upM_cell b]) (fun k _ => by rw [cpM_cell (by omega), upM_cell (by omega)]) (fun j j0 j1 => ?_) (fun j j0 j1 q x y => ?_), ((Lo.refl M).up (by omega)).cp (by omega)⟩
    · unfold cpM
      rw [if_neg (by omega), upS_at]
      by_cases e : j = g
      · rw [e, upM_same, if_pos rfl]
      · rw [upM_ne (by omega), if_neg e]; exact hI.fl j j0 j1
    · unfold cpM
      by_cases e : j = g
      · rw [if_pos ⟨rfl, by omega, by omega⟩, if_pos e, upM_cell (by omega), hI.S]
        congr 1
        omega
      · rw [if_neg (by omega), if_neg e, upM_ne (by omega)]; exact hI.I j j0 j1 q x y
  refine w_iload_n dX10_image_0 rfl ?_
  refine w_i2l dX10_image_1 (by omega) ?_
  refine w_lconst0 dX10_image_2 ?_
  refine w_lconst1 dX10_image_3 ?_
  refine cSm dX10_image_4 ok_X10_in (Or.inl ls10_50) (c_X10_in (by omega) (by omega) (by omega)) rfl  rfl (by decide) (Nat.le_of_ble_eq_true rfl) (fun r4 => ?_)
  refine w_ifB_ne (tgt := 13) dX10_image_7 (by decide) (fun h7 => ?_) (fun h7 => ?_)
  · (first | replace h7 := of_decide_eq_true h7 | replace h7 := of_decide_eq_false h7 | skip)
    refine w_aload_n dX10_image_13 rfl ?_
    refine r_getI (q := 13) dX10_image_14 fl10_117 g0_238 (by decide) rfl (by decide) rfl (fun r14 => ?_)
    refine w_if_ne (tgt := 23) dX10_image_17 (by decide) (by omega) (fun h17 => ?_) (fun h17 => ?_)
    · refine w_aload_n dX10_image_23 rfl ?_
      refine w_getR (r := 248) dX10_image_24 fl10_37 g0_238 (by decide) rfl ?_
      refine w_bipush dX10_image_27 (by decide +kernel) ?_
      refine w_iload_n dX10_image_29 rfl ?_
      refine w_imul dX10_image_30 ?_
      refine w_iconst dX10_image_31 ?_
      refine r_ist dX10_image_32 g0_248 (by decide) (by omega) (by omega) (by omega) (by decide) ?_
      refine w_iconst dX10_image_33 ?_
      refine w_istore_n dX10_image_34 (by decide) ?_
      refine l_X10_image (by omega) (by omega) ?_ 46 0 _ _ rfl (cp_none _ _ _ _ _).symm (by omega) (by omega)
      refine w_iconst dX10_image_66 ?_
      refine w_iret dX10_image_67 rfl (by omega) ?_ ⟨Nat.le_refl _, Nat.le_refl _⟩
      exact q_x (by unfold imgR; (repeat (first | rw [if_pos (by omega)] | rw [if_neg (by omega)])); exact ⟨rfl, key (by omega) (by omega)⟩)
    · refine w_ldc dX10_image_20 co10_144 ?_
      refine w_iret dX10_image_22 rfl (by omega) ?_ ⟨Nat.le_refl _, Nat.le_refl _⟩
      exact (q_x (KM.stay hI (by unfold imgR; ((repeat (first | rw [if_pos (by omega)] | rw [if_neg (by omega)])) <;> rfl))))
  · (first | replace h7 := of_decide_eq_true h7 | replace h7 := of_decide_eq_false h7 | skip)
    refine w_ldc dX10_image_10 co10_60 ?_
    refine w_iret dX10_image_12 rfl (by omega) ?_ ⟨Nat.le_refl _, Nat.le_refl _⟩
    exact (q_x (KM.stay hI (by unfold imgR; ((repeat (first | rw [if_pos (by omega)] | rw [if_neg (by omega)])) <;> rfl))))
theorem l_X10_restore {E : EV} {M : MM} {g : Int} {Q : PP} (g0 : 0 ≤ g) (g1 : g ≤ 1) (hQ : Wp E mX10_restore (kd 9) 61 [some (vr 238), some (vi g), some (vi 45)] [] N0 G0 (cpM M 248 243 (46 * g + 1) 0 45) Q) :
    ∀ (k c : Nat) (z : Int) (m : MM), z = (c : Int) → m = cpM M 248 243 (46 * g + 1) 0 (c : Int) → c ≤ 45 → 45 - c < k → Wp E mX10_restore (kd 9) 30 [some (vr 238), some (vi g), some (vi z)] [] N0 G0 m Q := by
  intro k
  induction k with
  | zero => intro c z m hz hm hc hk; exact absurd hk (by omega)
  | succ k ih =>
    intro c z m hz hm hc hk
    subst hz
    subst hm
    have er : cpM M 248 243 (46 * g + 1) 0 (c : Int) 248 (46 * g + 1 + (c : Int)) = M 248 (46 * g + 1 + (c : Int)) := by rw [cpM_cell (by omega)]
    refine w_iload_n dX10_restore_30 rfl ?_
    refine w_bipush dX10_restore_31 (by decide +kernel) ?_
    refine w_icmp_ge (tgt := 61) dX10_restore_33 (by decide) (by omega) (by omega) (fun h33 => ?_) (fun h33 => ?_)
    · have ec : c = 45 := by omega
      subst ec
      exact hQ
    · refine w_aload_n dX10_restore_36 rfl ?_
      refine w_getR (r := 243) dX10_restore_37 fl10_22 g0_238 (by decide) rfl ?_
      refine w_iload_n dX10_restore_40 rfl ?_
      refine w_aload_n dX10_restore_41 rfl ?_
      refine w_getR (r := 248) dX10_restore_42 fl10_37 g0_238 (by decide) rfl ?_
      refine w_bipush dX10_restore_45 (by decide +kernel) ?_
      refine w_iload_n dX10_restore_47 rfl ?_
      refine w_imul dX10_restore_48 ?_
      refine w_iconst dX10_restore_49 ?_
      refine w_iadd dX10_restore_50 ?_
      refine w_iload_n dX10_restore_51 rfl ?_
      refine w_iadd dX10_restore_52 ?_
      refine r_ildq (q := 46 * g + 1 + (c : Int)) dX10_restore_53 g0_248 (by decide) (by omega) (by omega) (by omega) (by decide) (fun r53 => ?_)
      refine r_istq (q := 0 + (c : Int)) dX10_restore_54 g0_243 (by decide) (by omega) (by omega) (by omega) (by omega) (by decide) ?_
      refine w_iinc dX10_restore_55 rfl (by decide) ?_
      refine w_goto (tgt := 30) dX10_restore_58 (by decide) ?_
      exact ih (c + 1) _ _ (by omega) (by rw [er, show ((c + 1 : Nat) : Int) = (c : Int) + 1 by omega, ← cp_step (by decide) (by omega)]) (by omega) (by omega)
theorem c_X10_restore {E : EV} {M : MM} {p : PS} {g : Int} (hI : MI M p) (hP : POK p) (hg : R32 g) : Cx E mX10_restore 9 [vr 238, vi g] M (KM M (rstR p g)) := by
  refine Ct.of [some (vr 238), some (vi g), none] rfl rfl rfl (Nat.le_of_ble_eq_true rfl) ?_
  have hs := hI.sn
  have ef := hI.fl g
  have key : 0 ≤ g → g ≤ 1 → p.fl g ≠ 0 → MI (upM (cpM M 248 243 (46 * g + 1) 0 45) 238 15 0) (⟨p.ln, p.sz, p.it, p.tn, p.tp, p.I g, 0, p.U, p.fl, p.I, p.lf, p.fd, p.tr, p.tb⟩ : PS) ∧ Lo M (upM (cpM M 248 243 (46 * g + 1) 0 45) 238 15 0) := by
    intro g0 g1 hf
    have sn : p.S 0 ≠ 0 := fun e => hf ((hP.h0 e).2 g g0 (by omega))
    have a := (hP.hI g g0 (by omega)).resolve_left hf
    refine ⟨hI.sact (fun i a b c d e f => by rw [upM_cell (by omega), cpM_cell b]) (fun k _ h2 h3 => by rw [upM_ne (fun w => h3 w.2), cpM_cell (by omega)]) ?_ ?_ ?_ (fun j hj q x y => by rw [upM_cell (by omega), cpM_cell (by omega)]; exact hI.U j hj q x y), ((Lo.refl M).cp (by omega)).up (by omega)⟩
    · rw [upM_cell (by omega)]
      exact cp_sky hI.S hP.hs.1 a.2.1.1 (fun q x y => hI.I g g0 (by omega) q x y)
    · rw [upM_ne (by omega), cpM_cell (by omega), hI.is, if_neg sn, if_neg (by omega)]
    · rw [upM_same]; rfl
  refine w_iload_n dX10_restore_0 rfl ?_
  refine w_i2l dX10_restore_1 (by omega) ?_
  refine w_lconst0 dX10_restore_2 ?_
  refine w_lconst1 dX10_restore_3 ?_
  refine cSm dX10_restore_4 ok_X10_in (Or.inl ls10_50) (c_X10_in (by omega) (by omega) (by omega)) rfl  rfl (by decide) (Nat.le_of_ble_eq_true rfl) (fun r4 => ?_)
  refine w_ifB_ne (tgt := 13) dX10_restore_7 (by decide) (fun h7 => ?_) (fun h7 => ?_)
  · (first | replace h7 := of_decide_eq_true h7 | replace h7 := of_decide_eq_false h7 | skip)
    have ef := ef (by omega) (by omega)
    refine w_aload_n dX10_restore_13 rfl ?_
    refine w_getR (r := 248) dX10_restore_14 fl10_37 g0_238 (by decide) rfl ?_
    refine w_bipush dX10_restore_17 (by decide +kernel) ?_
    refine w_iload_n dX10_restore_19 rfl ?_
    refine w_imul dX10_restore_20 ?_
    refine r_ild dX10_restore_21 g0_248 (by decide) (by omega) (by omega) (by decide) (fun r21 => ?_)
    refine w_if_ne (tgt := 28) dX10_restore_22 (by decide) (by omega) (fun h22 => ?_) (fun h22 => ?_)
    · refine w_iconst dX10_restore_28 ?_
      refine w_istore_n dX10_restore_29 (by decide) ?_
      refine l_X10_restore (by omega) (by omega) ?_ 46 0 _ _ rfl (cp_none _ _ _ _ _).symm (by omega) (by omega)
      refine w_aload_n dX10_restore_61 rfl ?_
      refine w_iconst dX10_restore_62 ?_
      refine r_putI (q := 15) dX10_restore_63 fl10_121 g0_238 (by decide) rfl (by decide) (by omega) rfl (by decide +kernel) rfl ?_
      refine w_iconst dX10_restore_66 ?_
      refine w_iret dX10_restore_67 rfl (by omega) ?_ ⟨Nat.le_refl _, Nat.le_refl _⟩
      exact q_x (by unfold rstR; (repeat (first | rw [if_pos (by omega)] | rw [if_neg (by omega)])); exact ⟨rfl, key (by omega) (by omega) (by omega)⟩)
    · refine w_ldc dX10_restore_25 co10_144 ?_
      refine w_iret dX10_restore_27 rfl (by omega) ?_ ⟨Nat.le_refl _, Nat.le_refl _⟩
      exact (q_x (KM.stay hI (by unfold rstR; ((repeat (first | rw [if_pos (by omega)] | rw [if_neg (by omega)])) <;> rfl))))
  · (first | replace h7 := of_decide_eq_true h7 | replace h7 := of_decide_eq_false h7 | skip)
    refine w_ldc dX10_restore_10 co10_60 ?_
    refine w_iret dX10_restore_12 rfl (by omega) ?_ ⟨Nat.le_refl _, Nat.le_refl _⟩
    exact (q_x (KM.stay hI (by unfold rstR; ((repeat (first | rw [if_pos (by omega)] | rw [if_neg (by omega)])) <;> rfl))))
