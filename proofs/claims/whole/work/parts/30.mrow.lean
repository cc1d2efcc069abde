/-! ===== the reference: rows, letters ===== -/
theorem l_X10_row {E : EV} {M : MM} {r l n : Int} {Q : PP} (h0 : 0 ≤ r) (h1 : r < 8) (hQ : Wp E mX10_row (kd 9) 81 [some (vr 238), some (vi r), some (vi l), some (vi n), some (vi 40)] [] N0 G0 (zR M 241 (40 * r) (40 * r + 40)) Q) :
    ∀ (k c : Nat) (z : Int) (m : MM), z = (c : Int) → m = zR M 241 (40 * r) (40 * r + (c : Int)) → c ≤ 40 → 40 - c < k → Wp E mX10_row (kd 9) 55 [some (vr 238), some (vi r), some (vi l), some (vi n), some (vi z)] [] N0 G0 m Q := by
  intro k
  induction k with
  | zero => intro c z m hz hm hc hk; exact absurd hk (by omega)
  | succ k ih =>
    intro c z m hz hm hc hk
    subst hz
    subst hm
    refine w_iload dX10_row_55 rfl ?_
    refine w_bipush dX10_row_57 (by decide +kernel) ?_
    refine w_icmp_ge (tgt := 81) dX10_row_59 (by decide) (by omega) (by omega) (fun h59 => ?_) (fun h59 => ?_)
    · have ec : c = 40 := by omega
      subst ec
      exact hQ
    · refine w_aload_n dX10_row_62 rfl ?_
      refine w_getR (r := 241) dX10_row_63 fl10_16 g0_238 (by decide) rfl ?_
      refine w_bipush dX10_row_66 (by decide +kernel) ?_
      refine w_iload_n dX10_row_68 rfl ?_
      refine w_imul dX10_row_69 ?_
      refine w_iload dX10_row_70 rfl ?_
      refine w_iadd dX10_row_72 ?_
      refine w_iconst dX10_row_73 ?_
      refine r_ist dX10_row_74 g0_241 (by decide) (by omega) (by omega) (by omega) (by decide) ?_
      refine w_iinc dX10_row_75 rfl (by decide) ?_
      refine w_goto (tgt := 55) dX10_row_78 (by decide) ?_
      exact ih (c + 1) _ _ (by omega) (by rw [zR_step M 241 (by omega)]; congr 1; omega) (by omega) (by omega)
theorem c_X10_row {E : EV} {M : MM} {p : PS} {r l n : Int} (hI : MI M p) (hr : R32 r) (hl : R32 l) (hn : R32 n) : Cx E mX10_row 9 [vr 238, vi r, vi l, vi n] M (KM M (rowR p r l n)) := by
  refine Ct.of [some (vr 238), some (vi r), some (vi l), some (vi n), none] rfl rfl rfl (Nat.le_of_ble_eq_true rfl) ?_
  have key : MI (zR (upM (upM M 239 r l) 240 r n) 241 (40 * r) (40 * r + 40)) (⟨upS p.ln r l, upS p.sz r n, fun q => if 40 * r ≤ q ∧ q < 40 * r + 40 then 0 else p.it q, p.tn, p.tp, p.S, p.u, p.U, p.fl, p.I, p.lf, p.fd, p.tr, p.tb⟩ : PS) ∧ Lo M (zR (upM (upM M 239 r l) 240 r n) 241 (40 * r) (40 * r + 40)) := by
    refine ⟨hI.rows (fun i a b c d e f g => by rw [zR_cell d, upM_cell c, upM_cell b]) (fun k _ => by rw [zR_cell (by omega), upM_cell (by omega), upM_cell (by omega)]) ?_ ?_ ?_, fun i hi => by rw [zR_cell (by omega), upM_cell (by omega), upM_cell (by omega)]⟩
    · rw [zR_cell (by omega), upM_cell (by omega)]
      funext q
      rw [upS_at]
      by_cases e : q = r
      · rw [e, upM_same, if_pos rfl]
      · rw [upM_ne (fun w => e w.2), if_neg e, hI.ln]
    · rw [zR_cell (by omega)]
      funext q
      rw [upS_at]
      by_cases e : q = r
      · rw [e, upM_same, if_pos rfl]
      · rw [upM_ne (fun w => e w.2), if_neg e, upM_cell (by omega), hI.sz]
    · funext q
      unfold zR
      by_cases e : 40 * r ≤ q ∧ q < 40 * r + 40
      · rw [if_pos ⟨rfl, e⟩, if_pos e]
      · rw [if_neg (fun w => e w.2), if_neg e, upM_cell (by omega), upM_cell (by omega), hI.it]
  refine w_iload_n dX10_row_0 rfl ?_
  refine cSm dX10_row_1 ok_X10_isRow (Or.inl ls10_54) (c_X10_isRow (by omega)) rfl  rfl (by decide) (Nat.le_of_ble_eq_true rfl) (fun r1 => ?_)
  refine w_ifB_eq (tgt := 25) dX10_row_4 (by decide) (fun h4 => ?_) (fun h4 => ?_)
  · (first | replace h4 := of_decide_eq_true h4 | replace h4 := of_decide_eq_false h4 | skip)
    refine w_ldc dX10_row_25 co10_60 ?_
    refine w_iret dX10_row_27 rfl (by omega) ?_ ⟨Nat.le_refl _, Nat.le_refl _⟩
    exact (q_x (KM.stay hI (by unfold rowR; ((repeat (first | rw [if_pos (by omega)] | rw [if_neg (by omega)])) <;> rfl))))
  · (first | replace h4 := of_decide_eq_true h4 | replace h4 := of_decide_eq_false h4 | skip)
    refine w_iload_n dX10_row_7 rfl ?_
    refine w_i2l dX10_row_8 (by omega) ?_
    refine w_lconst0 dX10_row_9 ?_
    refine w_ldc2 dX10_row_10 cl10_58 ?_
    refine cSm dX10_row_13 ok_X10_in (Or.inl ls10_50) (c_X10_in (by omega) (by omega) (by omega)) rfl  rfl (by decide) (Nat.le_of_ble_eq_true rfl) (fun r13 => ?_)
    refine w_ifB_eq (tgt := 25) dX10_row_16 (by decide) (fun h16 => ?_) (fun h16 => ?_)
    · (first | replace h16 := of_decide_eq_true h16 | replace h16 := of_decide_eq_false h16 | skip)
      refine w_ldc dX10_row_25 co10_60 ?_
      refine w_iret dX10_row_27 rfl (by omega) ?_ ⟨Nat.le_refl _, Nat.le_refl _⟩
      exact (q_x (KM.stay hI (by unfold rowR; ((repeat (first | rw [if_pos (by omega)] | rw [if_neg (by omega)])) <;> rfl))))
    · (first | replace h16 := of_decide_eq_true h16 | replace h16 := of_decide_eq_false h16 | skip)
      refine w_iload_n dX10_row_19 rfl ?_
      refine w_bipush dX10_row_20 (by decide +kernel) ?_
      refine w_icmp_le (tgt := 28) dX10_row_22 (by decide) (by omega) (by omega) (fun h22 => ?_) (fun h22 => ?_)
      · refine w_iload_n dX10_row_28 rfl ?_
        refine w_if_ge (tgt := 38) dX10_row_29 (by decide) (by omega) (fun h29 => ?_) (fun h29 => ?_)
        · refine w_aload_n dX10_row_38 rfl ?_
          refine w_getR (r := 239) dX10_row_39 fl10_7 g0_238 (by decide) rfl ?_
          refine w_iload_n dX10_row_42 rfl ?_
          refine w_iload_n dX10_row_43 rfl ?_
          refine r_ist dX10_row_44 g0_239 (by decide) (by omega) (by omega) (by omega) (by decide) ?_
          refine w_aload_n dX10_row_45 rfl ?_
          refine w_getR (r := 240) dX10_row_46 fl10_13 g0_238 (by decide) rfl ?_
          refine w_iload_n dX10_row_49 rfl ?_
          refine w_iload_n dX10_row_50 rfl ?_
          refine r_ist dX10_row_51 g0_240 (by decide) (by omega) (by omega) (by omega) (by decide) ?_
          refine w_iconst dX10_row_52 ?_
          refine w_istore dX10_row_53 (by decide) ?_
          refine l_X10_row (by omega) (by omega) ?_ 41 0 _ _ rfl (by rw [show 40 * r + ((0 : Nat) : Int) = 40 * r by omega, zR_none]) (by omega) (by omega)
          refine w_aload_n dX10_row_81 rfl ?_
          refine w_iload_n dX10_row_82 rfl ?_
          refine cVm dX10_row_83 ok_X10_well lv10_65 (c_X10_well (by omega)) rfl (congrArg Prod.fst g0_238) (by decide) (by decide) rfl (by decide) (Nat.le_of_ble_eq_true rfl) (fun r83 => ?_)
          refine w_iret dX10_row_86 rfl (by omega) ?_ ⟨Nat.le_refl _, Nat.le_refl _⟩
          exact (q_x (KM.find key.1 key.2 (by unfold rowR; ((repeat (first | rw [if_pos (by omega)] | rw [if_neg (by omega)])) <;> rfl))))
        · refine w_aload_n dX10_row_32 rfl ?_
          refine w_iconst dX10_row_33 ?_
          refine cVm dX10_row_34 ok_X10_finds lv10_61 (c_X10_finds (by omega)) rfl (congrArg Prod.fst g0_238) (by decide) (by decide) rfl (by decide) (Nat.le_of_ble_eq_true rfl) (fun r34 => ?_)
          refine w_iret dX10_row_37 rfl (by omega) ?_ ⟨Nat.le_refl _, Nat.le_refl _⟩
          exact (q_x (KM.find hI (Lo.refl M) (by unfold rowR; ((repeat (first | rw [if_pos (by omega)] | rw [if_neg (by omega)])) <;> rfl))))
      · refine w_ldc dX10_row_25 co10_60 ?_
        refine w_iret dX10_row_27 rfl (by omega) ?_ ⟨Nat.le_refl _, Nat.le_refl _⟩
        exact (q_x (KM.stay hI (by unfold rowR; ((repeat (first | rw [if_pos (by omega)] | rw [if_neg (by omega)])) <;> rfl))))
theorem c_X10_set {E : EV} {M : MM} {p : PS} {r i v : Int} (hI : MI M p) (hP : POK p) (hr : R32 r) (hi : R32 i) (hv : R32 v) : Cx E mX10_set 9 [vr 238, vi r, vi i, vi v] M (KM M (setR p r i v)) := by
  refine Ct.of [some (vr 238), some (vi r), some (vi i), some (vi v), none] rfl rfl rfl (Nat.le_of_ble_eq_true rfl) ?_
  have e1 : M 239 r = p.ln r := by rw [hI.ln]
  have e2 : M 240 r = p.sz r := by rw [hI.sz]
  have q1 := hP.hl r
  have key : ∀ w : Int, MI (upM M 241 (40 * r + i) w) (⟨p.ln, p.sz, upS p.it (40 * r + i) w, p.tn, p.tp, p.S, p.u, p.U, p.fl, p.I, p.lf, p.fd, p.tr, p.tb⟩ : PS) ∧ Lo M (upM M 241 (40 * r + i) w) := by
    intro w
    refine ⟨hI.rows (fun i a b c d e f g => by rw [upM_cell d]) (fun k _ => by rw [upM_cell (by omega)]) ?_ ?_ ?_, fun i hi => by rw [upM_cell (by omega)]⟩
    · rw [upM_cell (by omega)]; exact hI.ln
    · rw [upM_cell (by omega)]; exact hI.sz
    · funext q
      rw [upS_at]
      by_cases e : q = 40 * r + i
      · rw [e, upM_same, if_pos rfl]
      · rw [upM_ne (fun w => e w.2), if_neg e, hI.it]
  have b := byteF_r v
  have s := shortF_r v
  have k0 : p.ln r = 0 → narF (p.ln r) v = byteF v := fun h => by unfold narF; rw [if_pos h]
  have k1 : p.ln r = 1 → narF (p.ln r) v = shortF v := fun h => by unfold narF; rw [if_neg (by omega), if_pos h]
  have k2 : p.ln r ≠ 0 → p.ln r ≠ 1 → narF (p.ln r) v = v := fun h g => by unfold narF; rw [if_neg h, if_neg g]
  refine w_iload_n dX10_set_0 rfl ?_
  refine cSm dX10_set_1 ok_X10_isRow (Or.inl ls10_54) (c_X10_isRow (by omega)) rfl  rfl (by decide) (Nat.le_of_ble_eq_true rfl) (fun r1 => ?_)
  refine w_ifB_ne (tgt := 10) dX10_set_4 (by decide) (fun h4 => ?_) (fun h4 => ?_)
  · (first | replace h4 := of_decide_eq_true h4 | replace h4 := of_decide_eq_false h4 | skip)
    have q1 := q1 (by omega) (by omega)
    refine w_aload_n dX10_set_10 rfl ?_
    refine w_getR (r := 239) dX10_set_11 fl10_7 g0_238 (by decide) rfl ?_
    refine w_iload_n dX10_set_14 rfl ?_
    refine r_ild dX10_set_15 g0_239 (by decide) (by omega) (by omega) (by decide) (fun r15 => ?_)
    refine w_if_ge (tgt := 25) dX10_set_16 (by decide) (by omega) (fun h16 => ?_) (fun h16 => ?_)
    · refine w_iload_n dX10_set_25 rfl ?_
      refine w_i2l dX10_set_26 (by omega) ?_
      refine w_lconst0 dX10_set_27 ?_
      refine w_aload_n dX10_set_28 rfl ?_
      refine w_getR (r := 240) dX10_set_29 fl10_13 g0_238 (by decide) rfl ?_
      refine w_iload_n dX10_set_32 rfl ?_
      refine r_ild dX10_set_33 g0_240 (by decide) (by omega) (by omega) (by decide) (fun r33 => ?_)
      refine w_iconst dX10_set_34 ?_
      refine w_isub dX10_set_35 ?_
      refine w_i2l dX10_set_36 (by omega) ?_
      refine cSm dX10_set_37 ok_X10_in (Or.inl ls10_50) (c_X10_in (by omega) (by omega) (by omega)) rfl  rfl (by decide) (Nat.le_of_ble_eq_true rfl) (fun r37 => ?_)
      refine w_ifB_ne (tgt := 49) dX10_set_40 (by decide) (fun h40 => ?_) (fun h40 => ?_)
      · (first | replace h40 := of_decide_eq_true h40 | replace h40 := of_decide_eq_false h40 | skip)
        refine w_aload_n dX10_set_49 rfl ?_
        refine w_getR (r := 239) dX10_set_50 fl10_7 g0_238 (by decide) rfl ?_
        refine w_iload_n dX10_set_53 rfl ?_
        refine r_ild dX10_set_54 g0_239 (by decide) (by omega) (by omega) (by decide) (fun r54 => ?_)
        refine w_istore dX10_set_55 (by decide) ?_
        refine w_aload_n dX10_set_57 rfl ?_
        refine w_getR (r := 241) dX10_set_58 fl10_16 g0_238 (by decide) rfl ?_
        refine w_bipush dX10_set_61 (by decide +kernel) ?_
        refine w_iload_n dX10_set_63 rfl ?_
        refine w_imul dX10_set_64 ?_
        refine w_iload_n dX10_set_65 rfl ?_
        refine w_iadd dX10_set_66 ?_
        refine w_iload dX10_set_67 rfl ?_
        refine w_if_ne (tgt := 77) dX10_set_69 (by decide) (by omega) (fun h69 => ?_) (fun h69 => ?_)
        · refine w_iload dX10_set_77 rfl ?_
          refine w_iconst dX10_set_79 ?_
          refine w_icmp_ne (tgt := 88) dX10_set_80 (by decide) (by omega) (by omega) (fun h80 => ?_) (fun h80 => ?_)
          · refine w_iload_n dX10_set_88 rfl ?_
            refine r_ist dX10_set_89 g0_241 (by decide) (by omega) (by omega) (by omega) (by decide) ?_
            refine w_aload_n dX10_set_90 rfl ?_
            refine w_aload_n dX10_set_91 rfl ?_
            refine w_getR (r := 241) dX10_set_92 fl10_16 g0_238 (by decide) rfl ?_
            refine w_bipush dX10_set_95 (by decide +kernel) ?_
            refine w_iload_n dX10_set_97 rfl ?_
            refine w_imul dX10_set_98 ?_
            refine w_iload_n dX10_set_99 rfl ?_
            refine w_iadd dX10_set_100 ?_
            refine r_ild dX10_set_101 g0_241 (by decide) (by omega) (by omega) (by decide) (fun r101 => ?_)
            refine cVm dX10_set_102 ok_X10_well lv10_65 (c_X10_well (by omega)) rfl (congrArg Prod.fst g0_238) (by decide) (by decide) rfl (by decide) (Nat.le_of_ble_eq_true rfl) (fun r102 => ?_)
            refine w_iret dX10_set_105 rfl (by omega) ?_ ⟨Nat.le_refl _, Nat.le_refl _⟩
            exact (q_x (KM.find (key _).1 (key _).2 (by unfold setR; (repeat (first | rw [if_pos (by omega)] | rw [if_neg (by omega)])); rw [upM_same]; first | (rw [k0 (by omega)]; rfl) | (rw [k1 (by omega)]; rfl) | (rw [k2 (by omega) (by omega)]; rfl))))
          · refine w_iload_n dX10_set_83 rfl ?_
            refine w_i2s (r := shortF v) dX10_set_84 (shortF_ok v) ?_
            refine w_goto (tgt := 89) dX10_set_85 (by decide) ?_
            refine r_ist dX10_set_89 g0_241 (by decide) (by omega) (by omega) (by omega) (by decide) ?_
            refine w_aload_n dX10_set_90 rfl ?_
            refine w_aload_n dX10_set_91 rfl ?_
            refine w_getR (r := 241) dX10_set_92 fl10_16 g0_238 (by decide) rfl ?_
            refine w_bipush dX10_set_95 (by decide +kernel) ?_
            refine w_iload_n dX10_set_97 rfl ?_
            refine w_imul dX10_set_98 ?_
            refine w_iload_n dX10_set_99 rfl ?_
            refine w_iadd dX10_set_100 ?_
            refine r_ild dX10_set_101 g0_241 (by decide) (by omega) (by omega) (by decide) (fun r101 => ?_)
            refine cVm dX10_set_102 ok_X10_well lv10_65 (c_X10_well (by omega)) rfl (congrArg Prod.fst g0_238) (by decide) (by decide) rfl (by decide) (Nat.le_of_ble_eq_true rfl) (fun r102 => ?_)
            refine w_iret dX10_set_105 rfl (by omega) ?_ ⟨Nat.le_refl _, Nat.le_refl _⟩
            exact (q_x (KM.find (key _).1 (key _).2 (by unfold setR; (repeat (first | rw [if_pos (by omega)] | rw [if_neg (by omega)])); rw [upM_same]; first | (rw [k0 (by omega)]; rfl) | (rw [k1 (by omega)]; rfl) | (rw [k2 (by omega) (by omega)]; rfl))))
        · refine w_iload_n dX10_set_72 rfl ?_
          refine w_i2b (r := byteF v) dX10_set_73 (byteF_ok v) ?_
          refine w_goto (tgt := 89) dX10_set_74 (by decide) ?_
          refine r_ist dX10_set_89 g0_241 (by decide) (by omega) (by omega) (by omega) (by decide) ?_
          refine w_aload_n dX10_set_90 rfl ?_
          refine w_aload_n dX10_set_91 rfl ?_
          refine w_getR (r := 241) dX10_set_92 fl10_16 g0_238 (by decide) rfl ?_
          refine w_bipush dX10_set_95 (by decide +kernel) ?_
          refine w_iload_n dX10_set_97 rfl ?_
          refine w_imul dX10_set_98 ?_
          refine w_iload_n dX10_set_99 rfl ?_
          refine w_iadd dX10_set_100 ?_
          refine r_ild dX10_set_101 g0_241 (by decide) (by omega) (by omega) (by decide) (fun r101 => ?_)
          refine cVm dX10_set_102 ok_X10_well lv10_65 (c_X10_well (by omega)) rfl (congrArg Prod.fst g0_238) (by decide) (by decide) rfl (by decide) (Nat.le_of_ble_eq_true rfl) (fun r102 => ?_)
          refine w_iret dX10_set_105 rfl (by omega) ?_ ⟨Nat.le_refl _, Nat.le_refl _⟩
          exact (q_x (KM.find (key _).1 (key _).2 (by unfold setR; (repeat (first | rw [if_pos (by omega)] | rw [if_neg (by omega)])); rw [upM_same]; first | (rw [k0 (by omega)]; rfl) | (rw [k1 (by omega)]; rfl) | (rw [k2 (by omega) (by omega)]; rfl))))
      · (first | replace h40 := of_decide_eq_true h40 | replace h40 := of_decide_eq_false h40 | skip)
        refine w_aload_n dX10_set_43 rfl ?_
        refine w_iconst dX10_set_44 ?_
        refine cVm dX10_set_45 ok_X10_finds lv10_61 (c_X10_finds (by omega)) rfl (congrArg Prod.fst g0_238) (by decide) (by decide) rfl (by decide) (Nat.le_of_ble_eq_true rfl) (fun r45 => ?_)
        refine w_iret dX10_set_48 rfl (by omega) ?_ ⟨Nat.le_refl _, Nat.le_refl _⟩
        exact (q_x (KM.find hI (Lo.refl M) (by unfold setR; ((repeat (first | rw [if_pos (by omega)] | rw [if_neg (by omega)])) <;> rfl))))
    · refine w_aload_n dX10_set_19 rfl ?_
      refine w_iconst dX10_set_20 ?_
      refine cVm dX10_set_21 ok_X10_finds lv10_61 (c_X10_finds (by omega)) rfl (congrArg Prod.fst g0_238) (by decide) (by decide) rfl (by decide) (Nat.le_of_ble_eq_true rfl) (fun r21 => ?_)
      refine w_iret dX10_set_24 rfl (by omega) ?_ ⟨Nat.le_refl _, Nat.le_refl _⟩
      exact (q_x (KM.find hI (Lo.refl M) (by unfold setR; ((repeat (first | rw [if_pos (by omega)] | rw [if_neg (by omega)])) <;> rfl))))
  · (first | replace h4 := of_decide_eq_true h4 | replace h4 := of_decide_eq_false h4 | skip)
    refine w_ldc dX10_set_7 co10_60 ?_
    refine w_iret dX10_set_9 rfl (by omega) ?_ ⟨Nat.le_refl _, Nat.le_refl _⟩
    exact (q_x (KM.stay hI (by unfold setR; ((repeat (first | rw [if_pos (by omega)] | rw [if_neg (by omega)])) <;> rfl))))
theorem c_X10_drop {E : EV} {M : MM} {p : PS} {r : Int} (hI : MI M p) (hP : POK p) (hr : R32 r) : Cx E mX10_drop 9 [vr 238, vi r] M (KM M (dropR p r)) := by
  refine Ct.of [some (vr 238), some (vi r)] rfl rfl rfl (Nat.le_of_ble_eq_true rfl) ?_
  have e1 : M 239 r = p.ln r := by rw [hI.ln]
  have e2 : M 240 r = p.sz r := by rw [hI.sz]
  have key : MI (upM M 239 r (-1)) (⟨upS p.ln r (-1), p.sz, p.it, p.tn, p.tp, p.S, p.u, p.U, p.fl, p.I, p.lf, p.fd, p.tr, p.tb⟩ : PS) ∧ Lo M (upM M 239 r (-1)) := by
    refine ⟨hI.rows (fun i a b c d e f g => by rw [upM_cell b]) (fun k _ => by rw [upM_cell (by omega)]) ?_ ?_ ?_, fun i hi => by rw [upM_cell (by omega)]⟩
    · funext q
      rw [upS_at]
      by_cases e : q = r
      · rw [e, upM_same, if_pos rfl]
      · rw [upM_ne (fun w => e w.2), if_neg e, hI.ln]
    · rw [upM_cell (by omega)]; exact hI.sz
    · rw [upM_cell (by omega)]; exact hI.it
  refine w_iload_n dX10_drop_0 rfl ?_
  refine cSm dX10_drop_1 ok_X10_isRow (Or.inl ls10_54) (c_X10_isRow (by omega)) rfl  rfl (by decide) (Nat.le_of_ble_eq_true rfl) (fun r1 => ?_)
  refine w_ifB_ne (tgt := 10) dX10_drop_4 (by decide) (fun h4 => ?_) (fun h4 => ?_)
  · (first | replace h4 := of_decide_eq_true h4 | replace h4 := of_decide_eq_false h4 | skip)
    refine w_aload_n dX10_drop_10 rfl ?_
    refine w_getR (r := 239) dX10_drop_11 fl10_7 g0_238 (by decide) rfl ?_
    refine w_iload_n dX10_drop_14 rfl ?_
    refine r_ild dX10_drop_15 g0_239 (by decide) (by omega) (by omega) (by decide) (fun r15 => ?_)
    refine w_if_ge (tgt := 25) dX10_drop_16 (by decide) (by omega) (fun h16 => ?_) (fun h16 => ?_)
    · refine w_aload_n dX10_drop_25 rfl ?_
      refine w_getR (r := 239) dX10_drop_26 fl10_7 g0_238 (by decide) rfl ?_
      refine w_iload_n dX10_drop_29 rfl ?_
      refine w_iconst dX10_drop_30 ?_
      refine r_ist dX10_drop_31 g0_239 (by decide) (by omega) (by omega) (by omega) (by decide) ?_
      refine w_aload_n dX10_drop_32 rfl ?_
      refine w_aload_n dX10_drop_33 rfl ?_
      refine w_getR (r := 240) dX10_drop_34 fl10_13 g0_238 (by decide) rfl ?_
      refine w_iload_n dX10_drop_37 rfl ?_
      refine r_ild dX10_drop_38 g0_240 (by decide) (by omega) (by omega) (by decide) (fun r38 => ?_)
      refine cVm dX10_drop_39 ok_X10_well lv10_65 (c_X10_well (by omega)) rfl (congrArg Prod.fst g0_238) (by decide) (by decide) rfl (by decide) (Nat.le_of_ble_eq_true rfl) (fun r39 => ?_)
      refine w_iret dX10_drop_42 rfl (by omega) ?_ ⟨Nat.le_refl _, Nat.le_refl _⟩
      exact (q_x (KM.find key.1 key.2 (by unfold dropR; (repeat (first | rw [if_pos (by omega)] | rw [if_neg (by omega)])); rw [upM_cell (by omega), e2]; rfl)))
    · refine w_aload_n dX10_drop_19 rfl ?_
      refine w_iconst dX10_drop_20 ?_
      refine cVm dX10_drop_21 ok_X10_finds lv10_61 (c_X10_finds (by omega)) rfl (congrArg Prod.fst g0_238) (by decide) (by decide) rfl (by decide) (Nat.le_of_ble_eq_true rfl) (fun r21 => ?_)
      refine w_iret dX10_drop_24 rfl (by omega) ?_ ⟨Nat.le_refl _, Nat.le_refl _⟩
      exact (q_x (KM.find hI (Lo.refl M) (by unfold dropR; ((repeat (first | rw [if_pos (by omega)] | rw [if_neg (by omega)])) <;> rfl))))
  · (first | replace h4 := of_decide_eq_true h4 | replace h4 := of_decide_eq_false h4 | skip)
    refine w_ldc dX10_drop_7 co10_60 ?_
    refine w_iret dX10_drop_9 rfl (by omega) ?_ ⟨Nat.le_refl _, Nat.le_refl _⟩
    exact (q_x (KM.stay hI (by unfold dropR; ((repeat (first | rw [if_pos (by omega)] | rw [if_neg (by omega)])) <;> rfl))))
theorem l_X10_copyA {E : EV} {M : MM} {a i b j n : Int} {Q : PP} (a0 : 0 ≤ a) (a1 : a < 8) (b0 : 0 ≤ b) (b1 : b < 8) (i0 : 0 ≤ i) (n0 : 0 ≤ n) (hin : i + n ≤ 40) (hQ : Wp E mX10_copy (kd 9) 128 [some (vr 238), some (vi a), some (vi i), some (vi b), some (vi j), some (vi n), some (vi n)] [] N0 G0 (cpM M 241 242 (40 * a + i) 0 n) Q) :
    ∀ (k c : Nat) (z : Int) (m : MM), z = (c : Int) → m = cpM M 241 242 (40 * a + i) 0 (c : Int) → (c : Int) ≤ n → n.toNat - c < k → Wp E mX10_copy (kd 9) 94 [some (vr 238), some (vi a), some (vi i), some (vi b), some (vi j), some (vi n), some (vi z)] [] N0 G0 m Q := by
  intro k
  induction k with
  | zero => intro c z m hz hm hc hk; exact absurd hk (by omega)
  | succ k ih =>
    intro c z m hz hm hc hk
    subst hz
    subst hm
    have er : cpM M 241 242 (40 * a + i) 0 (c : Int) 241 (40 * a + i + (c : Int)) = M 241 (40 * a + i + (c : Int)) := by rw [cpM_cell (by omega)]
    refine w_iload dX10_copy_94 rfl ?_
    refine w_iload dX10_copy_96 rfl ?_
    refine w_icmp_ge (tgt := 128) dX10_copy_98 (by decide) (by omega) (by omega) (fun h98 => ?_) (fun h98 => ?_)
    · have ec : (c : Int) = n := by omega
      rw [ec]
      exact hQ
    · refine w_aload_n dX10_copy_101 rfl ?_
      refine w_getR (r := 242) dX10_copy_102 fl10_19 g0_238 (by decide) rfl ?_
      refine w_iload dX10_copy_105 rfl ?_
      refine w_aload_n dX10_copy_107 rfl ?_
      refine w_getR (r := 241) dX10_copy_108 fl10_16 g0_238 (by decide) rfl ?_
      refine w_bipush dX10_copy_111 (by decide +kernel) ?_
      refine w_iload_n dX10_copy_113 rfl ?_
      refine w_imul dX10_copy_114 ?_
      refine w_iload_n dX10_copy_115 rfl ?_
      refine w_iadd dX10_copy_116 ?_
      refine w_iload dX10_copy_117 rfl ?_
      refine w_iadd dX10_copy_119 ?_
      refine r_ild dX10_copy_120 g0_241 (by decide) (by omega) (by omega) (by decide) (fun r120 => ?_)
      refine r_istq (q := 0 + (c : Int)) dX10_copy_121 g0_242 (by decide) (by omega) (by omega) (by omega) (by omega) (by decide) ?_
      refine w_iinc dX10_copy_122 rfl (by decide) ?_
      refine w_goto (tgt := 94) dX10_copy_125 (by decide) ?_
      exact ih (c + 1) _ _ (by omega) (by rw [er, show ((c + 1 : Nat) : Int) = (c : Int) + 1 by omega, ← cp_step (by decide) (by omega)]) (by omega) (by omega)
theorem l_X10_copyB {E : EV} {M : MM} {a i b j n : Int} {Q : PP} (a0 : 0 ≤ a) (a1 : a < 8) (b0 : 0 ≤ b) (b1 : b < 8) (j0 : 0 ≤ j) (n0 : 0 ≤ n) (hjn : j + n ≤ 40) (hQ : Wp E mX10_copy (kd 9) 166 [some (vr 238), some (vi a), some (vi i), some (vi b), some (vi j), some (vi n), some (vi n)] [] N0 G0 (cpM M 242 241 0 (40 * b + j) n) Q) :
    ∀ (k c : Nat) (z : Int) (m : MM), z = (c : Int) → m = cpM M 242 241 0 (40 * b + j) (c : Int) → (c : Int) ≤ n → n.toNat - c < k → Wp E mX10_copy (kd 9) 131 [some (vr 238), some (vi a), some (vi i), some (vi b), some (vi j), some (vi n), some (vi z)] [] N0 G0 m Q := by
  intro k
  induction k with
  | zero => intro c z m hz hm hc hk; exact absurd hk (by omega)
  | succ k ih =>
    intro c z m hz hm hc hk
    subst hz
    subst hm
    have er : cpM M 242 241 0 (40 * b + j) (c : Int) 242 (0 + (c : Int)) = M 242 (0 + (c : Int)) := by rw [cpM_cell (by omega)]
    refine w_iload dX10_copy_131 rfl ?_
    refine w_iload dX10_copy_133 rfl ?_
    refine w_icmp_ge (tgt := 166) dX10_copy_135 (by decide) (by omega) (by omega) (fun h135 => ?_) (fun h135 => ?_)
    · have ec : (c : Int) = n := by omega
      rw [ec]
      exact hQ
    · refine w_aload_n dX10_copy_138 rfl ?_
      refine w_getR (r := 241) dX10_copy_139 fl10_16 g0_238 (by decide) rfl ?_
      refine w_bipush dX10_copy_142 (by decide +kernel) ?_
      refine w_iload_n dX10_copy_144 rfl ?_
      refine w_imul dX10_copy_145 ?_
      refine w_iload dX10_copy_146 rfl ?_
      refine w_iadd dX10_copy_148 ?_
      refine w_iload dX10_copy_149 rfl ?_
      refine w_iadd dX10_copy_151 ?_
      refine w_aload_n dX10_copy_152 rfl ?_
      refine w_getR (r := 242) dX10_copy_153 fl10_19 g0_238 (by decide) rfl ?_
      refine w_iload dX10_copy_156 rfl ?_
      refine r_ildq (q := 0 + (c : Int)) dX10_copy_158 g0_242 (by decide) (by omega) (by omega) (by omega) (by decide) (fun r158 => ?_)
      refine r_ist dX10_copy_159 g0_241 (by decide) (by omega) (by omega) (by omega) (by decide) ?_
      refine w_iinc dX10_copy_160 rfl (by decide) ?_
      refine w_goto (tgt := 131) dX10_copy_163 (by decide) ?_
      exact ih (c + 1) _ _ (by omega) (by rw [er, show ((c + 1 : Nat) : Int) = (c : Int) + 1 by omega, ← cp_step (by decide) (by omega)]) (by omega) (by omega)
theorem c_X10_copy {E : EV} {M : MM} {p : PS} {a i b j n : Int} (hI : MI M p) (hP : POK p) (ha : R32 a) (hi : R32 i) (hb : R32 b) (hj : R32 j) (hn : R32 n) : Cx E mX10_copy 9 [vr 238, vi a, vi i, vi b, vi j, vi n] M (KM M (copyR p a i b j n)) := by
  refine Ct.of [some (vr 238), some (vi a), some (vi i), some (vi b), some (vi j), some (vi n), none] rfl rfl rfl (Nat.le_of_ble_eq_true rfl) ?_
  have e1 : M 239 a = p.ln a := by rw [hI.ln]
  have e2 : M 240 a = p.sz a := by rw [hI.sz]
  have e3 : M 239 b = p.ln b := by rw [hI.ln]
  have e4 : M 240 b = p.sz b := by rw [hI.sz]
  have q1 := hP.hl a
  have q2 := hP.hl b
  have key : MI (cpM (cpM M 241 242 (40 * a + i) 0 n) 242 241 0 (40 * b + j) n) (⟨p.ln, p.sz, fun q => if 40 * b + j ≤ q ∧ q < 40 * b + j + n then p.it (40 * a + i + (q - (40 * b + j))) else p.it q, p.tn, p.tp, p.S, p.u, p.U, p.fl, p.I, p.lf, p.fd, p.tr, p.tb⟩ : PS) ∧ Lo M (cpM (cpM M 241 242 (40 * a + i) 0 n) 242 241 0 (40 * b + j) n) := by
    refine ⟨hI.rows (fun i a b c d e f g => by rw [cpM_cell d, cpM_cell e]) (fun k _ => by rw [cpM_cell (by omega), cpM_cell (by omega)]) ?_ ?_ ?_, fun i hi => by rw [cpM_cell (by omega), cpM_cell (by omega)]⟩
    · rw [cpM_cell (by omega), cpM_cell (by omega)]; exact hI.ln
    · rw [cpM_cell (by omega), cpM_cell (by omega)]; exact hI.sz
    · funext q
      unfold cpM
      by_cases e : 40 * b + j ≤ q ∧ q < 40 * b + j + n
      · rw [if_pos ⟨rfl, e⟩, if_pos e, if_pos ⟨rfl, by omega, by omega⟩, hI.it]
        congr 1
        omega
      · rw [if_neg (fun w => e w.2), if_neg e, if_neg (by omega), hI.it]
  refine w_iload_n dX10_copy_0 rfl ?_
  refine cSm dX10_copy_1 ok_X10_isRow (Or.inl ls10_54) (c_X10_isRow (by omega)) rfl  rfl (by decide) (Nat.le_of_ble_eq_true rfl) (fun r1 => ?_)
  refine w_ifB_eq (tgt := 14) dX10_copy_4 (by decide) (fun h4 => ?_) (fun h4 => ?_)
  · (first | replace h4 := of_decide_eq_true h4 | replace h4 := of_decide_eq_false h4 | skip)
    refine w_ldc dX10_copy_14 co10_60 ?_
    refine w_iret dX10_copy_16 rfl (by omega) ?_ ⟨Nat.le_refl _, Nat.le_refl _⟩
    exact (q_x (KM.stay hI (by unfold copyR; ((repeat (first | rw [if_pos (by omega)] | rw [if_neg (by omega)])) <;> rfl))))
  · (first | replace h4 := of_decide_eq_true h4 | replace h4 := of_decide_eq_false h4 | skip)
    refine w_iload_n dX10_copy_7 rfl ?_
    refine cSm dX10_copy_8 ok_X10_isRow (Or.inl ls10_54) (c_X10_isRow (by omega)) rfl  rfl (by decide) (Nat.le_of_ble_eq_true rfl) (fun r8 => ?_)
    refine w_ifB_ne (tgt := 17) dX10_copy_11 (by decide) (fun h11 => ?_) (fun h11 => ?_)
    · (first | replace h11 := of_decide_eq_true h11 | replace h11 := of_decide_eq_false h11 | skip)
      have q1 := q1 (by omega) (by omega)
      have q2 := q2 (by omega) (by omega)
      refine w_aload_n dX10_copy_17 rfl ?_
      refine w_getR (r := 239) dX10_copy_18 fl10_7 g0_238 (by decide) rfl ?_
      refine w_iload_n dX10_copy_21 rfl ?_
      refine r_ild dX10_copy_22 g0_239 (by decide) (by omega) (by omega) (by decide) (fun r22 => ?_)
      refine w_if_lt (tgt := 35) dX10_copy_23 (by decide) (by omega) (fun h23 => ?_) (fun h23 => ?_)
      · refine w_aload_n dX10_copy_35 rfl ?_
        refine w_iconst dX10_copy_36 ?_
        refine cVm dX10_copy_37 ok_X10_finds lv10_61 (c_X10_finds (by omega)) rfl (congrArg Prod.fst g0_238) (by decide) (by decide) rfl (by decide) (Nat.le_of_ble_eq_true rfl) (fun r37 => ?_)
        refine w_iret dX10_copy_40 rfl (by omega) ?_ ⟨Nat.le_refl _, Nat.le_refl _⟩
        exact (q_x (KM.find hI (Lo.refl M) (by unfold copyR; ((repeat (first | rw [if_pos (by omega)] | rw [if_neg (by omega)])) <;> rfl))))
      · refine w_aload_n dX10_copy_26 rfl ?_
        refine w_getR (r := 239) dX10_copy_27 fl10_7 g0_238 (by decide) rfl ?_
        refine w_iload_n dX10_copy_30 rfl ?_
        refine r_ild dX10_copy_31 g0_239 (by decide) (by omega) (by omega) (by decide) (fun r31 => ?_)
        refine w_if_ge (tgt := 41) dX10_copy_32 (by decide) (by omega) (fun h32 => ?_) (fun h32 => ?_)
        · refine w_aload_n dX10_copy_41 rfl ?_
          refine w_getR (r := 239) dX10_copy_42 fl10_7 g0_238 (by decide) rfl ?_
          refine w_iload_n dX10_copy_45 rfl ?_
          refine r_ild dX10_copy_46 g0_239 (by decide) (by omega) (by omega) (by decide) (fun r46 => ?_)
          refine w_aload_n dX10_copy_47 rfl ?_
          refine w_getR (r := 239) dX10_copy_48 fl10_7 g0_238 (by decide) rfl ?_
          refine w_iload_n dX10_copy_51 rfl ?_
          refine r_ild dX10_copy_52 g0_239 (by decide) (by omega) (by omega) (by decide) (fun r52 => ?_)
          refine w_icmp_eq (tgt := 62) dX10_copy_53 (by decide) (by omega) (by omega) (fun h53 => ?_) (fun h53 => ?_)
          · refine w_aload_n dX10_copy_62 rfl ?_
            refine w_iload_n dX10_copy_63 rfl ?_
            refine w_iload_n dX10_copy_64 rfl ?_
            refine w_iload dX10_copy_65 rfl ?_
            refine cVm dX10_copy_67 ok_X10_isPart lv10_68 (c_X10_isPart (by omega) (by omega) (by omega) (by omega)) rfl (congrArg Prod.fst g0_238) (by decide) (by decide) rfl (by decide) (Nat.le_of_ble_eq_true rfl) (fun r67 => ?_)
            refine w_ifB_eq (tgt := 85) dX10_copy_70 (by decide) (fun h70 => ?_) (fun h70 => ?_)
            · (first | replace h70 := of_decide_eq_true h70 | replace h70 := of_decide_eq_false h70 | skip)
              refine w_aload_n dX10_copy_85 rfl ?_
              refine w_iconst dX10_copy_86 ?_
              refine cVm dX10_copy_87 ok_X10_finds lv10_61 (c_X10_finds (by omega)) rfl (congrArg Prod.fst g0_238) (by decide) (by decide) rfl (by decide) (Nat.le_of_ble_eq_true rfl) (fun r87 => ?_)
              refine w_iret dX10_copy_90 rfl (by omega) ?_ ⟨Nat.le_refl _, Nat.le_refl _⟩
              exact (q_x (KM.find hI (Lo.refl M) (by unfold copyR; ((repeat (first | rw [if_pos (by omega)] | rw [if_neg (by omega)])) <;> rfl))))
            · (first | replace h70 := of_decide_eq_true h70 | replace h70 := of_decide_eq_false h70 | skip)
              refine w_aload_n dX10_copy_73 rfl ?_
              refine w_iload_n dX10_copy_74 rfl ?_
              refine w_iload dX10_copy_75 rfl ?_
              refine w_iload dX10_copy_77 rfl ?_
              refine cVm dX10_copy_79 ok_X10_isPart lv10_68 (c_X10_isPart (by omega) (by omega) (by omega) (by omega)) rfl (congrArg Prod.fst g0_238) (by decide) (by decide) rfl (by decide) (Nat.le_of_ble_eq_true rfl) (fun r79 => ?_)
              refine w_ifB_ne (tgt := 91) dX10_copy_82 (by decide) (fun h82 => ?_) (fun h82 => ?_)
              · (first | replace h82 := of_decide_eq_true h82 | replace h82 := of_decide_eq_false h82 | skip)
                refine w_iconst dX10_copy_91 ?_
                refine w_istore dX10_copy_92 (by decide) ?_
                refine l_X10_copyA (by omega) (by omega) (by omega) (by omega) (by omega) (by omega) (by omega) ?_ (n.toNat + 1) 0 _ _ rfl (cp_none _ _ _ _ _).symm (by omega) (by omega)
                refine w_iconst dX10_copy_128 ?_
                refine w_istore dX10_copy_129 (by decide) ?_
                refine l_X10_copyB (by omega) (by omega) (by omega) (by omega) (by omega) (by omega) (by omega) ?_ (n.toNat + 1) 0 _ _ rfl (cp_none _ _ _ _ _).symm (by omega) (by omega)
                refine w_aload_n dX10_copy_166 rfl ?_
                refine w_iload dX10_copy_167 rfl ?_
                refine cVm dX10_copy_169 ok_X10_well lv10_65 (c_X10_well (by omega)) rfl (congrArg Prod.fst g0_238) (by decide) (by decide) rfl (by decide) (Nat.le_of_ble_eq_true rfl) (fun r83 => ?_)
                refine w_iret dX10_copy_172 rfl (by omega) ?_ ⟨Nat.le_refl _, Nat.le_refl _⟩
                exact (q_x (KM.find key.1 key.2 (by unfold copyR; ((repeat (first | rw [if_pos (by omega)] | rw [if_neg (by omega)])) <;> rfl))))
              · (first | replace h82 := of_decide_eq_true h82 | replace h82 := of_decide_eq_false h82 | skip)
                refine w_aload_n dX10_copy_85 rfl ?_
                refine w_iconst dX10_copy_86 ?_
                refine cVm dX10_copy_87 ok_X10_finds lv10_61 (c_X10_finds (by omega)) rfl (congrArg Prod.fst g0_238) (by decide) (by decide) rfl (by decide) (Nat.le_of_ble_eq_true rfl) (fun r87 => ?_)
                refine w_iret dX10_copy_90 rfl (by omega) ?_ ⟨Nat.le_refl _, Nat.le_refl _⟩
                exact (q_x (KM.find hI (Lo.refl M) (by unfold copyR; ((repeat (first | rw [if_pos (by omega)] | rw [if_neg (by omega)])) <;> rfl))))
          · refine w_aload_n dX10_copy_56 rfl ?_
            refine w_iconst dX10_copy_57 ?_
            refine cVm dX10_copy_58 ok_X10_finds lv10_61 (c_X10_finds (by omega)) rfl (congrArg Prod.fst g0_238) (by decide) (by decide) rfl (by decide) (Nat.le_of_ble_eq_true rfl) (fun r58 => ?_)
            refine w_iret dX10_copy_61 rfl (by omega) ?_ ⟨Nat.le_refl _, Nat.le_refl _⟩
            exact (q_x (KM.find hI (Lo.refl M) (by unfold copyR; ((repeat (first | rw [if_pos (by omega)] | rw [if_neg (by omega)])) <;> rfl))))
        · refine w_aload_n dX10_copy_35 rfl ?_
          refine w_iconst dX10_copy_36 ?_
          refine cVm dX10_copy_37 ok_X10_finds lv10_61 (c_X10_finds (by omega)) rfl (congrArg Prod.fst g0_238) (by decide) (by decide) rfl (by decide) (Nat.le_of_ble_eq_true rfl) (fun r37 => ?_)
          refine w_iret dX10_copy_40 rfl (by omega) ?_ ⟨Nat.le_refl _, Nat.le_refl _⟩
          exact (q_x (KM.find hI (Lo.refl M) (by unfold copyR; ((repeat (first | rw [if_pos (by omega)] | rw [if_neg (by omega)])) <;> rfl))))
    · (first | replace h11 := of_decide_eq_true h11 | replace h11 := of_decide_eq_false h11 | skip)
      refine w_ldc dX10_copy_14 co10_60 ?_
      refine w_iret dX10_copy_16 rfl (by omega) ?_ ⟨Nat.le_refl _, Nat.le_refl _⟩
      exact (q_x (KM.stay hI (by unfold copyR; ((repeat (first | rw [if_pos (by omega)] | rw [if_neg (by omega)])) <;> rfl))))
theorem c_X10_feed {E : EV} {M : MM} {p : PS} {l : Int} (hI : MI M p) (hP : POK p) (hl : R32 l) : Cx E mX10_feed 9 [vr 238, vi l] M (KM M (feedR p l)) := by
  refine Ct.of [some (vr 238), some (vi l)] rfl rfl rfl (Nat.le_of_ble_eq_true rfl) ?_
  have ht := hP.ht
  have e1 := hI.tn
  have e9 : ∀ v, upM M 245 v l 238 8 = M 238 8 := fun v => by rw [upM_cell (by omega)]
  have key : MI (upM (upM M 245 (M 238 8) l) 238 8 (upM M 245 (M 238 8) l 238 8 + 1)) (⟨p.ln, p.sz, p.it, p.tn + 1, upS p.tp p.tn l, p.S, p.u, p.U, p.fl, p.I, p.lf, p.fd, p.tr, p.tb⟩ : PS) ∧ Lo M (upM (upM M 245 (M 238 8) l) 238 8 (upM M 245 (M 238 8) l 238 8 + 1)) := by
    rw [e9, e1]
    refine ⟨hI.tape (fun i a b c d e => by rw [upM_cell (by omega), upM_cell b]) (fun k _ h => by rw [upM_ne (fun w => h w.2), upM_cell (by omega)]) (by rw [upM_same]) ?_, fun i hi => by rw [upM_cell (by omega), upM_cell (by omega)]⟩
    rw [upM_cell (by omega)]
    funext q
    rw [upS_at]
    by_cases e : q = p.tn
    · rw [e, upM_same, if_pos rfl]
    · rw [upM_ne (fun w => e w.2), if_neg e, hI.tp]
  refine w_iload_n dX10_feed_0 rfl ?_
  refine w_i2l dX10_feed_1 (by omega) ?_
  refine w_lconst0 dX10_feed_2 ?_
  refine w_ldc2 dX10_feed_3 cl10_72 ?_
  refine cSm dX10_feed_6 ok_X10_in (Or.inl ls10_50) (c_X10_in (by omega) (by omega) (by omega)) rfl  rfl (by decide) (Nat.le_of_ble_eq_true rfl) (fun r6 => ?_)
  refine w_ifB_ne (tgt := 15) dX10_feed_9 (by decide) (fun h9 => ?_) (fun h9 => ?_)
  · (first | replace h9 := of_decide_eq_true h9 | replace h9 := of_decide_eq_false h9 | skip)
    refine w_aload_n dX10_feed_15 rfl ?_
    refine r_getI (q := 8) dX10_feed_16 fl10_74 g0_238 (by decide) rfl (by decide) rfl (fun r16 => ?_)
    refine w_bipush dX10_feed_19 (by decide +kernel) ?_
    refine w_icmp_ne (tgt := 27) dX10_feed_21 (by decide) (by omega) (by omega) (fun h21 => ?_) (fun h21 => ?_)
    · refine w_aload_n dX10_feed_27 rfl ?_
      refine w_getR (r := 245) dX10_feed_28 fl10_28 g0_238 (by decide) rfl ?_
      refine w_aload_n dX10_feed_31 rfl ?_
      refine r_getI (q := 8) dX10_feed_32 fl10_74 g0_238 (by decide) rfl (by decide) rfl (fun r32 => ?_)
      refine w_iload_n dX10_feed_35 rfl ?_
      refine r_ist dX10_feed_36 g0_245 (by decide) (by omega) (by omega) (by omega) (by decide) ?_
      refine w_aload_n dX10_feed_37 rfl ?_
      refine w_dup dX10_feed_38 rfl ?_
      refine r_getI (q := 8) dX10_feed_39 fl10_74 g0_238 (by decide) rfl (by decide) rfl (fun r39 => ?_)
      refine w_iconst dX10_feed_42 ?_
      refine w_iadd dX10_feed_43 ?_
      have e8 := e9 (M 238 8)
      refine r_putI (q := 8) dX10_feed_44 fl10_74 g0_238 (by decide) rfl (by decide) (by omega) rfl (by decide +kernel) rfl ?_
      refine w_aload_n dX10_feed_47 rfl ?_
      refine r_getI (q := 8) dX10_feed_48 fl10_74 g0_238 (by decide) rfl (by decide) rfl (fun r48 => ?_)
      refine w_iret dX10_feed_51 rfl (by omega) ?_ ⟨Nat.le_refl _, Nat.le_refl _⟩
      exact (q_x (by unfold feedR; (repeat (first | rw [if_pos (by omega)] | rw [if_neg (by omega)])); exact ⟨by rw [upM_same, e8, e1], key⟩))
    · refine w_ldc dX10_feed_24 co10_77 ?_
      refine w_iret dX10_feed_26 rfl (by omega) ?_ ⟨Nat.le_refl _, Nat.le_refl _⟩
      exact (q_x (KM.stay hI (by unfold feedR; ((repeat (first | rw [if_pos (by omega)] | rw [if_neg (by omega)])) <;> rfl))))
  · (first | replace h9 := of_decide_eq_true h9 | replace h9 := of_decide_eq_false h9 | skip)
    refine w_ldc dX10_feed_12 co10_60 ?_
    refine w_iret dX10_feed_14 rfl (by omega) ?_ ⟨Nat.le_refl _, Nat.le_refl _⟩
    exact (q_x (KM.stay hI (by unfold feedR; ((repeat (first | rw [if_pos (by omega)] | rw [if_neg (by omega)])) <;> rfl))))
theorem POK_row {p : PS} (h : POK p) (r l n : Int) : POK (rowR p r l n).2 := by
  unfold rowR
  split
  · split
    · exact h.find 4
    · refine ⟨fun s a b => ?_, h.ht, h.hs, h.hu, h.hU, h.h0, h.hI, h.hr⟩
      have := h.hl s a b
      show (-1 ≤ upS p.ln r l s ∧ upS p.ln r l s ≤ 2) ∧ 0 ≤ upS p.sz r n s ∧ upS p.sz r n s ≤ 40
      rw [upS_at, upS_at]
      by_cases e : s = r
      · rw [if_pos e, if_pos e]; omega
      · rw [if_neg e, if_neg e]; exact this
  · exact h
theorem POK_set {p : PS} (h : POK p) (r i v : Int) : POK (setR p r i v).2 := by
  unfold setR
  split
  · split
    · exact h.find 1
    · split
      · exact ⟨h.hl, h.ht, h.hs, h.hu, h.hU, h.h0, h.hI, h.hr⟩
      · exact h.find 2
  · exact h
theorem POK_copy {p : PS} (h : POK p) (a i b j n : Int) : POK (copyR p a i b j n).2 := by
  unfold copyR
  split
  · split
    · exact h.find 1
    · split
      · exact h.find 5
      · split
        · exact ⟨h.hl, h.ht, h.hs, h.hu, h.hU, h.h0, h.hI, h.hr⟩
        · exact h.find 2
  · exact h
theorem POK_drop {p : PS} (h : POK p) (r : Int) : POK (dropR p r).2 := by
  unfold dropR
  split
  · split
    · exact h.find 1
    · refine ⟨fun s a b => ?_, h.ht, h.hs, h.hu, h.hU, h.h0, h.hI, h.hr⟩
      have := h.hl s a b
      show (-1 ≤ upS p.ln r (-1) s ∧ upS p.ln r (-1) s ≤ 2) ∧ 0 ≤ p.sz s ∧ p.sz s ≤ 40
      rw [upS_at]
      by_cases e : s = r
      · rw [if_pos e]; omega
      · rw [if_neg e]; exact this
  · exact h
theorem POK_feed {p : PS} (h : POK p) (l : Int) : POK (feedR p l).2 := by
  unfold feedR
  have := h.ht
  split
  · split
    · exact h
    · exact ⟨h.hl, (show 0 ≤ p.tn + 1 ∧ p.tn + 1 ≤ 100 by omega), h.hs, h.hu, h.hU, h.h0, h.hI, h.hr⟩
  · exact h
