/-! ===== the reference: what is foretold ===== -/
theorem MI.back {M m : MM} {p : PS} {T : SS} (h : MI M p) (hP : POK p) (hF : FrN (cpM M 243 247 0 0 45) m) (oT : OUT T) (hm : ∀ q, m 243 q = T q) : MI (cpM m 247 243 0 0 45) p ∧ Lo M (cpM m 247 243 0 0 45) := by
  have e9 : ∀ i : Nat, i ≠ 243 → i ≠ 247 → cpM m 247 243 0 0 45 i = M i := fun i a b => by rw [cpM_cell a, hF i a, cpM_cell b]
  refine ⟨h.same (fun i a b c d => ?_) (fun k _ => by rw [e9 238 (by omega) (by omega)]), fun i hi => e9 i (by omega) (by omega)⟩
  by_cases e : i = 243
  · subst e
    rw [back_eq h.S hP.hs.1 oT hm (hF 247 (by omega)), h.S]
  · exact e9 i e d
theorem FrN.as {M : MM} : ∀ q, cpM M 243 247 0 0 45 243 q = M 243 q := fun q => by rw [cpM_cell (by omega)]
theorem as_at {M m : MM} (hF : FrN (cpM M 243 247 0 0 45) m) {q : Int} (q0 : 0 ≤ q) (q1 : q < 45) : m 247 q = M 243 q := by
  rw [hF 247 (by omega)]
  unfold cpM
  rw [if_pos ⟨rfl, by omega, by omega⟩]
  congr 1
  omega
theorem KM.back {M m : MM} {p : PS} {T : SS} {z z' : Int} {r : Int × PS} (h : MI M p) (hP : POK p) (hF : FrN (cpM M 243 247 0 0 45) m) (oT : OUT T) (hm : ∀ q, m 243 q = T q) (hz : z = z') (hr : (z', p) = r) : KM M r z (cpM m 247 243 0 0 45) := by
  subst hz
  subst hr
  exact ⟨rfl, h.back hP hF oT hm⟩
theorem c_X10_ahead {E : EV} {M : MM} {p : PS} {c n w : Int} (hI : MI M p) (hP : POK p) (hc : R32 c) (hn9 : R32 n) (hw : R32 w) : Cx E mX10_ahead 9 [vr 238, vi c, vi n, vi w] M (KM M (aheadR p c n w)) := by
  refine Ct.of [some (vr 238), some (vi c), some (vi n), some (vi w), none] rfl rfl rfl (Nat.le_of_ble_eq_true rfl) ?_
  have hn := hP.hs.n
  have hd := hP.hs.d
  have e0 := hI.sq 0
  have oT := OUT_dys hn.2 hP.hs.1 n.toNat
  have z1 := zr_dys hn.2 n.toNat (q := 7 + 5 * c)
  have z2 := zr_dys hn.2 n.toNat (q := 5 + 5 * c)
  have z3 := zr_dys hn.2 n.toNat (q := 6 + 5 * c)
  refine w_aload_n dX10_ahead_0 rfl ?_
  refine w_iload_n dX10_ahead_1 rfl ?_
  refine cVm dX10_ahead_2 ok_X10_isCloud lv10_156 (c_X10_isCloud (by omega) (by omega)) rfl (congrArg Prod.fst g0_238) (by decide) (by decide) rfl (by decide) (Nat.le_of_ble_eq_true rfl) (fun r2 => ?_)
  refine w_ifB_eq (tgt := 30) dX10_ahead_5 (by decide) (fun h5 => ?_) (fun h5 => ?_)
  · (first | replace h5 := of_decide_eq_true h5 | replace h5 := of_decide_eq_false h5 | skip)
    refine w_ldc dX10_ahead_30 co10_60 ?_
    refine w_iret dX10_ahead_32 rfl (by omega) ?_ ⟨Nat.le_refl _, Nat.le_refl _⟩
    exact (q_x (KM.stay hI (by unfold aheadR; ((repeat (first | rw [if_pos (by omega)] | rw [if_neg (by omega)])) <;> rfl))))
  · (first | replace h5 := of_decide_eq_true h5 | replace h5 := of_decide_eq_false h5 | skip)
    refine w_iload_n dX10_ahead_8 rfl ?_
    refine w_i2l dX10_ahead_9 (by omega) ?_
    refine w_lconst0 dX10_ahead_10 ?_
    refine w_ldc2 dX10_ahead_11 cl10_169 ?_
    refine cSm dX10_ahead_14 ok_X10_in (Or.inl ls10_50) (c_X10_in (by omega) (by omega) (by omega)) rfl  rfl (by decide) (Nat.le_of_ble_eq_true rfl) (fun r14 => ?_)
    refine w_ifB_eq (tgt := 30) dX10_ahead_17 (by decide) (fun h17 => ?_) (fun h17 => ?_)
    · (first | replace h17 := of_decide_eq_true h17 | replace h17 := of_decide_eq_false h17 | skip)
      refine w_ldc dX10_ahead_30 co10_60 ?_
      refine w_iret dX10_ahead_32 rfl (by omega) ?_ ⟨Nat.le_refl _, Nat.le_refl _⟩
      exact (q_x (KM.stay hI (by unfold aheadR; ((repeat (first | rw [if_pos (by omega)] | rw [if_neg (by omega)])) <;> rfl))))
    · (first | replace h17 := of_decide_eq_true h17 | replace h17 := of_decide_eq_false h17 | skip)
      refine w_iload_n dX10_ahead_20 rfl ?_
      refine w_i2l dX10_ahead_21 (by omega) ?_
      refine w_lconst0 dX10_ahead_22 ?_
      refine w_lconst1 dX10_ahead_23 ?_
      refine cSm dX10_ahead_24 ok_X10_in (Or.inl ls10_50) (c_X10_in (by omega) (by omega) (by omega)) rfl  rfl (by decide) (Nat.le_of_ble_eq_true rfl) (fun r24 => ?_)
      refine w_ifB_ne (tgt := 33) dX10_ahead_27 (by decide) (fun h27 => ?_) (fun h27 => ?_)
      · (first | replace h27 := of_decide_eq_true h27 | replace h27 := of_decide_eq_false h27 | skip)
        refine w_aload_n dX10_ahead_33 rfl ?_
        refine cVv dX10_ahead_34 ok_X10_asides lv10_171 c_X10_asides rfl (congrArg Prod.fst g0_238) (by decide) (by decide) rfl (by decide) (Nat.le_of_ble_eq_true rfl) ?_
        refine w_aload_n dX10_ahead_37 rfl ?_
        refine w_iload_n dX10_ahead_38 rfl ?_
        refine cVxv dX10_ahead_39 ok_X10_goes lv10_174 (c_X10_goes (S := p.S) (fun q => by rw [FrN.as, hI.S]) hP.hs.ok (by omega) (by omega) (by omega) (by omega)) rfl (congrArg Prod.fst g0_238) (by decide) (by decide) rfl (by decide) (Nat.le_of_ble_eq_true rfl) (fun m39 p39 => ?_)
        have k1 := p39.1 (7 + 5 * c)
        have k2 := p39.1 (5 + 5 * c)
        have k3 := p39.1 (6 + 5 * c)
        have z1 := z1 (by omega)
        have z2 := z2 (by omega)
        have z3 := z3 (by omega)
        refine w_aload_n dX10_ahead_42 rfl ?_
        refine w_iload_n dX10_ahead_43 rfl ?_
        refine cVm dX10_ahead_44 ok_X10_isGone lv10_129 (c_X10_isGone (by omega) (by omega)) rfl (congrArg Prod.fst g0_238) (by decide) (by decide) rfl (by decide) (Nat.le_of_ble_eq_true rfl) (fun r44 => ?_)
        refine w_ifB_eq (tgt := 55) dX10_ahead_47 (by decide) (fun h47 => ?_) (fun h47 => ?_)
        · (first | replace h47 := of_decide_eq_true h47 | replace h47 := of_decide_eq_false h47 | skip)
          refine w_aload_n dX10_ahead_55 rfl ?_
          refine w_iload_n dX10_ahead_56 rfl ?_
          refine w_iload_n dX10_ahead_57 rfl ?_
          refine w_iconst dX10_ahead_58 ?_
          refine w_iadd dX10_ahead_59 ?_
          have k4 : m39 243 (4 + 5 * c + (w + 1)) = (if dysF (zr p.S) n.toNat (7 + 5 * c) = 0 then -1000000 else if w = 0 then dysF (zr p.S) n.toNat (5 + 5 * c) else dysF (zr p.S) n.toNat (6 + 5 * c)) := if e : w = 0 then (by rw [if_neg (by omega), if_pos e, z2, ← k2, e]; congr 1; omega) else (by rw [if_neg (by omega), if_neg e, z3, ← k3, show w = 1 by omega]; congr 1; omega)
          refine cVm dX10_ahead_60 ok_X10_of lv10_126 (c_X10_of (q := 4 + 5 * c + (w + 1)) (by omega) (by omega) (by omega)) rfl (congrArg Prod.fst g0_238) (by decide) (by decide) rfl (by decide) (Nat.le_of_ble_eq_true rfl) (fun r60 => ?_)
          refine w_istore dX10_ahead_63 (by decide) ?_
          refine w_aload_n dX10_ahead_65 rfl ?_
          refine cVv dX10_ahead_66 ok_X10_backs lv10_178 c_X10_backs rfl (congrArg Prod.fst g0_238) (by decide) (by decide) rfl (by decide) (Nat.le_of_ble_eq_true rfl) ?_
          refine w_iload dX10_ahead_69 rfl ?_
          refine w_iret dX10_ahead_71 rfl (by omega) ?_ ⟨Nat.le_refl _, Nat.le_refl _⟩
          first | (refine q_x (KM.back hI hP p39.2 oT p39.1 rfl ?_); unfold aheadR; ((repeat (first | rw [if_pos (by omega)] | rw [if_neg (by omega)])) <;> rfl)) | (refine q_x (KM.back hI hP p39.2 oT p39.1 k4 ?_); unfold aheadR; exact (if_pos (by omega)).symm)
        · (first | replace h47 := of_decide_eq_true h47 | replace h47 := of_decide_eq_false h47 | skip)
          refine w_ldc dX10_ahead_50 co10_177 ?_
          refine w_goto (tgt := 63) dX10_ahead_52 (by decide) ?_
          refine w_istore dX10_ahead_63 (by decide) ?_
          refine w_aload_n dX10_ahead_65 rfl ?_
          refine cVv dX10_ahead_66 ok_X10_backs lv10_178 c_X10_backs rfl (congrArg Prod.fst g0_238) (by decide) (by decide) rfl (by decide) (Nat.le_of_ble_eq_true rfl) ?_
          refine w_iload dX10_ahead_69 rfl ?_
          refine w_iret dX10_ahead_71 rfl (by omega) ?_ ⟨Nat.le_refl _, Nat.le_refl _⟩
          first | (refine q_x (KM.back hI hP p39.2 oT p39.1 rfl ?_); unfold aheadR; ((repeat (first | rw [if_pos (by omega)] | rw [if_neg (by omega)])) <;> rfl)) | (refine q_x (KM.back hI hP p39.2 oT p39.1 k4 ?_); unfold aheadR; exact (if_pos (by omega)).symm)
      · (first | replace h27 := of_decide_eq_true h27 | replace h27 := of_decide_eq_false h27 | skip)
        refine w_ldc dX10_ahead_30 co10_60 ?_
        refine w_iret dX10_ahead_32 rfl (by omega) ?_ ⟨Nat.le_refl _, Nat.le_refl _⟩
        exact (q_x (KM.stay hI (by unfold aheadR; ((repeat (first | rw [if_pos (by omega)] | rw [if_neg (by omega)])) <;> rfl))))
theorem over_zr {S : SS} (hn : 0 ≤ S 0 ∧ S 0 ≤ 5) (n f : Nat) : overF (dysF (zr S) n) f = overF (dysF S n) f := by
  unfold overF
  have e0 : dysF (zr S) n 0 = dysF S n 0 := zr_dys hn.2 n (by omega)
  have e1 : dysF S n 0 = S 0 := dysF_low (by omega) n
  rw [e0]
  refine setN_congr (fun c hc => ?_)
  unfold shF
  rw [zr_dys hn.2 n (by omega), zr_dys hn.2 n (by omega), zr_dys hn.2 n (by omega)]
theorem c_X10_over {E : EV} {M : MM} {p : PS} {f n : Int} (hI : MI M p) (hP : POK p) (hf : R32 f) (hn9 : R32 n) : Cx E mX10_over 9 [vr 238, vi f, vi n] M (KM M (overR p f n)) := by
  refine Ct.of [some (vr 238), some (vi f), some (vi n), none] rfl rfl rfl (Nat.le_of_ble_eq_true rfl) ?_
  have hs := hI.sn
  have hn := hP.hs.n
  have hd := hP.hs.d
  have oT := OUT_dys hn.2 hP.hs.1 n.toNat
  refine w_aload_n dX10_over_0 rfl ?_
  refine r_getI (q := 13) dX10_over_1 fl10_117 g0_238 (by decide) rfl (by decide) rfl (fun r1 => ?_)
  refine w_if_ne (tgt := 10) dX10_over_4 (by decide) (by omega) (fun h4 => ?_) (fun h4 => ?_)
  · refine w_iload_n dX10_over_10 rfl ?_
    refine cSm dX10_over_11 ok_X10_isField (Or.inl ls10_163) (c_X10_isField (by omega)) rfl  rfl (by decide) (Nat.le_of_ble_eq_true rfl) (fun r11 => ?_)
    refine w_ifB_eq (tgt := 29) dX10_over_14 (by decide) (fun h14 => ?_) (fun h14 => ?_)
    · (first | replace h14 := of_decide_eq_true h14 | replace h14 := of_decide_eq_false h14 | skip)
      refine w_ldc dX10_over_29 co10_60 ?_
      refine w_iret dX10_over_31 rfl (by omega) ?_ ⟨Nat.le_refl _, Nat.le_refl _⟩
      exact (q_x (KM.stay hI (by unfold overR; ((repeat (first | rw [if_pos (by omega)] | rw [if_neg (by omega)])) <;> rfl))))
    · (first | replace h14 := of_decide_eq_true h14 | replace h14 := of_decide_eq_false h14 | skip)
      refine w_iload_n dX10_over_17 rfl ?_
      refine w_i2l dX10_over_18 (by omega) ?_
      refine w_lconst0 dX10_over_19 ?_
      refine w_ldc2 dX10_over_20 cl10_169 ?_
      refine cSm dX10_over_23 ok_X10_in (Or.inl ls10_50) (c_X10_in (by omega) (by omega) (by omega)) rfl  rfl (by decide) (Nat.le_of_ble_eq_true rfl) (fun r23 => ?_)
      refine w_ifB_ne (tgt := 32) dX10_over_26 (by decide) (fun h26 => ?_) (fun h26 => ?_)
      · (first | replace h26 := of_decide_eq_true h26 | replace h26 := of_decide_eq_false h26 | skip)
        refine w_aload_n dX10_over_32 rfl ?_
        refine cVv dX10_over_33 ok_X10_asides lv10_171 c_X10_asides rfl (congrArg Prod.fst g0_238) (by decide) (by decide) rfl (by decide) (Nat.le_of_ble_eq_true rfl) ?_
        refine w_aload_n dX10_over_36 rfl ?_
        refine w_iload_n dX10_over_37 rfl ?_
        refine cVxv dX10_over_38 ok_X10_goes lv10_174 (c_X10_goes (S := p.S) (fun q => by rw [FrN.as, hI.S]) hP.hs.ok (by omega) (by omega) (by omega) (by omega)) rfl (congrArg Prod.fst g0_238) (by decide) (by decide) rfl (by decide) (Nat.le_of_ble_eq_true rfl) (fun m38 p38 => ?_)
        have eT : m38 243 = dysF p.S n.toNat := funext p38.1
        refine w_aload_n dX10_over_41 rfl ?_
        refine w_iload_n dX10_over_42 rfl ?_
        refine cVm dX10_over_43 ok_X10_clouds lv10_166 (c_X10_clouds (by rw [eT]; exact SOK_dys hP.hs.ok n.toNat) (by omega) (by omega)) rfl (congrArg Prod.fst g0_238) (by decide) (by decide) rfl (by decide) (Nat.le_of_ble_eq_true rfl) (fun r43 => ?_)
        refine w_istore_n dX10_over_46 (by decide) ?_
        refine w_aload_n dX10_over_47 rfl ?_
        refine cVv dX10_over_48 ok_X10_backs lv10_178 c_X10_backs rfl (congrArg Prod.fst g0_238) (by decide) (by decide) rfl (by decide) (Nat.le_of_ble_eq_true rfl) ?_
        refine w_iload_n dX10_over_51 rfl ?_
        refine w_iret dX10_over_52 rfl (by omega) ?_ ⟨Nat.le_refl _, Nat.le_refl _⟩
        exact (q_x (KM.back hI hP p38.2 oT p38.1 (show _ = ((overF (dysF (zr p.S) n.toNat) f.toNat : Nat) : Int) from by rw [eT, over_zr hn]) (by unfold overR; ((repeat (first | rw [if_pos (by omega)] | rw [if_neg (by omega)])) <;> rfl))))
      · (first | replace h26 := of_decide_eq_true h26 | replace h26 := of_decide_eq_false h26 | skip)
        refine w_ldc dX10_over_29 co10_60 ?_
        refine w_iret dX10_over_31 rfl (by omega) ?_ ⟨Nat.le_refl _, Nat.le_refl _⟩
        exact (q_x (KM.stay hI (by unfold overR; ((repeat (first | rw [if_pos (by omega)] | rw [if_neg (by omega)])) <;> rfl))))
  · refine w_ldc dX10_over_7 co10_144 ?_
    refine w_iret dX10_over_9 rfl (by omega) ?_ ⟨Nat.le_refl _, Nat.le_refl _⟩
    exact (q_x (KM.stay hI (by unfold overR; ((repeat (first | rw [if_pos (by omega)] | rw [if_neg (by omega)])) <;> rfl))))
theorem c_X10_falls {E : EV} {M : MM} {p : PS} {f n : Int} (hI : MI M p) (hP : POK p) (hf : R32 f) (hn9 : R32 n) : Cx E mX10_falls 9 [vr 238, vi f, vi n] M (KM M (fallsR p f n)) := by
  refine Ct.of [some (vr 238), some (vi f), some (vi n), none] rfl rfl rfl (Nat.le_of_ble_eq_true rfl) ?_
  have hs := hI.sn
  have hn := hP.hs.n
  have hd := hP.hs.d
  have oT := OUT_dys hn.2 hP.hs.1 n.toNat
  refine w_aload_n dX10_falls_0 rfl ?_
  refine r_getI (q := 13) dX10_falls_1 fl10_117 g0_238 (by decide) rfl (by decide) rfl (fun r1 => ?_)
  refine w_if_ne (tgt := 10) dX10_falls_4 (by decide) (by omega) (fun h4 => ?_) (fun h4 => ?_)
  · refine w_iload_n dX10_falls_10 rfl ?_
    refine cSm dX10_falls_11 ok_X10_isField (Or.inl ls10_163) (c_X10_isField (by omega)) rfl  rfl (by decide) (Nat.le_of_ble_eq_true rfl) (fun r11 => ?_)
    refine w_ifB_eq (tgt := 29) dX10_falls_14 (by decide) (fun h14 => ?_) (fun h14 => ?_)
    · (first | replace h14 := of_decide_eq_true h14 | replace h14 := of_decide_eq_false h14 | skip)
      refine w_ldc dX10_falls_29 co10_60 ?_
      refine w_iret dX10_falls_31 rfl (by omega) ?_ ⟨Nat.le_refl _, Nat.le_refl _⟩
      exact (q_x (KM.stay hI (by unfold fallsR; ((repeat (first | rw [if_pos (by omega)] | rw [if_neg (by omega)])) <;> rfl))))
    · (first | replace h14 := of_decide_eq_true h14 | replace h14 := of_decide_eq_false h14 | skip)
      refine w_iload_n dX10_falls_17 rfl ?_
      refine w_i2l dX10_falls_18 (by omega) ?_
      refine w_lconst0 dX10_falls_19 ?_
      refine w_ldc2 dX10_falls_20 cl10_169 ?_
      refine cSm dX10_falls_23 ok_X10_in (Or.inl ls10_50) (c_X10_in (by omega) (by omega) (by omega)) rfl  rfl (by decide) (Nat.le_of_ble_eq_true rfl) (fun r23 => ?_)
      refine w_ifB_ne (tgt := 32) dX10_falls_26 (by decide) (fun h26 => ?_) (fun h26 => ?_)
      · (first | replace h26 := of_decide_eq_true h26 | replace h26 := of_decide_eq_false h26 | skip)
        refine w_aload_n dX10_falls_32 rfl ?_
        refine cVv dX10_falls_33 ok_X10_asides lv10_171 c_X10_asides rfl (congrArg Prod.fst g0_238) (by decide) (by decide) rfl (by decide) (Nat.le_of_ble_eq_true rfl) ?_
        refine w_aload_n dX10_falls_36 rfl ?_
        refine w_iload_n dX10_falls_37 rfl ?_
        refine cVxv dX10_falls_38 ok_X10_goes lv10_174 (c_X10_goes (S := p.S) (fun q => by rw [FrN.as, hI.S]) hP.hs.ok (by omega) (by omega) (by omega) (by omega)) rfl (congrArg Prod.fst g0_238) (by decide) (by decide) rfl (by decide) (Nat.le_of_ble_eq_true rfl) (fun m38 p38 => ?_)
        have k1 := p38.1 (29 + f)
        have k2 : m38 247 (29 + f) = p.S (29 + f) := by rw [as_at p38.2 (by omega) (by omega), hI.S]
        have b1 := (SOK_dys hP.hs.ok n.toNat).2.2.2.2.2 f (by omega) (by omega)
        have b2 := hP.hs.ok.2.2.2.2.2 f (by omega) (by omega)
        refine w_aload_n dX10_falls_41 rfl ?_
        refine w_getR (r := 243) dX10_falls_42 fl10_22 g0_238 (by decide) rfl ?_
        refine w_bipush dX10_falls_45 (by decide +kernel) ?_
        refine w_iload_n dX10_falls_47 rfl ?_
        refine w_iadd dX10_falls_48 ?_
        refine r_ild dX10_falls_49 g0_243 (by decide) (by omega) (by omega) (by decide) (fun r49 => ?_)
        refine w_aload_n dX10_falls_50 rfl ?_
        refine w_getR (r := 247) dX10_falls_51 fl10_34 g0_238 (by decide) rfl ?_
        refine w_bipush dX10_falls_54 (by decide +kernel) ?_
        refine w_iload_n dX10_falls_56 rfl ?_
        refine w_iadd dX10_falls_57 ?_
        refine r_ild dX10_falls_58 g0_247 (by decide) (by omega) (by omega) (by decide) (fun r58 => ?_)
        refine w_isub dX10_falls_59 ?_
        refine w_istore_n dX10_falls_60 (by decide) ?_
        refine w_aload_n dX10_falls_61 rfl ?_
        refine cVv dX10_falls_62 ok_X10_backs lv10_178 c_X10_backs rfl (congrArg Prod.fst g0_238) (by decide) (by decide) rfl (by decide) (Nat.le_of_ble_eq_true rfl) ?_
        refine w_iload_n dX10_falls_65 rfl ?_
        refine w_iret dX10_falls_66 rfl (by omega) ?_ ⟨Nat.le_refl _, Nat.le_refl _⟩
        exact (q_x (KM.back hI hP p38.2 oT p38.1 (show _ = dysF (zr p.S) n.toNat (29 + f) from by rw [k1, k2, zr_fell hn.2 n.toNat (by omega) (by omega)]) (by unfold fallsR; ((repeat (first | rw [if_pos (by omega)] | rw [if_neg (by omega)])) <;> rfl))))
      · (first | replace h26 := of_decide_eq_true h26 | replace h26 := of_decide_eq_false h26 | skip)
        refine w_ldc dX10_falls_29 co10_60 ?_
        refine w_iret dX10_falls_31 rfl (by omega) ?_ ⟨Nat.le_refl _, Nat.le_refl _⟩
        exact (q_x (KM.stay hI (by unfold fallsR; ((repeat (first | rw [if_pos (by omega)] | rw [if_neg (by omega)])) <;> rfl))))
  · refine w_ldc dX10_falls_7 co10_144 ?_
    refine w_iret dX10_falls_9 rfl (by omega) ?_ ⟨Nat.le_refl _, Nat.le_refl _⟩
    exact (q_x (KM.stay hI (by unfold fallsR; ((repeat (first | rw [if_pos (by omega)] | rw [if_neg (by omega)])) <;> rfl))))
theorem l_X10_dryOnes {E : EV} {M : MM} :
    ∀ (k c : Nat) (z s : Int), z = c → s = ((setN c (fun f => decide (M 243 (29 + (f : Int)) = M 247 (29 + (f : Int)))) : Nat) : Int) → c ≤ 16 → 16 - c < k → Wp E mX10_dryOnes (kd 0) 4 [some (vr 238), some (vi s), some (vi z)] [] N0 G0 M (Pm ((setN 16 (fun f => decide (M 243 (29 + (f : Int)) = M 247 (29 + (f : Int)))) : Nat) : Int) M) := by
  intro k
  induction k with
  | zero => intro c z s hz hs hc hk; exact absurd hk (by omega)
  | succ k ih =>
    intro c z s hz hs hc hk
    subst hz
    subst hs
    have hr := setN_r (P := fun f => decide (M 243 (29 + (f : Int)) = M 247 (29 + (f : Int)))) (n := c) (by omega)
    have tail : c < 16 → ∀ v : Nat, setN (c + 1) (fun f => decide (M 243 (29 + (f : Int)) = M 247 (29 + (f : Int)))) = (setN c (fun f => decide (M 243 (29 + (f : Int)) = M 247 (29 + (f : Int)))) ||| v) → Wp E mX10_dryOnes (kd 0) 39 [some (vr 238), some (vi ((setN c (fun f => decide (M 243 (29 + (f : Int)) = M 247 (29 + (f : Int)))) : Nat) : Int)), some (vi (c : Int))] [vi (v : Int), vi ((setN c (fun f => decide (M 243 (29 + (f : Int)) = M 247 (29 + (f : Int)))) : Nat) : Int)] N0 G0 M (Pm ((setN 16 (fun f => decide (M 243 (29 + (f : Int)) = M 247 (29 + (f : Int)))) : Nat) : Int) M) := by
      intro h16 v hv
      refine w_ibin (r := ((setN c (fun f => decide (M 243 (29 + (f : Int)) = M 247 (29 + (f : Int)))) ||| v : Nat) : Int)) dX10_dryOnes_39 (Or.inr <| Or.inl ⟨rfl, b_or _ _⟩) ?_
      refine w_istore_n dX10_dryOnes_40 (by decide) ?_
      refine w_iinc dX10_dryOnes_41 rfl (by decide) ?_
      refine w_goto (tgt := 4) dX10_dryOnes_44 (by decide) ?_
      exact ih (c + 1) _ _ (by omega) (by rw [hv]) (by omega) (by omega)
    refine w_iload_n dX10_dryOnes_4 rfl ?_
    refine w_bipush dX10_dryOnes_5 (by decide +kernel) ?_
    refine w_icmp_ge (tgt := 47) dX10_dryOnes_7 (by decide) (by omega) (by omega) (fun h7 => ?_) (fun h7 => ?_)
    · have ec : c = 16 := by omega
      subst ec
      refine w_iload_n dX10_dryOnes_47 rfl ?_
      refine w_iret dX10_dryOnes_48 rfl (by omega) ?_ ⟨Nat.le_refl _, Nat.le_refl _⟩
      exact (q_i rfl)
    · refine w_iload_n dX10_dryOnes_10 rfl ?_
      refine w_aload_n dX10_dryOnes_11 rfl ?_
      refine w_getR (r := 243) dX10_dryOnes_12 fl10_22 g0_238 (by decide) rfl ?_
      refine w_bipush dX10_dryOnes_15 (by decide +kernel) ?_
      refine w_iload_n dX10_dryOnes_17 rfl ?_
      refine w_iadd dX10_dryOnes_18 ?_
      refine r_ild dX10_dryOnes_19 g0_243 (by decide) (by omega) (by omega) (by decide) (fun r19 => ?_)
      refine w_aload_n dX10_dryOnes_20 rfl ?_
      refine w_getR (r := 247) dX10_dryOnes_21 fl10_34 g0_238 (by decide) rfl ?_
      refine w_bipush dX10_dryOnes_24 (by decide +kernel) ?_
      refine w_iload_n dX10_dryOnes_26 rfl ?_
      refine w_iadd dX10_dryOnes_27 ?_
      refine r_ild dX10_dryOnes_28 g0_247 (by decide) (by omega) (by omega) (by decide) (fun r28 => ?_)
      refine w_icmp_ne (tgt := 38) dX10_dryOnes_29 (by decide) (by omega) (by omega) (fun h29 => ?_) (fun h29 => ?_)
      · refine w_iconst dX10_dryOnes_38 ?_
        first | exact tail (by omega) (2 ^ c) (setN_t (decide_eq_true (Decidable.not_not.mp h29))) | exact tail (by omega) 0 (by rw [Nat.or_zero]; exact setN_f (decide_eq_false h29))
      · refine w_iconst dX10_dryOnes_32 ?_
        refine w_iload_n dX10_dryOnes_33 rfl ?_
        refine w_ibin (r := ((2 ^ c : Nat) : Int)) dX10_dryOnes_34 (Or.inr <| Or.inr <| Or.inr <| Or.inl ⟨rfl, b_1shlN (by omega)⟩) ?_
        refine w_goto (tgt := 39) dX10_dryOnes_35 (by decide) ?_
        first | exact tail (by omega) (2 ^ c) (setN_t (decide_eq_true (Decidable.not_not.mp h29))) | exact tail (by omega) 0 (by rw [Nat.or_zero]; exact setN_f (decide_eq_false h29))
theorem c_X10_dryOnes {E : EV} {M : MM} : Cm E mX10_dryOnes 0 [vr 238] M ((setN 16 (fun f => decide (M 243 (29 + (f : Int)) = M 247 (29 + (f : Int)))) : Nat) : Int) M := by
  refine Ct.of [some (vr 238), none, none] rfl rfl rfl (Nat.le_of_ble_eq_true rfl) ?_
  refine w_iconst dX10_dryOnes_0 ?_
  refine w_istore_n dX10_dryOnes_1 (by decide) ?_
  refine w_iconst dX10_dryOnes_2 ?_
  refine w_istore_n dX10_dryOnes_3 (by decide) ?_
  exact l_X10_dryOnes 17 0 _ _ rfl rfl (by omega) (by omega)
theorem c_X10_dry {E : EV} {M : MM} {p : PS} {n : Int} (hI : MI M p) (hP : POK p) (hn9 : R32 n) : Cx E mX10_dry 9 [vr 238, vi n] M (KM M (dryR p n)) := by
  refine Ct.of [some (vr 238), some (vi n), none] rfl rfl rfl (Nat.le_of_ble_eq_true rfl) ?_
  have hs := hI.sn
  have hn := hP.hs.n
  have hd := hP.hs.d
  have oT := OUT_dys hn.2 hP.hs.1 n.toNat
  refine w_aload_n dX10_dry_0 rfl ?_
  refine r_getI (q := 13) dX10_dry_1 fl10_117 g0_238 (by decide) rfl (by decide) rfl (fun r1 => ?_)
  refine w_if_ne (tgt := 10) dX10_dry_4 (by decide) (by omega) (fun h4 => ?_) (fun h4 => ?_)
  · refine w_iload_n dX10_dry_10 rfl ?_
    refine w_i2l dX10_dry_11 (by omega) ?_
    refine w_lconst0 dX10_dry_12 ?_
    refine w_ldc2 dX10_dry_13 cl10_169 ?_
    refine cSm dX10_dry_16 ok_X10_in (Or.inl ls10_50) (c_X10_in (by omega) (by omega) (by omega)) rfl  rfl (by decide) (Nat.le_of_ble_eq_true rfl) (fun r16 => ?_)
    refine w_ifB_ne (tgt := 25) dX10_dry_19 (by decide) (fun h19 => ?_) (fun h19 => ?_)
    · (first | replace h19 := of_decide_eq_true h19 | replace h19 := of_decide_eq_false h19 | skip)
      refine w_aload_n dX10_dry_25 rfl ?_
      refine cVv dX10_dry_26 ok_X10_asides lv10_171 c_X10_asides rfl (congrArg Prod.fst g0_238) (by decide) (by decide) rfl (by decide) (Nat.le_of_ble_eq_true rfl) ?_
      refine w_aload_n dX10_dry_29 rfl ?_
      refine w_iload_n dX10_dry_30 rfl ?_
      refine cVxv dX10_dry_31 ok_X10_goes lv10_174 (c_X10_goes (S := p.S) (fun q => by rw [FrN.as, hI.S]) hP.hs.ok (by omega) (by omega) (by omega) (by omega)) rfl (congrArg Prod.fst g0_238) (by decide) (by decide) rfl (by decide) (Nat.le_of_ble_eq_true rfl) (fun m31 p31 => ?_)
      have eq : setN 16 (fun f => decide (m31 243 (29 + (f : Int)) = m31 247 (29 + (f : Int)))) = dryF (dysF (zr p.S) n.toNat) := setN_congr (fun f hf => by show decide _ = decide _; rw [p31.1, as_at p31.2 (by omega) (by omega), hI.S, zr_fell hn.2 n.toNat (by omega) (by omega)]; exact decide_eq_decide.mpr (by omega))
      refine w_aload_n dX10_dry_34 rfl ?_
      refine cVm dX10_dry_35 ok_X10_dryOnes lv10_181 c_X10_dryOnes rfl (congrArg Prod.fst g0_238) (by decide) (by decide) rfl (by decide) (Nat.le_of_ble_eq_true rfl) (fun r35 => ?_)
      refine w_istore_n dX10_dry_38 (by decide) ?_
      refine w_aload_n dX10_dry_39 rfl ?_
      refine cVv dX10_dry_40 ok_X10_backs lv10_178 c_X10_backs rfl (congrArg Prod.fst g0_238) (by decide) (by decide) rfl (by decide) (Nat.le_of_ble_eq_true rfl) ?_
      refine w_iload_n dX10_dry_43 rfl ?_
      refine w_iret dX10_dry_44 rfl (by omega) ?_ ⟨Nat.le_refl _, Nat.le_refl _⟩
      exact (q_x (KM.back hI hP p31.2 oT p31.1 (show _ = ((dryF (dysF (zr p.S) n.toNat) : Nat) : Int) from by rw [eq]) (by unfold dryR; ((repeat (first | rw [if_pos (by omega)] | rw [if_neg (by omega)])) <;> rfl))))
    · (first | replace h19 := of_decide_eq_true h19 | replace h19 := of_decide_eq_false h19 | skip)
      refine w_ldc dX10_dry_22 co10_60 ?_
      refine w_iret dX10_dry_24 rfl (by omega) ?_ ⟨Nat.le_refl _, Nat.le_refl _⟩
      exact (q_x (KM.stay hI (by unfold dryR; ((repeat (first | rw [if_pos (by omega)] | rw [if_neg (by omega)])) <;> rfl))))
  · refine w_ldc dX10_dry_7 co10_144 ?_
    refine w_iret dX10_dry_9 rfl (by omega) ?_ ⟨Nat.le_refl _, Nat.le_refl _⟩
    exact (q_x (KM.stay hI (by unfold dryR; ((repeat (first | rw [if_pos (by omega)] | rw [if_neg (by omega)])) <;> rfl))))
/-- the reference's loops that look for a day -/
theorem fo_end {P : Nat → Bool} {d k : Nat} (hd : d + k = 61) (h : P d = true ∨ k = 0) : (60 < (d : Int) → foD P d k = -1000000) ∧ (¬ 60 < (d : Int) → foD P d k = (d : Int)) := by
  refine ⟨fun h6 => ?_, fun h6 => ?_⟩
  · obtain rfl : k = 0 := by omega
    rfl
  · obtain ⟨j, rfl⟩ : ∃ j, k = j + 1 := ⟨k - 1, by omega⟩
    exact foD_t (h.resolve_right (by omega))
theorem l_X10_first {E : EV} {M : MM} {p : PS} {f : Int} (hI : MI M p) (hP : POK p) (f0 : 0 ≤ f) (f1 : f ≤ 15) :
    ∀ (k d : Nat) (z : Int) (m : MM), z = (d : Int) → d + k = 61 → (∀ q, m 243 q = dysF p.S d q) → FrN (cpM M 243 247 0 0 45) m → Wp E mX10_first (kd 9) 26 [some (vr 238), some (vi f), some (vi z)] [] N0 G0 m (Px (KM M (foD (fun d => decide (dysF (zr p.S) d (29 + f) ≠ 0)) d k, p))) := by
  intro k
  have hn := hP.hs.n
  have hdd := hP.hs.d
  induction k with
  | zero =>
    intro d z m hz hd hm hF
    subst hz
    obtain rfl : d = 61 := by omega
    refine w_iload_n dX10_first_26 rfl ?_
    refine w_bipush dX10_first_27 (by decide +kernel) ?_
    refine w_icmp_ge (tgt := 63) dX10_first_29 (by decide) (by omega) (by omega) (fun h29 => ?_) (fun h29 => ?_)
    · refine w_aload_n dX10_first_63 rfl ?_
      refine cVv dX10_first_64 ok_X10_backs lv10_178 c_X10_backs rfl (congrArg Prod.fst g0_238) (by decide) (by decide) rfl (by decide) (Nat.le_of_ble_eq_true rfl) ?_
      refine w_iload_n dX10_first_67 rfl ?_
      refine w_bipush dX10_first_68 (by decide +kernel) ?_
      refine w_icmp_le (tgt := 78) dX10_first_70 (by decide) (by omega) (by omega) (fun h70 => ?_) (fun h70 => ?_)
      · exact absurd h70 (by omega)
      · refine w_ldc dX10_first_73 co10_177 ?_
        refine w_goto (tgt := 79) dX10_first_75 (by decide) ?_
        refine w_iret dX10_first_79 rfl (by omega) ?_ ⟨Nat.le_refl _, Nat.le_refl _⟩
        exact (q_x (KM.back hI hP hF (OUT_dys hn.2 hP.hs.1 61) hm rfl rfl))
    · exact absurd h29 (by omega)
  | succ k ih =>
    intro d z m hz hd hm hF
    subst hz
    have h3 := dysF_3 p.S d
    have k1 := hm (29 + f)
    have k2 : m 247 (29 + f) = p.S (29 + f) := by rw [as_at hF (by omega) (by omega), hI.S]
    have k3 := zr_fell (S := p.S) hn.2 d (f := f) (by omega) (by omega)
    refine w_iload_n dX10_first_26 rfl ?_
    refine w_bipush dX10_first_27 (by decide +kernel) ?_
    refine w_icmp_ge (tgt := 63) dX10_first_29 (by decide) (by omega) (by omega) (fun h29 => ?_) (fun h29 => ?_)
    · exact absurd h29 (by omega)
    · refine w_aload_n dX10_first_32 rfl ?_
      refine w_getR (r := 243) dX10_first_33 fl10_22 g0_238 (by decide) rfl ?_
      refine w_bipush dX10_first_36 (by decide +kernel) ?_
      refine w_iload_n dX10_first_38 rfl ?_
      refine w_iadd dX10_first_39 ?_
      refine r_ild dX10_first_40 g0_243 (by decide) (by omega) (by omega) (by decide) (fun r40 => ?_)
      refine w_aload_n dX10_first_41 rfl ?_
      refine w_getR (r := 247) dX10_first_42 fl10_34 g0_238 (by decide) rfl ?_
      refine w_bipush dX10_first_45 (by decide +kernel) ?_
      refine w_iload_n dX10_first_47 rfl ?_
      refine w_iadd dX10_first_48 ?_
      refine r_ild dX10_first_49 g0_247 (by decide) (by omega) (by omega) (by decide) (fun r49 => ?_)
      refine w_icmp_ne (tgt := 63) dX10_first_50 (by decide) (by omega) (by omega) (fun h50 => ?_) (fun h50 => ?_)
      · refine w_aload_n dX10_first_63 rfl ?_
        refine cVv dX10_first_64 ok_X10_backs lv10_178 c_X10_backs rfl (congrArg Prod.fst g0_238) (by decide) (by decide) rfl (by decide) (Nat.le_of_ble_eq_true rfl) ?_
        refine w_iload_n dX10_first_67 rfl ?_
        refine w_bipush dX10_first_68 (by decide +kernel) ?_
        refine w_icmp_le (tgt := 78) dX10_first_70 (by decide) (by omega) (by omega) (fun h70 => ?_) (fun h70 => ?_)
        · refine w_iload_n dX10_first_78 rfl ?_
          refine w_iret dX10_first_79 rfl (by omega) ?_ ⟨Nat.le_refl _, Nat.le_refl _⟩
          exact (q_x (KM.back hI hP hF (OUT_dys hn.2 hP.hs.1 d) hm rfl (by rw [foD_t (d := d) (decide_eq_true (by omega))])))
        · exact absurd h70 (by omega)
      · refine w_aload_n dX10_first_53 rfl ?_
        refine cVxv dX10_first_54 ok_X10_goesBy lv10_153 (c_X10_goesBy hm (SOK_dys hP.hs.ok d) (by omega) (by omega)) rfl (congrArg Prod.fst g0_238) (by decide) (by decide) rfl (by decide) (Nat.le_of_ble_eq_true rfl) (fun m54 p54 => ?_)
        refine w_iinc dX10_first_57 rfl (by decide) ?_
        refine w_goto (tgt := 26) dX10_first_60 (by decide) ?_
        rw [foD_f (d := d) (decide_eq_false (by omega))]
        exact ih (d + 1) _ _ (by omega) (by omega) p54.1 (hF.trans p54.2)
theorem c_X10_first {E : EV} {M : MM} {p : PS} {f : Int} (hI : MI M p) (hP : POK p) (hf : R32 f) : Cx E mX10_first 9 [vr 238, vi f] M (KM M (firstR p f)) := by
  refine Ct.of [some (vr 238), some (vi f), none] rfl rfl rfl (Nat.le_of_ble_eq_true rfl) ?_
  have hs := hI.sn
  refine w_aload_n dX10_first_0 rfl ?_
  refine r_getI (q := 13) dX10_first_1 fl10_117 g0_238 (by decide) rfl (by decide) rfl (fun r1 => ?_)
  refine w_if_ne (tgt := 10) dX10_first_4 (by decide) (by omega) (fun h4 => ?_) (fun h4 => ?_)
  · refine w_iload_n dX10_first_10 rfl ?_
    refine cSm dX10_first_11 ok_X10_isField (Or.inl ls10_163) (c_X10_isField (by omega)) rfl  rfl (by decide) (Nat.le_of_ble_eq_true rfl) (fun r11 => ?_)
    refine w_ifB_ne (tgt := 20) dX10_first_14 (by decide) (fun h14 => ?_) (fun h14 => ?_)
    · (first | replace h14 := of_decide_eq_true h14 | replace h14 := of_decide_eq_false h14 | skip)
      refine w_aload_n dX10_first_20 rfl ?_
      refine cVv dX10_first_21 ok_X10_asides lv10_171 c_X10_asides rfl (congrArg Prod.fst g0_238) (by decide) (by decide) rfl (by decide) (Nat.le_of_ble_eq_true rfl) ?_
      refine w_iconst dX10_first_24 ?_
      refine w_istore_n dX10_first_25 (by decide) ?_
      have l1 := l_X10_first (E := E) hI hP (f := f) (by omega) (by omega) 61 0 _ _ rfl (by omega) (fun q => by rw [FrN.as, hI.S]; rfl) (fun i _ => rfl)
      rw [foD_f (d := 0) (decide_eq_false (by have : zr p.S (29 + f) = 0 := if_pos (by omega); show ¬ zr p.S (29 + f) ≠ 0; omega))] at l1
      rw [show firstR p f = (foD (fun d => decide (dysF (zr p.S) d (29 + f) ≠ 0)) (0 + 1) 60, p) from by unfold firstR; ((repeat (first | rw [if_pos (by omega)] | rw [if_neg (by omega)])) <;> rfl)]
      exact l1
    · (first | replace h14 := of_decide_eq_true h14 | replace h14 := of_decide_eq_false h14 | skip)
      refine w_ldc dX10_first_17 co10_60 ?_
      refine w_iret dX10_first_19 rfl (by omega) ?_ ⟨Nat.le_refl _, Nat.le_refl _⟩
      exact (q_x (KM.stay hI (by unfold firstR; ((repeat (first | rw [if_pos (by omega)] | rw [if_neg (by omega)])) <;> rfl))))
  · refine w_ldc dX10_first_7 co10_144 ?_
    refine w_iret dX10_first_9 rfl (by omega) ?_ ⟨Nat.le_refl _, Nat.le_refl _⟩
    exact (q_x (KM.stay hI (by unfold firstR; ((repeat (first | rw [if_pos (by omega)] | rw [if_neg (by omega)])) <;> rfl))))
theorem l_X10_gone {E : EV} {M : MM} {p : PS} {c : Int} (hI : MI M p) (hP : POK p) (c0 : 0 ≤ c) (c1 : c < p.S 0) :
    ∀ (k d : Nat) (z : Int) (m : MM), z = (d : Int) → d + k = 61 → (∀ q, m 243 q = dysF p.S d q) → FrN (cpM M 243 247 0 0 45) m → Wp E mX10_gone (kd 9) 17 [some (vr 238), some (vi c), some (vi z)] [] N0 G0 m (Px (KM M (foD (fun d => decide (dysF (zr p.S) d (7 + 5 * c) = 0)) d k, p))) := by
  intro k
  have hn := hP.hs.n
  have hdd := hP.hs.d
  induction k with
  | zero =>
    intro d z m hz hd hm hF
    subst hz
    obtain rfl : d = 61 := by omega
    refine w_iload_n dX10_gone_17 rfl ?_
    refine w_bipush dX10_gone_18 (by decide +kernel) ?_
    refine w_icmp_ge (tgt := 41) dX10_gone_20 (by decide) (by omega) (by omega) (fun h20 => ?_) (fun h20 => ?_)
    · refine w_aload_n dX10_gone_41 rfl ?_
      refine cVv dX10_gone_42 ok_X10_backs lv10_178 c_X10_backs rfl (congrArg Prod.fst g0_238) (by decide) (by decide) rfl (by decide) (Nat.le_of_ble_eq_true rfl) ?_
      refine w_iload_n dX10_gone_45 rfl ?_
      refine w_bipush dX10_gone_46 (by decide +kernel) ?_
      refine w_icmp_le (tgt := 56) dX10_gone_48 (by decide) (by omega) (by omega) (fun h48 => ?_) (fun h48 => ?_)
      · exact absurd h48 (by omega)
      · refine w_ldc dX10_gone_51 co10_177 ?_
        refine w_goto (tgt := 57) dX10_gone_53 (by decide) ?_
        refine w_iret dX10_gone_57 rfl (by omega) ?_ ⟨Nat.le_refl _, Nat.le_refl _⟩
        exact (q_x (KM.back hI hP hF (OUT_dys hn.2 hP.hs.1 61) hm rfl rfl))
    · exact absurd h20 (by omega)
  | succ k ih =>
    intro d z m hz hd hm hF
    subst hz
    have h3 := dysF_3 p.S d
    have k1 := hm (7 + 5 * c)
    have k3 := zr_dys (S := p.S) hn.2 d (q := 7 + 5 * c) (by omega)
    refine w_iload_n dX10_gone_17 rfl ?_
    refine w_bipush dX10_gone_18 (by decide +kernel) ?_
    refine w_icmp_ge (tgt := 41) dX10_gone_20 (by decide) (by omega) (by omega) (fun h20 => ?_) (fun h20 => ?_)
    · exact absurd h20 (by omega)
    · refine w_aload_n dX10_gone_23 rfl ?_
      refine w_iload_n dX10_gone_24 rfl ?_
      refine cVm dX10_gone_25 ok_X10_isGone lv10_129 (c_X10_isGone (by omega) (by omega)) rfl (congrArg Prod.fst g0_238) (by decide) (by decide) rfl (by decide) (Nat.le_of_ble_eq_true rfl) (fun r25 => ?_)
      refine w_ifB_ne (tgt := 41) dX10_gone_28 (by decide) (fun h28 => ?_) (fun h28 => ?_)
      · (first | replace h28 := of_decide_eq_true h28 | replace h28 := of_decide_eq_false h28 | skip)
        refine w_aload_n dX10_gone_41 rfl ?_
        refine cVv dX10_gone_42 ok_X10_backs lv10_178 c_X10_backs rfl (congrArg Prod.fst g0_238) (by decide) (by decide) rfl (by decide) (Nat.le_of_ble_eq_true rfl) ?_
        refine w_iload_n dX10_gone_45 rfl ?_
        refine w_bipush dX10_gone_46 (by decide +kernel) ?_
        refine w_icmp_le (tgt := 56) dX10_gone_48 (by decide) (by omega) (by omega) (fun h48 => ?_) (fun h48 => ?_)
        · refine w_iload_n dX10_gone_56 rfl ?_
          refine w_iret dX10_gone_57 rfl (by omega) ?_ ⟨Nat.le_refl _, Nat.le_refl _⟩
          exact (q_x (KM.back hI hP hF (OUT_dys hn.2 hP.hs.1 d) hm rfl (by rw [foD_t (d := d) (decide_eq_true (by omega))])))
        · exact absurd h48 (by omega)
      · (first | replace h28 := of_decide_eq_true h28 | replace h28 := of_decide_eq_false h28 | skip)
        refine w_aload_n dX10_gone_31 rfl ?_
        refine cVxv dX10_gone_32 ok_X10_goesBy lv10_153 (c_X10_goesBy hm (SOK_dys hP.hs.ok d) (by omega) (by omega)) rfl (congrArg Prod.fst g0_238) (by decide) (by decide) rfl (by decide) (Nat.le_of_ble_eq_true rfl) (fun m32 p32 => ?_)
        refine w_iinc dX10_gone_35 rfl (by decide) ?_
        refine w_goto (tgt := 17) dX10_gone_38 (by decide) ?_
        rw [foD_f (d := d) (decide_eq_false (by omega))]
        exact ih (d + 1) _ _ (by omega) (by omega) p32.1 (hF.trans p32.2)
theorem c_X10_gone {E : EV} {M : MM} {p : PS} {c : Int} (hI : MI M p) (hP : POK p) (hc : R32 c) : Cx E mX10_gone 9 [vr 238, vi c] M (KM M (goneR p c)) := by
  refine Ct.of [some (vr 238), some (vi c), none] rfl rfl rfl (Nat.le_of_ble_eq_true rfl) ?_
  have hn := hP.hs.n
  have e0 := hI.sq 0
  refine w_aload_n dX10_gone_0 rfl ?_
  refine w_iload_n dX10_gone_1 rfl ?_
  refine cVm dX10_gone_2 ok_X10_isCloud lv10_156 (c_X10_isCloud (by omega) (by omega)) rfl (congrArg Prod.fst g0_238) (by decide) (by decide) rfl (by decide) (Nat.le_of_ble_eq_true rfl) (fun r2 => ?_)
  refine w_ifB_ne (tgt := 11) dX10_gone_5 (by decide) (fun h5 => ?_) (fun h5 => ?_)
  · (first | replace h5 := of_decide_eq_true h5 | replace h5 := of_decide_eq_false h5 | skip)
    refine w_aload_n dX10_gone_11 rfl ?_
    refine cVv dX10_gone_12 ok_X10_asides lv10_171 c_X10_asides rfl (congrArg Prod.fst g0_238) (by decide) (by decide) rfl (by decide) (Nat.le_of_ble_eq_true rfl) ?_
    refine w_iconst dX10_gone_15 ?_
    refine w_istore_n dX10_gone_16 (by decide) ?_
    rw [show goneR p c = (foD (fun d => decide (dysF (zr p.S) d (7 + 5 * c) = 0)) 0 61, p) from by unfold goneR; ((repeat (first | rw [if_pos (by omega)] | rw [if_neg (by omega)])) <;> rfl)]
    exact l_X10_gone hI hP (by omega) (by omega) 61 0 _ _ rfl (by omega) (fun q => by rw [FrN.as, hI.S]; rfl) (fun i _ => rfl)
  · (first | replace h5 := of_decide_eq_true h5 | replace h5 := of_decide_eq_false h5 | skip)
    refine w_ldc dX10_gone_8 co10_60 ?_
    refine w_iret dX10_gone_10 rfl (by omega) ?_ ⟨Nat.le_refl _, Nat.le_refl _⟩
    exact (q_x (KM.stay hI (by unfold goneR; ((repeat (first | rw [if_pos (by omega)] | rw [if_neg (by omega)])) <;> rfl))))
theorem met_zr {S : SS} (hn : 0 ≤ S 0 ∧ S 0 ≤ 5) {c o : Int} (c0 : 0 ≤ c) (c1 : c < 5) (o0 : 0 ≤ o) (o1 : o < 5) (d : Nat) : metB (zr S) c o d = decide (shF (dysF S d) c &&& shF (dysF S d) o ≠ 0) := by
  unfold metB shF
  rw [zr_dys hn.2 d (by omega), zr_dys hn.2 d (by omega), zr_dys hn.2 d (by omega), zr_dys hn.2 d (by omega), zr_dys hn.2 d (by omega), zr_dys hn.2 d (by omega)]
theorem l_X10_storm {E : EV} {M : MM} {p : PS} {c o : Int} (hI : MI M p) (hP : POK p) (c0 : 0 ≤ c) (c1 : c < p.S 0) (o0 : 0 ≤ o) (o1 : o < p.S 0) :
    ∀ (k d : Nat) (z : Int) (m : MM), z = (d : Int) → d + k = 61 → (∀ q, m 243 q = dysF p.S d q) → FrN (cpM M 243 247 0 0 45) m → Wp E mX10_storm (kd 9) 48 [some (vr 238), some (vi c), some (vi o), some (vi z)] [] N0 G0 m (Px (KM M (foD (metB (zr p.S) c o) d k, p))) := by
  intro k
  have hn := hP.hs.n
  have hdd := hP.hs.d
  induction k with
  | zero =>
    intro d z m hz hd hm hF
    subst hz
    obtain rfl : d = 61 := by omega
    refine w_iload_n dX10_storm_48 rfl ?_
    refine w_bipush dX10_storm_49 (by decide +kernel) ?_
    refine w_icmp_ge (tgt := 78) dX10_storm_51 (by decide) (by omega) (by omega) (fun h51 => ?_) (fun h51 => ?_)
    · refine w_aload_n dX10_storm_78 rfl ?_
      refine cVv dX10_storm_79 ok_X10_backs lv10_178 c_X10_backs rfl (congrArg Prod.fst g0_238) (by decide) (by decide) rfl (by decide) (Nat.le_of_ble_eq_true rfl) ?_
      refine w_iload_n dX10_storm_82 rfl ?_
      refine w_bipush dX10_storm_83 (by decide +kernel) ?_
      refine w_icmp_le (tgt := 93) dX10_storm_85 (by decide) (by omega) (by omega) (fun h85 => ?_) (fun h85 => ?_)
      · exact absurd h85 (by omega)
      · refine w_ldc dX10_storm_88 co10_177 ?_
        refine w_goto (tgt := 94) dX10_storm_90 (by decide) ?_
        refine w_iret dX10_storm_94 rfl (by omega) ?_ ⟨Nat.le_refl _, Nat.le_refl _⟩
        exact (q_x (KM.back hI hP hF (OUT_dys hn.2 hP.hs.1 61) hm rfl rfl))
    · exact absurd h51 (by omega)
  | succ k ih =>
    intro d z m hz hd hm hF
    subst hz
    have h3 := dysF_3 p.S d
    have hO := SOK_dys hP.hs.ok d
    have em : m 243 = dysF p.S d := funext hm
    have n0 : dysF p.S d 0 = p.S 0 := dysF_low (by omega) d
    have b1 := hO.cl c0 (by omega)
    have b2 := hO.cl o0 (by omega)
    have x1 := hm (5 + 5 * c)
    have x2 := hm (6 + 5 * c)
    have x3 := hm (5 + 5 * o)
    have x4 := hm (6 + 5 * o)
    have mz := met_zr hn c0 (show c < 5 by omega) o0 (show o < 5 by omega) d
    have al : shF (dysF p.S d) c &&& shF (dysF p.S d) o ≤ shF (dysF p.S d) c := Nat.and_le_left
    have sl := shF_lt (dysF p.S d) c
    refine w_iload_n dX10_storm_48 rfl ?_
    refine w_bipush dX10_storm_49 (by decide +kernel) ?_
    refine w_icmp_ge (tgt := 78) dX10_storm_51 (by decide) (by omega) (by omega) (fun h51 => ?_) (fun h51 => ?_)
    · exact absurd h51 (by omega)
    · refine w_aload_n dX10_storm_54 rfl ?_
      refine w_iload_n dX10_storm_55 rfl ?_
      refine cVm dX10_storm_56 ok_X10_fields lv10_132 (c_X10_fields (by omega) (by omega) (by omega) (by omega)) rfl (congrArg Prod.fst g0_238) (by decide) (by decide) rfl (by decide) (Nat.le_of_ble_eq_true rfl) (fun r56 => ?_)
      refine w_aload_n dX10_storm_59 rfl ?_
      refine w_iload_n dX10_storm_60 rfl ?_
      refine cVm dX10_storm_61 ok_X10_fields lv10_132 (c_X10_fields (by omega) (by omega) (by omega) (by omega)) rfl (congrArg Prod.fst g0_238) (by decide) (by decide) rfl (by decide) (Nat.le_of_ble_eq_true rfl) (fun r61 => ?_)
      rw [em]
      refine w_ibin (r := ((shF (dysF p.S d) c &&& shF (dysF p.S d) o : Nat) : Int)) dX10_storm_64 (Or.inl ⟨rfl, b_and _ _⟩) ?_
      refine w_if_ne (tgt := 78) dX10_storm_65 (by decide) (by omega) (fun h65 => ?_) (fun h65 => ?_)
      · refine w_aload_n dX10_storm_78 rfl ?_
        refine cVv dX10_storm_79 ok_X10_backs lv10_178 c_X10_backs rfl (congrArg Prod.fst g0_238) (by decide) (by decide) rfl (by decide) (Nat.le_of_ble_eq_true rfl) ?_
        refine w_iload_n dX10_storm_82 rfl ?_
        refine w_bipush dX10_storm_83 (by decide +kernel) ?_
        refine w_icmp_le (tgt := 93) dX10_storm_85 (by decide) (by omega) (by omega) (fun h85 => ?_) (fun h85 => ?_)
        · refine w_iload_n dX10_storm_93 rfl ?_
          refine w_iret dX10_storm_94 rfl (by omega) ?_ ⟨Nat.le_refl _, Nat.le_refl _⟩
          exact (q_x (KM.back hI hP hF (OUT_dys hn.2 hP.hs.1 d) hm rfl (by rw [foD_t (d := d) (by rw [mz]; exact decide_eq_true (by omega))])))
        · exact absurd h85 (by omega)
      · refine w_aload_n dX10_storm_68 rfl ?_
        refine cVxv dX10_storm_69 ok_X10_goesBy lv10_153 (c_X10_goesBy hm hO (by omega) (by omega)) rfl (congrArg Prod.fst g0_238) (by decide) (by decide) rfl (by decide) (Nat.le_of_ble_eq_true rfl) (fun m69 p69 => ?_)
        refine w_iinc dX10_storm_72 rfl (by decide) ?_
        refine w_goto (tgt := 48) dX10_storm_75 (by decide) ?_
        rw [foD_f (d := d) (by rw [mz]; exact decide_eq_false (by omega))]
        exact ih (d + 1) _ _ (by omega) (by omega) p69.1 (hF.trans p69.2)
theorem c_X10_storm {E : EV} {M : MM} {p : PS} {c o : Int} (hI : MI M p) (hP : POK p) (hc : R32 c) (ho : R32 o) : Cx E mX10_storm 9 [vr 238, vi c, vi o] M (KM M (stormR p c o)) := by
  refine Ct.of [some (vr 238), some (vi c), some (vi o), none] rfl rfl rfl (Nat.le_of_ble_eq_true rfl) ?_
  have hn := hP.hs.n
  have e0 := hI.sq 0
  have k1 := hI.sq (8 + 5 * c)
  have k2 := hI.sq (8 + 5 * o)
  refine w_aload_n dX10_storm_0 rfl ?_
  refine w_iload_n dX10_storm_1 rfl ?_
  refine cVm dX10_storm_2 ok_X10_isCloud lv10_156 (c_X10_isCloud (by omega) (by omega)) rfl (congrArg Prod.fst g0_238) (by decide) (by decide) rfl (by decide) (Nat.le_of_ble_eq_true rfl) (fun r2 => ?_)
  refine w_ifB_eq (tgt := 21) dX10_storm_5 (by decide) (fun h5 => ?_) (fun h5 => ?_)
  · (first | replace h5 := of_decide_eq_true h5 | replace h5 := of_decide_eq_false h5 | skip)
    refine w_ldc dX10_storm_21 co10_60 ?_
    refine w_iret dX10_storm_23 rfl (by omega) ?_ ⟨Nat.le_refl _, Nat.le_refl _⟩
    exact (q_x (KM.stay hI (by unfold stormR; ((repeat (first | rw [if_pos (by omega)] | rw [if_neg (by omega)])) <;> rfl))))
  · (first | replace h5 := of_decide_eq_true h5 | replace h5 := of_decide_eq_false h5 | skip)
    refine w_aload_n dX10_storm_8 rfl ?_
    refine w_iload_n dX10_storm_9 rfl ?_
    refine cVm dX10_storm_10 ok_X10_isCloud lv10_156 (c_X10_isCloud (by omega) (by omega)) rfl (congrArg Prod.fst g0_238) (by decide) (by decide) rfl (by decide) (Nat.le_of_ble_eq_true rfl) (fun r10 => ?_)
    refine w_ifB_eq (tgt := 21) dX10_storm_13 (by decide) (fun h13 => ?_) (fun h13 => ?_)
    · (first | replace h13 := of_decide_eq_true h13 | replace h13 := of_decide_eq_false h13 | skip)
      refine w_ldc dX10_storm_21 co10_60 ?_
      refine w_iret dX10_storm_23 rfl (by omega) ?_ ⟨Nat.le_refl _, Nat.le_refl _⟩
      exact (q_x (KM.stay hI (by unfold stormR; ((repeat (first | rw [if_pos (by omega)] | rw [if_neg (by omega)])) <;> rfl))))
    · (first | replace h13 := of_decide_eq_true h13 | replace h13 := of_decide_eq_false h13 | skip)
      refine w_iload_n dX10_storm_16 rfl ?_
      refine w_iload_n dX10_storm_17 rfl ?_
      refine w_icmp_ne (tgt := 24) dX10_storm_18 (by decide) (by omega) (by omega) (fun h18 => ?_) (fun h18 => ?_)
      · refine w_aload_n dX10_storm_24 rfl ?_
        refine w_iload_n dX10_storm_25 rfl ?_
        refine w_iconst dX10_storm_26 ?_
        refine cVm dX10_storm_27 ok_X10_of lv10_126 (c_X10_of (q := 8 + 5 * c) (by omega) (by omega) (by omega)) rfl (congrArg Prod.fst g0_238) (by decide) (by decide) rfl (by decide) (Nat.le_of_ble_eq_true rfl) (fun r27 => ?_)
        refine w_aload_n dX10_storm_30 rfl ?_
        refine w_iload_n dX10_storm_31 rfl ?_
        refine w_iconst dX10_storm_32 ?_
        refine cVm dX10_storm_33 ok_X10_of lv10_126 (c_X10_of (q := 8 + 5 * o) (by omega) (by omega) (by omega)) rfl (congrArg Prod.fst g0_238) (by decide) (by decide) rfl (by decide) (Nat.le_of_ble_eq_true rfl) (fun r33 => ?_)
        refine w_icmp_ne (tgt := 42) dX10_storm_36 (by decide) (by omega) (by omega) (fun h36 => ?_) (fun h36 => ?_)
        · refine w_aload_n dX10_storm_42 rfl ?_
          refine cVv dX10_storm_43 ok_X10_asides lv10_171 c_X10_asides rfl (congrArg Prod.fst g0_238) (by decide) (by decide) rfl (by decide) (Nat.le_of_ble_eq_true rfl) ?_
          refine w_iconst dX10_storm_46 ?_
          refine w_istore_n dX10_storm_47 (by decide) ?_
          rw [show stormR p c o = (foD (metB (zr p.S) c o) 0 61, p) from by unfold stormR; rw [if_pos (by omega), if_neg (by omega)]]
          exact l_X10_storm hI hP (by omega) (by omega) (by omega) (by omega) 61 0 _ _ rfl (by omega) (fun q => by rw [FrN.as, hI.S]; rfl) (fun i _ => rfl)
        · refine w_ldc dX10_storm_39 co10_177 ?_
          refine w_iret dX10_storm_41 rfl (by omega) ?_ ⟨Nat.le_refl _, Nat.le_refl _⟩
          exact (q_x (KM.stay hI (by unfold stormR; rw [if_pos (by omega), if_pos (by omega)])))
      · refine w_ldc dX10_storm_21 co10_60 ?_
        refine w_iret dX10_storm_23 rfl (by omega) ?_ ⟨Nat.le_refl _, Nat.le_refl _⟩
        exact (q_x (KM.stay hI (by unfold stormR; ((repeat (first | rw [if_pos (by omega)] | rw [if_neg (by omega)])) <;> rfl))))
