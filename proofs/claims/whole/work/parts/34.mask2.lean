/-! ===== the reference: counting loops ===== -/
theorem l_X10_count {E : EV} {M : MM} {w : Int} {Q : PP} (hl : ∀ r : Int, 0 ≤ r → r < 8 → -1 ≤ M 239 r) (hQ : Wp E mX10_count (kd 9) 33 [some (vr 238), some (vi w), some (vi (presF (M 239))), some (vi 8)] [] N0 G0 M Q) :
    ∀ (k c : Nat) (z s : Int), z = c → s = sumI c (fun r => if M 239 (r : Int) = -1 then 0 else 1) → c ≤ 8 → 8 - c < k → Wp E mX10_count (kd 9) 4 [some (vr 238), some (vi w), some (vi s), some (vi z)] [] N0 G0 M Q := by
  intro k
  induction k with
  | zero => intro c z s hz hs hc hk; exact absurd hk (by omega)
  | succ k ih =>
    intro c z s hz hs hc hk
    subst hz
    subst hs
    have hle := sumI_le (n := c) (g := fun r => if M 239 (r : Int) = -1 then 0 else 1) (B := 1) (fun i hi => by split <;> omega)
    have hl := hl c (by omega)
    refine w_iload_n dX10_count_4 rfl ?_
    refine w_bipush dX10_count_5 (by decide +kernel) ?_
    refine w_icmp_ge (tgt := 33) dX10_count_7 (by decide) (by omega) (by omega) (fun h7 => ?_) (fun h7 => ?_)
    · have ec : c = 8 := by omega
      subst ec
      exact hQ
    · have hl := hl (by omega)
      refine w_iload_n dX10_count_10 rfl ?_
      refine w_aload_n dX10_count_11 rfl ?_
      refine w_getR (r := 239) dX10_count_12 fl10_7 g0_238 (by decide) rfl ?_
      refine w_iload_n dX10_count_15 rfl ?_
      refine r_ild dX10_count_16 g0_239 (by decide) (by omega) (by omega) (by decide) (fun r16 => ?_)
      refine w_if_ge (tgt := 24) dX10_count_17 (by decide) (by omega) (fun h17 => ?_) (fun h17 => ?_)
      · refine w_iconst dX10_count_24 ?_
        refine w_iadd dX10_count_25 ?_
        refine w_istore_n dX10_count_26 (by decide) ?_
        refine w_iinc dX10_count_27 rfl (by decide) ?_
        refine w_goto (tgt := 4) dX10_count_30 (by decide) ?_
        first | exact ih (c + 1) _ _ (by omega) (by rw [sumI, if_neg (by omega)]) (by omega) (by omega) | exact ih (c + 1) _ _ (by omega) (by rw [sumI, if_pos (by omega)]) (by omega) (by omega)
      · refine w_iconst dX10_count_20 ?_
        refine w_goto (tgt := 25) dX10_count_21 (by decide) ?_
        refine w_iadd dX10_count_25 ?_
        refine w_istore_n dX10_count_26 (by decide) ?_
        refine w_iinc dX10_count_27 rfl (by decide) ?_
        refine w_goto (tgt := 4) dX10_count_30 (by decide) ?_
        first | exact ih (c + 1) _ _ (by omega) (by rw [sumI, if_neg (by omega)]) (by omega) (by omega) | exact ih (c + 1) _ _ (by omega) (by rw [sumI, if_pos (by omega)]) (by omega) (by omega)
theorem c_X10_count {E : EV} {M : MM} {p : PS} {w : Int} (hI : MI M p) (hP : POK p) (hw : R32 w) : Cx E mX10_count 9 [vr 238, vi w] M (KM M (countR p w)) := by
  refine Ct.of [some (vr 238), some (vi w), none, none] rfl rfl rfl (Nat.le_of_ble_eq_true rfl) ?_
  have ep : presF (M 239) = presF p.ln := by rw [hI.ln]
  have er := sumI_le (n := 8) (g := fun r => if M 239 (r : Int) = -1 then 0 else 1) (B := 1) (fun i hi => by split <;> omega)
  have er2 : 0 ≤ presF (M 239) ∧ presF (M 239) ≤ 8 := by unfold presF; omega
  have ea : ((aliveF (M 243) : Nat) : Int) = ((aliveF p.S : Nat) : Int) := by rw [hI.S]
  have ef : fellS (M 243) = fellS p.S := by rw [hI.S]
  have hO : SOK 9990 (M 243) := by rw [hI.S]; exact hP.hs.ok
  refine w_iconst dX10_count_0 ?_
  refine w_istore_n dX10_count_1 (by decide) ?_
  refine w_iconst dX10_count_2 ?_
  refine w_istore_n dX10_count_3 (by decide) ?_
  refine l_X10_count (fun r a b => by rw [hI.ln]; exact (hP.hl r a b).1.1) ?_ 9 0 _ _ rfl rfl (by omega) (by omega)
  refine w_iload_n dX10_count_33 rfl ?_
  refine w_tabC (0) (tgt := 80) dX10_count_34 (by omega) (by decide) rfl (by decide) (fun t0 => ?_) (fun t0 => ?_)
  · refine w_iload_n dX10_count_80 rfl ?_
    refine w_iret dX10_count_81 rfl (by omega) ?_ ⟨Nat.le_refl _, Nat.le_refl _⟩
    first | (refine q_x (KM.stay hI ?_); unfold countR; ((repeat (first | rw [if_pos (by omega)] | rw [if_neg (by omega)])) <;> rfl)) | (refine q_x (KM.stay' hI ep ?_); unfold countR; ((repeat (first | rw [if_pos (by omega)] | rw [if_neg (by omega)])) <;> rfl)) | (refine q_x (KM.stay' hI (hI.sq 0) ?_); unfold countR; ((repeat (first | rw [if_pos (by omega)] | rw [if_neg (by omega)])) <;> rfl)) | (refine q_x (KM.stay' hI (hI.sq 3) ?_); unfold countR; ((repeat (first | rw [if_pos (by omega)] | rw [if_neg (by omega)])) <;> rfl)) | (refine q_x (KM.stay' hI (hI.sq 1) ?_); unfold countR; ((repeat (first | rw [if_pos (by omega)] | rw [if_neg (by omega)])) <;> rfl)) | (refine q_x (KM.stay' hI hI.u ?_); unfold countR; ((repeat (first | rw [if_pos (by omega)] | rw [if_neg (by omega)])) <;> rfl)) | (refine q_x (KM.stay' hI hI.tn ?_); unfold countR; ((repeat (first | rw [if_pos (by omega)] | rw [if_neg (by omega)])) <;> rfl)) | (refine q_x (KM.stay' hI ea ?_); unfold countR; ((repeat (first | rw [if_pos (by omega)] | rw [if_neg (by omega)])) <;> rfl)) | (refine q_x (KM.stay' hI ef ?_); unfold countR; ((repeat (first | rw [if_pos (by omega)] | rw [if_neg (by omega)])) <;> rfl))
  refine w_tabC (1) (tgt := 82) dX10_count_34 (by omega) (by decide) rfl (by decide) (fun t1 => ?_) (fun t1 => ?_)
  · refine w_aload_n dX10_count_82 rfl ?_
    refine w_getR (r := 243) dX10_count_83 fl10_22 g0_238 (by decide) rfl ?_
    refine w_iconst dX10_count_86 ?_
    refine r_ild dX10_count_87 g0_243 (by decide) (by omega) (by omega) (by decide) (fun r87 => ?_)
    refine w_iret dX10_count_88 rfl (by omega) ?_ ⟨Nat.le_refl _, Nat.le_refl _⟩
    first | (refine q_x (KM.stay hI ?_); unfold countR; ((repeat (first | rw [if_pos (by omega)] | rw [if_neg (by omega)])) <;> rfl)) | (refine q_x (KM.stay' hI ep ?_); unfold countR; ((repeat (first | rw [if_pos (by omega)] | rw [if_neg (by omega)])) <;> rfl)) | (refine q_x (KM.stay' hI (hI.sq 0) ?_); unfold countR; ((repeat (first | rw [if_pos (by omega)] | rw [if_neg (by omega)])) <;> rfl)) | (refine q_x (KM.stay' hI (hI.sq 3) ?_); unfold countR; ((repeat (first | rw [if_pos (by omega)] | rw [if_neg (by omega)])) <;> rfl)) | (refine q_x (KM.stay' hI (hI.sq 1) ?_); unfold countR; ((repeat (first | rw [if_pos (by omega)] | rw [if_neg (by omega)])) <;> rfl)) | (refine q_x (KM.stay' hI hI.u ?_); unfold countR; ((repeat (first | rw [if_pos (by omega)] | rw [if_neg (by omega)])) <;> rfl)) | (refine q_x (KM.stay' hI hI.tn ?_); unfold countR; ((repeat (first | rw [if_pos (by omega)] | rw [if_neg (by omega)])) <;> rfl)) | (refine q_x (KM.stay' hI ea ?_); unfold countR; ((repeat (first | rw [if_pos (by omega)] | rw [if_neg (by omega)])) <;> rfl)) | (refine q_x (KM.stay' hI ef ?_); unfold countR; ((repeat (first | rw [if_pos (by omega)] | rw [if_neg (by omega)])) <;> rfl))
  refine w_tabC (2) (tgt := 89) dX10_count_34 (by omega) (by decide) rfl (by decide) (fun t2 => ?_) (fun t2 => ?_)
  · refine w_aload_n dX10_count_89 rfl ?_
    refine cVm dX10_count_90 ok_X10_notGone lv10_208 (c_X10_notGone hO) rfl (congrArg Prod.fst g0_238) (by decide) (by decide) rfl (by decide) (Nat.le_of_ble_eq_true rfl) (fun r90 => ?_)
    refine w_iret dX10_count_93 rfl (by omega) ?_ ⟨Nat.le_refl _, Nat.le_refl _⟩
    first | (refine q_x (KM.stay hI ?_); unfold countR; ((repeat (first | rw [if_pos (by omega)] | rw [if_neg (by omega)])) <;> rfl)) | (refine q_x (KM.stay' hI ep ?_); unfold countR; ((repeat (first | rw [if_pos (by omega)] | rw [if_neg (by omega)])) <;> rfl)) | (refine q_x (KM.stay' hI (hI.sq 0) ?_); unfold countR; ((repeat (first | rw [if_pos (by omega)] | rw [if_neg (by omega)])) <;> rfl)) | (refine q_x (KM.stay' hI (hI.sq 3) ?_); unfold countR; ((repeat (first | rw [if_pos (by omega)] | rw [if_neg (by omega)])) <;> rfl)) | (refine q_x (KM.stay' hI (hI.sq 1) ?_); unfold countR; ((repeat (first | rw [if_pos (by omega)] | rw [if_neg (by omega)])) <;> rfl)) | (refine q_x (KM.stay' hI hI.u ?_); unfold countR; ((repeat (first | rw [if_pos (by omega)] | rw [if_neg (by omega)])) <;> rfl)) | (refine q_x (KM.stay' hI hI.tn ?_); unfold countR; ((repeat (first | rw [if_pos (by omega)] | rw [if_neg (by omega)])) <;> rfl)) | (refine q_x (KM.stay' hI ea ?_); unfold countR; ((repeat (first | rw [if_pos (by omega)] | rw [if_neg (by omega)])) <;> rfl)) | (refine q_x (KM.stay' hI ef ?_); unfold countR; ((repeat (first | rw [if_pos (by omega)] | rw [if_neg (by omega)])) <;> rfl))
  refine w_tabC (3) (tgt := 94) dX10_count_34 (by omega) (by decide) rfl (by decide) (fun t3 => ?_) (fun t3 => ?_)
  · refine w_aload_n dX10_count_94 rfl ?_
    refine w_getR (r := 243) dX10_count_95 fl10_22 g0_238 (by decide) rfl ?_
    refine w_iconst dX10_count_98 ?_
    refine r_ild dX10_count_99 g0_243 (by decide) (by omega) (by omega) (by decide) (fun r99 => ?_)
    refine w_iret dX10_count_100 rfl (by omega) ?_ ⟨Nat.le_refl _, Nat.le_refl _⟩
    first | (refine q_x (KM.stay hI ?_); unfold countR; ((repeat (first | rw [if_pos (by omega)] | rw [if_neg (by omega)])) <;> rfl)) | (refine q_x (KM.stay' hI ep ?_); unfold countR; ((repeat (first | rw [if_pos (by omega)] | rw [if_neg (by omega)])) <;> rfl)) | (refine q_x (KM.stay' hI (hI.sq 0) ?_); unfold countR; ((repeat (first | rw [if_pos (by omega)] | rw [if_neg (by omega)])) <;> rfl)) | (refine q_x (KM.stay' hI (hI.sq 3) ?_); unfold countR; ((repeat (first | rw [if_pos (by omega)] | rw [if_neg (by omega)])) <;> rfl)) | (refine q_x (KM.stay' hI (hI.sq 1) ?_); unfold countR; ((repeat (first | rw [if_pos (by omega)] | rw [if_neg (by omega)])) <;> rfl)) | (refine q_x (KM.stay' hI hI.u ?_); unfold countR; ((repeat (first | rw [if_pos (by omega)] | rw [if_neg (by omega)])) <;> rfl)) | (refine q_x (KM.stay' hI hI.tn ?_); unfold countR; ((repeat (first | rw [if_pos (by omega)] | rw [if_neg (by omega)])) <;> rfl)) | (refine q_x (KM.stay' hI ea ?_); unfold countR; ((repeat (first | rw [if_pos (by omega)] | rw [if_neg (by omega)])) <;> rfl)) | (refine q_x (KM.stay' hI ef ?_); unfold countR; ((repeat (first | rw [if_pos (by omega)] | rw [if_neg (by omega)])) <;> rfl))
  refine w_tabC (4) (tgt := 101) dX10_count_34 (by omega) (by decide) rfl (by decide) (fun t4 => ?_) (fun t4 => ?_)
  · refine w_aload_n dX10_count_101 rfl ?_
    refine w_getR (r := 243) dX10_count_102 fl10_22 g0_238 (by decide) rfl ?_
    refine w_iconst dX10_count_105 ?_
    refine r_ild dX10_count_106 g0_243 (by decide) (by omega) (by omega) (by decide) (fun r106 => ?_)
    refine w_iret dX10_count_107 rfl (by omega) ?_ ⟨Nat.le_refl _, Nat.le_refl _⟩
    first | (refine q_x (KM.stay hI ?_); unfold countR; ((repeat (first | rw [if_pos (by omega)] | rw [if_neg (by omega)])) <;> rfl)) | (refine q_x (KM.stay' hI ep ?_); unfold countR; ((repeat (first | rw [if_pos (by omega)] | rw [if_neg (by omega)])) <;> rfl)) | (refine q_x (KM.stay' hI (hI.sq 0) ?_); unfold countR; ((repeat (first | rw [if_pos (by omega)] | rw [if_neg (by omega)])) <;> rfl)) | (refine q_x (KM.stay' hI (hI.sq 3) ?_); unfold countR; ((repeat (first | rw [if_pos (by omega)] | rw [if_neg (by omega)])) <;> rfl)) | (refine q_x (KM.stay' hI (hI.sq 1) ?_); unfold countR; ((repeat (first | rw [if_pos (by omega)] | rw [if_neg (by omega)])) <;> rfl)) | (refine q_x (KM.stay' hI hI.u ?_); unfold countR; ((repeat (first | rw [if_pos (by omega)] | rw [if_neg (by omega)])) <;> rfl)) | (refine q_x (KM.stay' hI hI.tn ?_); unfold countR; ((repeat (first | rw [if_pos (by omega)] | rw [if_neg (by omega)])) <;> rfl)) | (refine q_x (KM.stay' hI ea ?_); unfold countR; ((repeat (first | rw [if_pos (by omega)] | rw [if_neg (by omega)])) <;> rfl)) | (refine q_x (KM.stay' hI ef ?_); unfold countR; ((repeat (first | rw [if_pos (by omega)] | rw [if_neg (by omega)])) <;> rfl))
  refine w_tabC (5) (tgt := 108) dX10_count_34 (by omega) (by decide) rfl (by decide) (fun t5 => ?_) (fun t5 => ?_)
  · refine w_aload_n dX10_count_108 rfl ?_
    refine cVm dX10_count_109 ok_X10_fell lv10_147 (c_X10_fell hO (by omega)) rfl (congrArg Prod.fst g0_238) (by decide) (by decide) rfl (by decide) (Nat.le_of_ble_eq_true rfl) (fun r109 => ?_)
    refine w_iret dX10_count_112 rfl (by omega) ?_ ⟨Nat.le_refl _, Nat.le_refl _⟩
    first | (refine q_x (KM.stay hI ?_); unfold countR; ((repeat (first | rw [if_pos (by omega)] | rw [if_neg (by omega)])) <;> rfl)) | (refine q_x (KM.stay' hI ep ?_); unfold countR; ((repeat (first | rw [if_pos (by omega)] | rw [if_neg (by omega)])) <;> rfl)) | (refine q_x (KM.stay' hI (hI.sq 0) ?_); unfold countR; ((repeat (first | rw [if_pos (by omega)] | rw [if_neg (by omega)])) <;> rfl)) | (refine q_x (KM.stay' hI (hI.sq 3) ?_); unfold countR; ((repeat (first | rw [if_pos (by omega)] | rw [if_neg (by omega)])) <;> rfl)) | (refine q_x (KM.stay' hI (hI.sq 1) ?_); unfold countR; ((repeat (first | rw [if_pos (by omega)] | rw [if_neg (by omega)])) <;> rfl)) | (refine q_x (KM.stay' hI hI.u ?_); unfold countR; ((repeat (first | rw [if_pos (by omega)] | rw [if_neg (by omega)])) <;> rfl)) | (refine q_x (KM.stay' hI hI.tn ?_); unfold countR; ((repeat (first | rw [if_pos (by omega)] | rw [if_neg (by omega)])) <;> rfl)) | (refine q_x (KM.stay' hI ea ?_); unfold countR; ((repeat (first | rw [if_pos (by omega)] | rw [if_neg (by omega)])) <;> rfl)) | (refine q_x (KM.stay' hI ef ?_); unfold countR; ((repeat (first | rw [if_pos (by omega)] | rw [if_neg (by omega)])) <;> rfl))
  refine w_tabC (6) (tgt := 113) dX10_count_34 (by omega) (by decide) rfl (by decide) (fun t6 => ?_) (fun t6 => ?_)
  · refine w_aload_n dX10_count_113 rfl ?_
    refine r_getI (q := 15) dX10_count_114 fl10_121 g0_238 (by decide) rfl (by decide) rfl (fun r114 => ?_)
    refine w_iret dX10_count_117 rfl (by omega) ?_ ⟨Nat.le_refl _, Nat.le_refl _⟩
    first | (refine q_x (KM.stay hI ?_); unfold countR; ((repeat (first | rw [if_pos (by omega)] | rw [if_neg (by omega)])) <;> rfl)) | (refine q_x (KM.stay' hI ep ?_); unfold countR; ((repeat (first | rw [if_pos (by omega)] | rw [if_neg (by omega)])) <;> rfl)) | (refine q_x (KM.stay' hI (hI.sq 0) ?_); unfold countR; ((repeat (first | rw [if_pos (by omega)] | rw [if_neg (by omega)])) <;> rfl)) | (refine q_x (KM.stay' hI (hI.sq 3) ?_); unfold countR; ((repeat (first | rw [if_pos (by omega)] | rw [if_neg (by omega)])) <;> rfl)) | (refine q_x (KM.stay' hI (hI.sq 1) ?_); unfold countR; ((repeat (first | rw [if_pos (by omega)] | rw [if_neg (by omega)])) <;> rfl)) | (refine q_x (KM.stay' hI hI.u ?_); unfold countR; ((repeat (first | rw [if_pos (by omega)] | rw [if_neg (by omega)])) <;> rfl)) | (refine q_x (KM.stay' hI hI.tn ?_); unfold countR; ((repeat (first | rw [if_pos (by omega)] | rw [if_neg (by omega)])) <;> rfl)) | (refine q_x (KM.stay' hI ea ?_); unfold countR; ((repeat (first | rw [if_pos (by omega)] | rw [if_neg (by omega)])) <;> rfl)) | (refine q_x (KM.stay' hI ef ?_); unfold countR; ((repeat (first | rw [if_pos (by omega)] | rw [if_neg (by omega)])) <;> rfl))
  refine w_tabC (7) (tgt := 118) dX10_count_34 (by omega) (by decide) rfl (by decide) (fun t7 => ?_) (fun t7 => ?_)
  · refine w_aload_n dX10_count_118 rfl ?_
    refine r_getI (q := 8) dX10_count_119 fl10_74 g0_238 (by decide) rfl (by decide) rfl (fun r119 => ?_)
    refine w_iret dX10_count_122 rfl (by omega) ?_ ⟨Nat.le_refl _, Nat.le_refl _⟩
    first | (refine q_x (KM.stay hI ?_); unfold countR; ((repeat (first | rw [if_pos (by omega)] | rw [if_neg (by omega)])) <;> rfl)) | (refine q_x (KM.stay' hI ep ?_); unfold countR; ((repeat (first | rw [if_pos (by omega)] | rw [if_neg (by omega)])) <;> rfl)) | (refine q_x (KM.stay' hI (hI.sq 0) ?_); unfold countR; ((repeat (first | rw [if_pos (by omega)] | rw [if_neg (by omega)])) <;> rfl)) | (refine q_x (KM.stay' hI (hI.sq 3) ?_); unfold countR; ((repeat (first | rw [if_pos (by omega)] | rw [if_neg (by omega)])) <;> rfl)) | (refine q_x (KM.stay' hI (hI.sq 1) ?_); unfold countR; ((repeat (first | rw [if_pos (by omega)] | rw [if_neg (by omega)])) <;> rfl)) | (refine q_x (KM.stay' hI hI.u ?_); unfold countR; ((repeat (first | rw [if_pos (by omega)] | rw [if_neg (by omega)])) <;> rfl)) | (refine q_x (KM.stay' hI hI.tn ?_); unfold countR; ((repeat (first | rw [if_pos (by omega)] | rw [if_neg (by omega)])) <;> rfl)) | (refine q_x (KM.stay' hI ea ?_); unfold countR; ((repeat (first | rw [if_pos (by omega)] | rw [if_neg (by omega)])) <;> rfl)) | (refine q_x (KM.stay' hI ef ?_); unfold countR; ((repeat (first | rw [if_pos (by omega)] | rw [if_neg (by omega)])) <;> rfl))
  refine w_tabOut (tgt := 123) dX10_count_34 (by omega) (by omega) (by decide) ?_
  refine w_ldc dX10_count_123 co10_60 ?_
  refine w_iret dX10_count_125 rfl (by omega) ?_ ⟨Nat.le_refl _, Nat.le_refl _⟩
  first | (refine q_x (KM.stay hI ?_); unfold countR; ((repeat (first | rw [if_pos (by omega)] | rw [if_neg (by omega)])) <;> rfl)) | (refine q_x (KM.stay' hI ep ?_); unfold countR; ((repeat (first | rw [if_pos (by omega)] | rw [if_neg (by omega)])) <;> rfl)) | (refine q_x (KM.stay' hI (hI.sq 0) ?_); unfold countR; ((repeat (first | rw [if_pos (by omega)] | rw [if_neg (by omega)])) <;> rfl)) | (refine q_x (KM.stay' hI (hI.sq 3) ?_); unfold countR; ((repeat (first | rw [if_pos (by omega)] | rw [if_neg (by omega)])) <;> rfl)) | (refine q_x (KM.stay' hI (hI.sq 1) ?_); unfold countR; ((repeat (first | rw [if_pos (by omega)] | rw [if_neg (by omega)])) <;> rfl)) | (refine q_x (KM.stay' hI hI.u ?_); unfold countR; ((repeat (first | rw [if_pos (by omega)] | rw [if_neg (by omega)])) <;> rfl)) | (refine q_x (KM.stay' hI hI.tn ?_); unfold countR; ((repeat (first | rw [if_pos (by omega)] | rw [if_neg (by omega)])) <;> rfl)) | (refine q_x (KM.stay' hI ea ?_); unfold countR; ((repeat (first | rw [if_pos (by omega)] | rw [if_neg (by omega)])) <;> rfl)) | (refine q_x (KM.stay' hI ef ?_); unfold countR; ((repeat (first | rw [if_pos (by omega)] | rw [if_neg (by omega)])) <;> rfl))
theorem l_X10_estate {E : EV} {M : MM} {S : SS} {B h : Int} {Q : PP} (hM : M 243 = S) (hO : SOK B S) (hh : R32 h) (hQ : Wp E mX10_estate (kd 9) 68 [some (vr 238), some (vi h), some (vi (wetF S h)), some (vi (S 0))] [] N0 G0 M Q) :
    ∀ (k c : Nat) (z s : Int), z = c → s = sumI c (fun c => if S (8 + 5 * (c : Int)) = h then S (7 + 5 * (c : Int)) else 0) → (c : Int) ≤ S 0 → (S 0).toNat - c < k → Wp E mX10_estate (kd 9) 29 [some (vr 238), some (vi h), some (vi s), some (vi z)] [] N0 G0 M Q := by
  intro k
  have hn := hO.1
  induction k with
  | zero => intro c z s hz hs hc hk; exact absurd hk (by omega)
  | succ k ih =>
    intro c z s hz hs hc hk
    subst hz
    subst hs
    have hle := sumI_le (n := c) (g := fun c => if S (8 + 5 * (c : Int)) = h then S (7 + 5 * (c : Int)) else 0) (B := 99) (fun i hi => by have := hO.cl (c := (i : Int)) (by omega) (by omega); split <;> omega)
    have e0 : M 243 0 = S 0 := by rw [hM]
    have e1 : M 243 (8 + 5 * (c : Int)) = S (8 + 5 * (c : Int)) := by rw [hM]
    have e2 : M 243 (7 + 5 * (c : Int)) = S (7 + 5 * (c : Int)) := by rw [hM]
    have hcl := hO.cl (c := (c : Int)) (by omega)
    refine w_iload_n dX10_estate_29 rfl ?_
    refine w_aload_n dX10_estate_30 rfl ?_
    refine w_getR (r := 243) dX10_estate_31 fl10_22 g0_238 (by decide) rfl ?_
    refine w_iconst dX10_estate_34 ?_
    refine r_ild dX10_estate_35 g0_243 (by decide) (by omega) (by omega) (by decide) (fun r35 => ?_)
    refine w_icmp_ge (tgt := 68) dX10_estate_36 (by decide) (by omega) (by omega) (fun hc => ?_) (fun hc => ?_)
    · have ec : (S 0).toNat = c := by omega
      unfold wetF at hQ
      rw [ec] at hQ
      rw [show ((c : Nat) : Int) = S 0 by omega]
      exact hQ
    · have hcl := hcl (by omega)
      refine w_iload_n dX10_estate_39 rfl ?_
      refine w_aload_n dX10_estate_40 rfl ?_
      refine w_iload_n dX10_estate_41 rfl ?_
      refine w_iconst dX10_estate_42 ?_
      refine cVm dX10_estate_43 ok_X10_of lv10_126 (c_X10_of (q := 8 + 5 * (c : Int)) (by omega) (by omega) (by omega)) rfl (congrArg Prod.fst g0_238) (by decide) (by decide) rfl (by decide) (Nat.le_of_ble_eq_true rfl) (fun r43 => ?_)
      refine w_iload_n dX10_estate_46 rfl ?_
      refine w_icmp_ne (tgt := 59) dX10_estate_47 (by decide) (by omega) (by omega) (fun h47 => ?_) (fun h47 => ?_)
      · refine w_iconst dX10_estate_59 ?_
        refine w_iadd dX10_estate_60 ?_
        refine w_istore_n dX10_estate_61 (by decide) ?_
        refine w_iinc dX10_estate_62 rfl (by decide) ?_
        refine w_goto (tgt := 29) dX10_estate_65 (by decide) ?_
        first | exact ih (c + 1) _ _ (by omega) (by rw [sumI, if_neg (by omega)]) (by omega) (by omega) | exact ih (c + 1) _ _ (by omega) (by rw [sumI, if_pos (by omega), e2]) (by omega) (by omega)
      · refine w_aload_n dX10_estate_50 rfl ?_
        refine w_iload_n dX10_estate_51 rfl ?_
        refine w_iconst dX10_estate_52 ?_
        refine cVm dX10_estate_53 ok_X10_of lv10_126 (c_X10_of (q := 7 + 5 * (c : Int)) (by omega) (by omega) (by omega)) rfl (congrArg Prod.fst g0_238) (by decide) (by decide) rfl (by decide) (Nat.le_of_ble_eq_true rfl) (fun r53 => ?_)
        refine w_goto (tgt := 60) dX10_estate_56 (by decide) ?_
        refine w_iadd dX10_estate_60 ?_
        refine w_istore_n dX10_estate_61 (by decide) ?_
        refine w_iinc dX10_estate_62 rfl (by decide) ?_
        refine w_goto (tgt := 29) dX10_estate_65 (by decide) ?_
        first | exact ih (c + 1) _ _ (by omega) (by rw [sumI, if_neg (by omega)]) (by omega) (by omega) | exact ih (c + 1) _ _ (by omega) (by rw [sumI, if_pos (by omega), e2]) (by omega) (by omega)
theorem c_X10_estate {E : EV} {M : MM} {p : PS} {h : Int} (hI : MI M p) (hP : POK p) (hh : R32 h) : Cx E mX10_estate 9 [vr 238, vi h] M (KM M (estR p h)) := by
  refine Ct.of [some (vr 238), some (vi h), none, none] rfl rfl rfl (Nat.le_of_ble_eq_true rfl) ?_
  have hs := hI.sn
  have hn := hP.hs.n
  have er := sumI_le (n := (p.S 0).toNat) (g := fun c => if p.S (8 + 5 * (c : Int)) = h then p.S (7 + 5 * (c : Int)) else 0) (B := 99) (fun i hi => by have := hP.hs.2.1.cl (c := (i : Int)) (by omega) (by omega); split <;> omega)
  have er2 : 0 ≤ wetF p.S h ∧ wetF p.S h ≤ 1000 := by unfold wetF; omega
  refine w_aload_n dX10_estate_0 rfl ?_
  refine r_getI (q := 13) dX10_estate_1 fl10_117 g0_238 (by decide) rfl (by decide) rfl (fun r1 => ?_)
  refine w_if_ne (tgt := 10) dX10_estate_4 (by decide) (by omega) (fun h4 => ?_) (fun h4 => ?_)
  · refine w_iload_n dX10_estate_10 rfl ?_
    refine w_i2l dX10_estate_11 (by omega) ?_
    refine w_lconst0 dX10_estate_12 ?_
    refine w_ldc2 dX10_estate_13 cl10_159 ?_
    refine cSm dX10_estate_16 ok_X10_in (Or.inl ls10_50) (c_X10_in (by omega) (by omega) (by omega)) rfl  rfl (by decide) (Nat.le_of_ble_eq_true rfl) (fun r16 => ?_)
    refine w_ifB_ne (tgt := 25) dX10_estate_19 (by decide) (fun h19 => ?_) (fun h19 => ?_)
    · (first | replace h19 := of_decide_eq_true h19 | replace h19 := of_decide_eq_false h19 | skip)
      refine w_iconst dX10_estate_25 ?_
      refine w_istore_n dX10_estate_26 (by decide) ?_
      refine w_iconst dX10_estate_27 ?_
      refine w_istore_n dX10_estate_28 (by decide) ?_
      refine l_X10_estate hI.S hP.hs.2.1 hh ?_ ((p.S 0).toNat + 1) 0 _ _ rfl rfl (by omega) (by omega)
      refine w_iload_n dX10_estate_68 rfl ?_
      refine w_iret dX10_estate_69 rfl (by omega) ?_ ⟨Nat.le_refl _, Nat.le_refl _⟩
      exact q_x (KM.stay hI (by unfold estR; ((repeat (first | rw [if_pos (by omega)] | rw [if_neg (by omega)])) <;> rfl)))
    · (first | replace h19 := of_decide_eq_true h19 | replace h19 := of_decide_eq_false h19 | skip)
      refine w_ldc dX10_estate_22 co10_60 ?_
      refine w_iret dX10_estate_24 rfl (by omega) ?_ ⟨Nat.le_refl _, Nat.le_refl _⟩
      exact (q_x (KM.stay hI (by unfold estR; ((repeat (first | rw [if_pos (by omega)] | rw [if_neg (by omega)])) <;> rfl))))
  · refine w_ldc dX10_estate_7 co10_144 ?_
    refine w_iret dX10_estate_9 rfl (by omega) ?_ ⟨Nat.le_refl _, Nat.le_refl _⟩
    exact (q_x (KM.stay hI (by unfold estR; ((repeat (first | rw [if_pos (by omega)] | rw [if_neg (by omega)])) <;> rfl))))
theorem c_X10_apart {E : EV} {M : MM} {a b : Int} (ha : 0 ≤ a ∧ a ≤ 1000) (hb : 0 ≤ b ∧ b ≤ 1000) : Cm E mX10_apart 0 [vi a, vi b] M (abF a b) M := by
  refine Ct.of [some (vi a), some (vi b)] rfl rfl rfl (Nat.le_of_ble_eq_true rfl) ?_
  refine w_iload_n dX10_apart_0 rfl ?_
  refine w_iload_n dX10_apart_1 rfl ?_
  refine w_icmp_le (tgt := 11) dX10_apart_2 (by decide) (by omega) (by omega) (fun h2 => ?_) (fun h2 => ?_)
  · refine w_iload_n dX10_apart_11 rfl ?_
    refine w_iload_n dX10_apart_12 rfl ?_
    refine w_isub dX10_apart_13 ?_
    refine w_iret dX10_apart_14 rfl (by omega) ?_ ⟨Nat.le_refl _, Nat.le_refl _⟩
    exact (q_i (by unfold abF; split <;> omega))
  · refine w_iload_n dX10_apart_5 rfl ?_
    refine w_iload_n dX10_apart_6 rfl ?_
    refine w_isub dX10_apart_7 ?_
    refine w_goto (tgt := 14) dX10_apart_8 (by decide) ?_
    refine w_iret dX10_apart_14 rfl (by omega) ?_ ⟨Nat.le_refl _, Nat.le_refl _⟩
    exact (q_i (by unfold abF; split <;> omega))
theorem c_X10_likeness {E : EV} {M : MM} {p : PS} {c o : Int} (hI : MI M p) (hP : POK p) (hc : R32 c) (ho : R32 o) : Cx E mX10_likeness 9 [vr 238, vi c, vi o] M (KM M (likeR p c o)) := by
  refine Ct.of [some (vr 238), some (vi c), some (vi o), none] rfl rfl rfl (Nat.le_of_ble_eq_true rfl) ?_
  have hn := hP.hs.n
  have e0 := hI.sq 0
  have k1 := hI.sq (4 + 5 * c)
  have k2 := hI.sq (7 + 5 * c)
  have k3 := hI.sq (6 + 5 * c)
  have k4 := hI.sq (4 + 5 * o)
  have k5 := hI.sq (7 + 5 * o)
  have k6 := hI.sq (6 + 5 * o)
  have a1 : abF (M 243 (6 + 5 * c)) (M 243 (6 + 5 * o)) = abF (p.S (6 + 5 * c)) (p.S (6 + 5 * o)) := by rw [k3, k6]
  have a2 : abF (M 243 (7 + 5 * c)) (M 243 (7 + 5 * o)) = abF (p.S (7 + 5 * c)) (p.S (7 + 5 * o)) := by rw [k2, k5]
  refine w_aload_n dX10_likeness_0 rfl ?_
  refine w_iload_n dX10_likeness_1 rfl ?_
  refine cVm dX10_likeness_2 ok_X10_isCloud lv10_156 (c_X10_isCloud (by omega) (by omega)) rfl (congrArg Prod.fst g0_238) (by decide) (by decide) rfl (by decide) (Nat.le_of_ble_eq_true rfl) (fun r2 => ?_)
  refine w_ifB_eq (tgt := 21) dX10_likeness_5 (by decide) (fun h5 => ?_) (fun h5 => ?_)
  · (first | replace h5 := of_decide_eq_true h5 | replace h5 := of_decide_eq_false h5 | skip)
    refine w_ldc dX10_likeness_21 co10_60 ?_
    refine w_iret dX10_likeness_23 rfl (by omega) ?_ ⟨Nat.le_refl _, Nat.le_refl _⟩
    exact (q_x (KM.stay hI (by unfold likeR; ((repeat (first | rw [if_pos (by omega)] | rw [if_neg (by omega)])) <;> rfl))))
  · (first | replace h5 := of_decide_eq_true h5 | replace h5 := of_decide_eq_false h5 | skip)
    refine w_aload_n dX10_likeness_8 rfl ?_
    refine w_iload_n dX10_likeness_9 rfl ?_
    refine cVm dX10_likeness_10 ok_X10_isCloud lv10_156 (c_X10_isCloud (by omega) (by omega)) rfl (congrArg Prod.fst g0_238) (by decide) (by decide) rfl (by decide) (Nat.le_of_ble_eq_true rfl) (fun r10 => ?_)
    refine w_ifB_eq (tgt := 21) dX10_likeness_13 (by decide) (fun h13 => ?_) (fun h13 => ?_)
    · (first | replace h13 := of_decide_eq_true h13 | replace h13 := of_decide_eq_false h13 | skip)
      refine w_ldc dX10_likeness_21 co10_60 ?_
      refine w_iret dX10_likeness_23 rfl (by omega) ?_ ⟨Nat.le_refl _, Nat.le_refl _⟩
      exact (q_x (KM.stay hI (by unfold likeR; ((repeat (first | rw [if_pos (by omega)] | rw [if_neg (by omega)])) <;> rfl))))
    · (first | replace h13 := of_decide_eq_true h13 | replace h13 := of_decide_eq_false h13 | skip)
      refine w_iload_n dX10_likeness_16 rfl ?_
      refine w_iload_n dX10_likeness_17 rfl ?_
      refine w_icmp_ne (tgt := 24) dX10_likeness_18 (by decide) (by omega) (by omega) (fun h18 => ?_) (fun h18 => ?_)
      · have kb := hP.hs.2.1.cl (c := c) (by omega) (by omega)
        have kc := hP.hs.2.1.cl (c := o) (by omega) (by omega)
        have b1 : 0 ≤ abF (M 243 (6 + 5 * c)) (M 243 (6 + 5 * o)) ∧ abF (M 243 (6 + 5 * c)) (M 243 (6 + 5 * o)) ≤ 8 := (by unfold abF; split <;> omega)
        have b2 : 0 ≤ abF (M 243 (7 + 5 * c)) (M 243 (7 + 5 * o)) ∧ abF (M 243 (7 + 5 * c)) (M 243 (7 + 5 * o)) ≤ 99 := (by unfold abF; split <;> omega)
        refine w_bipush dX10_likeness_24 (by decide +kernel) ?_
        refine w_aload_n dX10_likeness_26 rfl ?_
        refine w_iload_n dX10_likeness_27 rfl ?_
        refine w_iconst dX10_likeness_28 ?_
        refine cVm dX10_likeness_29 ok_X10_of lv10_126 (c_X10_of (q := 4 + 5 * c) (by omega) (by omega) (by omega)) rfl (congrArg Prod.fst g0_238) (by decide) (by decide) rfl (by decide) (Nat.le_of_ble_eq_true rfl) (fun r29 => ?_)
        refine w_aload_n dX10_likeness_32 rfl ?_
        refine w_iload_n dX10_likeness_33 rfl ?_
        refine w_iconst dX10_likeness_34 ?_
        refine cVm dX10_likeness_35 ok_X10_of lv10_126 (c_X10_of (q := 4 + 5 * o) (by omega) (by omega) (by omega)) rfl (congrArg Prod.fst g0_238) (by decide) (by decide) rfl (by decide) (Nat.le_of_ble_eq_true rfl) (fun r35 => ?_)
        refine w_icmp_ne (tgt := 45) dX10_likeness_38 (by decide) (by omega) (by omega) (fun h38 => ?_) (fun h38 => ?_)
        · refine w_bipush dX10_likeness_45 (by decide +kernel) ?_
          refine w_isub dX10_likeness_47 ?_
          refine w_iconst dX10_likeness_48 ?_
          refine w_aload_n dX10_likeness_49 rfl ?_
          refine w_iload_n dX10_likeness_50 rfl ?_
          refine w_iconst dX10_likeness_51 ?_
          refine cVm dX10_likeness_52 ok_X10_of lv10_126 (c_X10_of (q := 6 + 5 * c) (by omega) (by omega) (by omega)) rfl (congrArg Prod.fst g0_238) (by decide) (by decide) rfl (by decide) (Nat.le_of_ble_eq_true rfl) (fun r52 => ?_)
          refine w_aload_n dX10_likeness_55 rfl ?_
          refine w_iload_n dX10_likeness_56 rfl ?_
          refine w_iconst dX10_likeness_57 ?_
          refine cVm dX10_likeness_58 ok_X10_of lv10_126 (c_X10_of (q := 6 + 5 * o) (by omega) (by omega) (by omega)) rfl (congrArg Prod.fst g0_238) (by decide) (by decide) rfl (by decide) (Nat.le_of_ble_eq_true rfl) (fun r58 => ?_)
          refine cSm dX10_likeness_61 ok_X10_apart (Or.inl ls10_199) (c_X10_apart (by omega) (by omega)) rfl  rfl (by decide) (Nat.le_of_ble_eq_true rfl) (fun r61 => ?_)
          refine w_imul dX10_likeness_64 ?_
          refine w_isub dX10_likeness_65 ?_
          refine w_aload_n dX10_likeness_66 rfl ?_
          refine w_iload_n dX10_likeness_67 rfl ?_
          refine w_iconst dX10_likeness_68 ?_
          refine cVm dX10_likeness_69 ok_X10_of lv10_126 (c_X10_of (q := 7 + 5 * c) (by omega) (by omega) (by omega)) rfl (congrArg Prod.fst g0_238) (by decide) (by decide) rfl (by decide) (Nat.le_of_ble_eq_true rfl) (fun r69 => ?_)
          refine w_aload_n dX10_likeness_72 rfl ?_
          refine w_iload_n dX10_likeness_73 rfl ?_
          refine w_iconst dX10_likeness_74 ?_
          refine cVm dX10_likeness_75 ok_X10_of lv10_126 (c_X10_of (q := 7 + 5 * o) (by omega) (by omega) (by omega)) rfl (congrArg Prod.fst g0_238) (by decide) (by decide) rfl (by decide) (Nat.le_of_ble_eq_true rfl) (fun r75 => ?_)
          refine cSm dX10_likeness_78 ok_X10_apart (Or.inl ls10_199) (c_X10_apart (by omega) (by omega)) rfl  rfl (by decide) (Nat.le_of_ble_eq_true rfl) (fun r78 => ?_)
          refine w_isub dX10_likeness_81 ?_
          refine w_istore_n dX10_likeness_82 (by decide) ?_
          refine w_iload_n dX10_likeness_83 rfl ?_
          refine w_if_ge (tgt := 91) dX10_likeness_84 (by decide) (by omega) (fun h84 => ?_) (fun h84 => ?_)
          · refine w_iload_n dX10_likeness_91 rfl ?_
            refine w_iret dX10_likeness_92 rfl (by omega) ?_ ⟨Nat.le_refl _, Nat.le_refl _⟩
            refine q_x (KM.stay' hI (z' := if lkF p.S c o < 0 then 0 else lkF p.S c o) ?_ (by unfold likeR; exact (if_pos (by omega)).symm))
            unfold lkF
            first | rw [if_pos (show p.S (4 + 5 * c) = p.S (4 + 5 * o) by omega)] | rw [if_neg (show ¬ p.S (4 + 5 * c) = p.S (4 + 5 * o) by omega)]
            (repeat' split) <;> omega
          · refine w_iconst dX10_likeness_87 ?_
            refine w_goto (tgt := 92) dX10_likeness_88 (by decide) ?_
            refine w_iret dX10_likeness_92 rfl (by omega) ?_ ⟨Nat.le_refl _, Nat.le_refl _⟩
            refine q_x (KM.stay' hI (z' := if lkF p.S c o < 0 then 0 else lkF p.S c o) ?_ (by unfold likeR; exact (if_pos (by omega)).symm))
            unfold lkF
            first | rw [if_pos (show p.S (4 + 5 * c) = p.S (4 + 5 * o) by omega)] | rw [if_neg (show ¬ p.S (4 + 5 * c) = p.S (4 + 5 * o) by omega)]
            (repeat' split) <;> omega
        · refine w_iconst dX10_likeness_41 ?_
          refine w_goto (tgt := 47) dX10_likeness_42 (by decide) ?_
          refine w_isub dX10_likeness_47 ?_
          refine w_iconst dX10_likeness_48 ?_
          refine w_aload_n dX10_likeness_49 rfl ?_
          refine w_iload_n dX10_likeness_50 rfl ?_
          refine w_iconst dX10_likeness_51 ?_
          refine cVm dX10_likeness_52 ok_X10_of lv10_126 (c_X10_of (q := 6 + 5 * c) (by omega) (by omega) (by omega)) rfl (congrArg Prod.fst g0_238) (by decide) (by decide) rfl (by decide) (Nat.le_of_ble_eq_true rfl) (fun r52 => ?_)
          refine w_aload_n dX10_likeness_55 rfl ?_
          refine w_iload_n dX10_likeness_56 rfl ?_
          refine w_iconst dX10_likeness_57 ?_
          refine cVm dX10_likeness_58 ok_X10_of lv10_126 (c_X10_of (q := 6 + 5 * o) (by omega) (by omega) (by omega)) rfl (congrArg Prod.fst g0_238) (by decide) (by decide) rfl (by decide) (Nat.le_of_ble_eq_true rfl) (fun r58 => ?_)
          refine cSm dX10_likeness_61 ok_X10_apart (Or.inl ls10_199) (c_X10_apart (by omega) (by omega)) rfl  rfl (by decide) (Nat.le_of_ble_eq_true rfl) (fun r61 => ?_)
          refine w_imul dX10_likeness_64 ?_
          refine w_isub dX10_likeness_65 ?_
          refine w_aload_n dX10_likeness_66 rfl ?_
          refine w_iload_n dX10_likeness_67 rfl ?_
          refine w_iconst dX10_likeness_68 ?_
          refine cVm dX10_likeness_69 ok_X10_of lv10_126 (c_X10_of (q := 7 + 5 * c) (by omega) (by omega) (by omega)) rfl (congrArg Prod.fst g0_238) (by decide) (by decide) rfl (by decide) (Nat.le_of_ble_eq_true rfl) (fun r69 => ?_)
          refine w_aload_n dX10_likeness_72 rfl ?_
          refine w_iload_n dX10_likeness_73 rfl ?_
          refine w_iconst dX10_likeness_74 ?_
          refine cVm dX10_likeness_75 ok_X10_of lv10_126 (c_X10_of (q := 7 + 5 * o) (by omega) (by omega) (by omega)) rfl (congrArg Prod.fst g0_238) (by decide) (by decide) rfl (by decide) (Nat.le_of_ble_eq_true rfl) (fun r75 => ?_)
          refine cSm dX10_likeness_78 ok_X10_apart (Or.inl ls10_199) (c_X10_apart (by omega) (by omega)) rfl  rfl (by decide) (Nat.le_of_ble_eq_true rfl) (fun r78 => ?_)
          refine w_isub dX10_likeness_81 ?_
          refine w_istore_n dX10_likeness_82 (by decide) ?_
          refine w_iload_n dX10_likeness_83 rfl ?_
          refine w_if_ge (tgt := 91) dX10_likeness_84 (by decide) (by omega) (fun h84 => ?_) (fun h84 => ?_)
          · refine w_iload_n dX10_likeness_91 rfl ?_
            refine w_iret dX10_likeness_92 rfl (by omega) ?_ ⟨Nat.le_refl _, Nat.le_refl _⟩
            refine q_x (KM.stay' hI (z' := if lkF p.S c o < 0 then 0 else lkF p.S c o) ?_ (by unfold likeR; exact (if_pos (by omega)).symm))
            unfold lkF
            first | rw [if_pos (show p.S (4 + 5 * c) = p.S (4 + 5 * o) by omega)] | rw [if_neg (show ¬ p.S (4 + 5 * c) = p.S (4 + 5 * o) by omega)]
            (repeat' split) <;> omega
          · refine w_iconst dX10_likeness_87 ?_
            refine w_goto (tgt := 92) dX10_likeness_88 (by decide) ?_
            refine w_iret dX10_likeness_92 rfl (by omega) ?_ ⟨Nat.le_refl _, Nat.le_refl _⟩
            refine q_x (KM.stay' hI (z' := if lkF p.S c o < 0 then 0 else lkF p.S c o) ?_ (by unfold likeR; exact (if_pos (by omega)).symm))
            unfold lkF
            first | rw [if_pos (show p.S (4 + 5 * c) = p.S (4 + 5 * o) by omega)] | rw [if_neg (show ¬ p.S (4 + 5 * c) = p.S (4 + 5 * o) by omega)]
            (repeat' split) <;> omega
      · refine w_ldc dX10_likeness_21 co10_60 ?_
        refine w_iret dX10_likeness_23 rfl (by omega) ?_ ⟨Nat.le_refl _, Nat.le_refl _⟩
        exact (q_x (KM.stay hI (by unfold likeR; ((repeat (first | rw [if_pos (by omega)] | rw [if_neg (by omega)])) <;> rfl))))
theorem c_X10_from {E : EV} {M : MM} {p : PS} {c n : Int} (hI : MI M p) (hP : POK p) (hc : R32 c) (hn9 : R32 n) : Cx E mX10_from 9 [vr 238, vi c, vi n] M (KM M (fromR p c n)) := by
  refine Ct.of [some (vr 238), some (vi c), some (vi n), none] rfl rfl rfl (Nat.le_of_ble_eq_true rfl) ?_
  have hn := hP.hs.n
  have hw := hP.hs.2.1.2.1
  have e0 := hI.sq 0
  have e1 := hI.sq 1
  have k1 := hI.sq (4 + 5 * c)
  have k2 := hI.sq (7 + 5 * c)
  have k3 := hI.sq (5 + 5 * c)
  have nm : ∀ b : Int, 0 ≤ b → b ≤ 16 → 0 ≤ n → n ≤ 60 → 0 ≤ n * (16 - b) ∧ n * (16 - b) ≤ 960 := fun b b0 b1 n0 n1 => by
    have h1 : 0 ≤ n * (16 - b) := Int.mul_nonneg n0 (by omega)
    have h2 : n * (16 - b) ≤ 60 * 16 := Int.mul_le_mul (by omega) (by omega) (by omega) (by decide)
    omega
  have fin : ∀ a b : Int, (a + n * (16 - b)) % 16 = (a - n * b) % 16 := fun a b => by
    rw [Int.mul_sub]
    omega
  refine w_aload_n dX10_from_0 rfl ?_
  refine w_iload_n dX10_from_1 rfl ?_
  refine cVm dX10_from_2 ok_X10_isCloud lv10_156 (c_X10_isCloud (by omega) (by omega)) rfl (congrArg Prod.fst g0_238) (by decide) (by decide) rfl (by decide) (Nat.le_of_ble_eq_true rfl) (fun r2 => ?_)
  refine w_ifB_eq (tgt := 20) dX10_from_5 (by decide) (fun h5 => ?_) (fun h5 => ?_)
  · (first | replace h5 := of_decide_eq_true h5 | replace h5 := of_decide_eq_false h5 | skip)
    refine w_ldc dX10_from_20 co10_60 ?_
    refine w_iret dX10_from_22 rfl (by omega) ?_ ⟨Nat.le_refl _, Nat.le_refl _⟩
    exact (q_x (KM.stay hI (by unfold fromR; ((repeat (first | rw [if_pos (by omega)] | rw [if_neg (by omega)])) <;> rfl))))
  · (first | replace h5 := of_decide_eq_true h5 | replace h5 := of_decide_eq_false h5 | skip)
    refine w_iload_n dX10_from_8 rfl ?_
    refine w_i2l dX10_from_9 (by omega) ?_
    refine w_lconst0 dX10_from_10 ?_
    refine w_ldc2 dX10_from_11 cl10_169 ?_
    refine cSm dX10_from_14 ok_X10_in (Or.inl ls10_50) (c_X10_in (by omega) (by omega) (by omega)) rfl  rfl (by decide) (Nat.le_of_ble_eq_true rfl) (fun r14 => ?_)
    refine w_ifB_ne (tgt := 23) dX10_from_17 (by decide) (fun h17 => ?_) (fun h17 => ?_)
    · (first | replace h17 := of_decide_eq_true h17 | replace h17 := of_decide_eq_false h17 | skip)
      refine w_aload_n dX10_from_23 rfl ?_
      refine w_iload_n dX10_from_24 rfl ?_
      refine cVm dX10_from_25 ok_X10_isGone lv10_129 (c_X10_isGone (by omega) (by omega)) rfl (congrArg Prod.fst g0_238) (by decide) (by decide) rfl (by decide) (Nat.le_of_ble_eq_true rfl) (fun r25 => ?_)
      refine w_ifB_eq (tgt := 34) dX10_from_28 (by decide) (fun h28 => ?_) (fun h28 => ?_)
      · (first | replace h28 := of_decide_eq_true h28 | replace h28 := of_decide_eq_false h28 | skip)
        have kb := hP.hs.2.1.cl (c := c) (by omega) (by omega)
        refine w_aload_n dX10_from_34 rfl ?_
        refine w_iload_n dX10_from_35 rfl ?_
        refine w_iconst dX10_from_36 ?_
        refine cVm dX10_from_37 ok_X10_of lv10_126 (c_X10_of (q := 4 + 5 * c) (by omega) (by omega) (by omega)) rfl (congrArg Prod.fst g0_238) (by decide) (by decide) rfl (by decide) (Nat.le_of_ble_eq_true rfl) (fun r37 => ?_)
        refine w_iconst dX10_from_40 ?_
        refine w_icmp_le (tgt := 48) dX10_from_41 (by decide) (by omega) (by omega) (fun h41 => ?_) (fun h41 => ?_)
        · refine w_aload_n dX10_from_48 rfl ?_
          refine w_getR (r := 243) dX10_from_49 fl10_22 g0_238 (by decide) rfl ?_
          refine w_iconst dX10_from_52 ?_
          refine r_ild dX10_from_53 g0_243 (by decide) (by omega) (by omega) (by decide) (fun r53 => ?_)
          refine w_aload_n dX10_from_54 rfl ?_
          refine w_iload_n dX10_from_55 rfl ?_
          refine w_iconst dX10_from_56 ?_
          refine cVm dX10_from_57 ok_X10_of lv10_126 (c_X10_of (q := 4 + 5 * c) (by omega) (by omega) (by omega)) rfl (congrArg Prod.fst g0_238) (by decide) (by decide) rfl (by decide) (Nat.le_of_ble_eq_true rfl) (fun r57 => ?_)
          refine w_iconst dX10_from_60 ?_
          refine w_icmp_ne (tgt := 68) dX10_from_61 (by decide) (by omega) (by omega) (fun h61 => ?_) (fun h61 => ?_)
          · refine w_iconst dX10_from_68 ?_
            refine w_iadd dX10_from_69 ?_
            refine w_istore_n dX10_from_70 (by decide) ?_
            refine w_aload_n dX10_from_71 rfl ?_
            refine w_iload_n dX10_from_72 rfl ?_
            refine w_iconst dX10_from_73 ?_
            refine cVm dX10_from_74 ok_X10_of lv10_126 (c_X10_of (q := 5 + 5 * c) (by omega) (by omega) (by omega)) rfl (congrArg Prod.fst g0_238) (by decide) (by decide) rfl (by decide) (Nat.le_of_ble_eq_true rfl) (fun r74 => ?_)
            refine w_iload_n dX10_from_77 rfl ?_
            refine w_bipush dX10_from_78 (by decide +kernel) ?_
            refine w_iload_n dX10_from_80 rfl ?_
            refine w_isub dX10_from_81 ?_
            refine w_imul dX10_from_82 ?_
            refine w_iadd dX10_from_83 ?_
            refine w_bipush dX10_from_84 (by decide +kernel) ?_
            have nm0 := nm 0 (by omega) (by omega) (by omega) (by omega)
            have nm1 := nm (M 243 1 + 1) (by omega) (by omega) (by omega) (by omega)
            have nm2 := nm (M 243 1 + 0) (by omega) (by omega) (by omega) (by omega)
            refine w_irem dX10_from_86 (by omega) (by omega) (by omega) (by omega) ?_
            refine w_iret dX10_from_87 rfl (by omega) ?_ ⟨Nat.le_refl _, Nat.le_refl _⟩
            refine q_x (KM.stay' hI (z' := (p.S (5 + 5 * c) - n * speedF (p.S (4 + 5 * c)) (p.S 1)) % 16) ?_ (by unfold fromR; ((repeat (first | rw [if_pos (by omega)] | rw [if_neg (by omega)])) <;> rfl)))
            first | rw [fin, k3, show speedF (p.S (4 + 5 * c)) (p.S 1) = 0 from by unfold speedF; rw [if_neg (by omega), if_neg (by omega)]] | rw [fin, k3, e1, show speedF (p.S (4 + 5 * c)) (p.S 1) = p.S 1 + 1 from by unfold speedF; rw [if_pos (by omega)]] | rw [fin, k3, e1, show speedF (p.S (4 + 5 * c)) (p.S 1) = p.S 1 + 0 from by unfold speedF; rw [if_neg (by omega), if_pos (by omega), Int.add_zero]]
          · refine w_iconst dX10_from_64 ?_
            refine w_goto (tgt := 69) dX10_from_65 (by decide) ?_
            refine w_iadd dX10_from_69 ?_
            refine w_istore_n dX10_from_70 (by decide) ?_
            refine w_aload_n dX10_from_71 rfl ?_
            refine w_iload_n dX10_from_72 rfl ?_
            refine w_iconst dX10_from_73 ?_
            refine cVm dX10_from_74 ok_X10_of lv10_126 (c_X10_of (q := 5 + 5 * c) (by omega) (by omega) (by omega)) rfl (congrArg Prod.fst g0_238) (by decide) (by decide) rfl (by decide) (Nat.le_of_ble_eq_true rfl) (fun r74 => ?_)
            refine w_iload_n dX10_from_77 rfl ?_
            refine w_bipush dX10_from_78 (by decide +kernel) ?_
            refine w_iload_n dX10_from_80 rfl ?_
            refine w_isub dX10_from_81 ?_
            refine w_imul dX10_from_82 ?_
            refine w_iadd dX10_from_83 ?_
            refine w_bipush dX10_from_84 (by decide +kernel) ?_
            have nm0 := nm 0 (by omega) (by omega) (by omega) (by omega)
            have nm1 := nm (M 243 1 + 1) (by omega) (by omega) (by omega) (by omega)
            have nm2 := nm (M 243 1 + 0) (by omega) (by omega) (by omega) (by omega)
            refine w_irem dX10_from_86 (by omega) (by omega) (by omega) (by omega) ?_
            refine w_iret dX10_from_87 rfl (by omega) ?_ ⟨Nat.le_refl _, Nat.le_refl _⟩
            refine q_x (KM.stay' hI (z' := (p.S (5 + 5 * c) - n * speedF (p.S (4 + 5 * c)) (p.S 1)) % 16) ?_ (by unfold fromR; ((repeat (first | rw [if_pos (by omega)] | rw [if_neg (by omega)])) <;> rfl)))
            first | rw [fin, k3, show speedF (p.S (4 + 5 * c)) (p.S 1) = 0 from by unfold speedF; rw [if_neg (by omega), if_neg (by omega)]] | rw [fin, k3, e1, show speedF (p.S (4 + 5 * c)) (p.S 1) = p.S 1 + 1 from by unfold speedF; rw [if_pos (by omega)]] | rw [fin, k3, e1, show speedF (p.S (4 + 5 * c)) (p.S 1) = p.S 1 + 0 from by unfold speedF; rw [if_neg (by omega), if_pos (by omega), Int.add_zero]]
        · refine w_iconst dX10_from_44 ?_
          refine w_goto (tgt := 70) dX10_from_45 (by decide) ?_
          refine w_istore_n dX10_from_70 (by decide) ?_
          refine w_aload_n dX10_from_71 rfl ?_
          refine w_iload_n dX10_from_72 rfl ?_
          refine w_iconst dX10_from_73 ?_
          refine cVm dX10_from_74 ok_X10_of lv10_126 (c_X10_of (q := 5 + 5 * c) (by omega) (by omega) (by omega)) rfl (congrArg Prod.fst g0_238) (by decide) (by decide) rfl (by decide) (Nat.le_of_ble_eq_true rfl) (fun r74 => ?_)
          refine w_iload_n dX10_from_77 rfl ?_
          refine w_bipush dX10_from_78 (by decide +kernel) ?_
          refine w_iload_n dX10_from_80 rfl ?_
          refine w_isub dX10_from_81 ?_
          refine w_imul dX10_from_82 ?_
          refine w_iadd dX10_from_83 ?_
          refine w_bipush dX10_from_84 (by decide +kernel) ?_
          have nm0 := nm 0 (by omega) (by omega) (by omega) (by omega)
          have nm1 := nm (M 243 1 + 1) (by omega) (by omega) (by omega) (by omega)
          have nm2 := nm (M 243 1 + 0) (by omega) (by omega) (by omega) (by omega)
          refine w_irem dX10_from_86 (by omega) (by omega) (by omega) (by omega) ?_
          refine w_iret dX10_from_87 rfl (by omega) ?_ ⟨Nat.le_refl _, Nat.le_refl _⟩
          refine q_x (KM.stay' hI (z' := (p.S (5 + 5 * c) - n * speedF (p.S (4 + 5 * c)) (p.S 1)) % 16) ?_ (by unfold fromR; ((repeat (first | rw [if_pos (by omega)] | rw [if_neg (by omega)])) <;> rfl)))
          first | rw [fin, k3, show speedF (p.S (4 + 5 * c)) (p.S 1) = 0 from by unfold speedF; rw [if_neg (by omega), if_neg (by omega)]] | rw [fin, k3, e1, show speedF (p.S (4 + 5 * c)) (p.S 1) = p.S 1 + 1 from by unfold speedF; rw [if_pos (by omega)]] | rw [fin, k3, e1, show speedF (p.S (4 + 5 * c)) (p.S 1) = p.S 1 + 0 from by unfold speedF; rw [if_neg (by omega), if_pos (by omega), Int.add_zero]]
      · (first | replace h28 := of_decide_eq_true h28 | replace h28 := of_decide_eq_false h28 | skip)
        refine w_ldc dX10_from_31 co10_144 ?_
        refine w_iret dX10_from_33 rfl (by omega) ?_ ⟨Nat.le_refl _, Nat.le_refl _⟩
        exact (q_x (KM.stay hI (by unfold fromR; ((repeat (first | rw [if_pos (by omega)] | rw [if_neg (by omega)])) <;> rfl))))
    · (first | replace h17 := of_decide_eq_true h17 | replace h17 := of_decide_eq_false h17 | skip)
      refine w_ldc dX10_from_20 co10_60 ?_
      refine w_iret dX10_from_22 rfl (by omega) ?_ ⟨Nat.le_refl _, Nat.le_refl _⟩
      exact (q_x (KM.stay hI (by unfold fromR; ((repeat (first | rw [if_pos (by omega)] | rw [if_neg (by omega)])) <;> rfl))))
theorem c_X10_field {E : EV} {M : MM} {p : PS} {f w : Int} (hI : MI M p) (hP : POK p) (hf : R32 f) (hw : R32 w) : Cx E mX10_field 9 [vr 238, vi f, vi w] M (KM M (fieldR p f w)) := by
  refine Ct.of [some (vr 238), some (vi f), some (vi w)] rfl rfl rfl (Nat.le_of_ble_eq_true rfl) ?_
  have hs := hI.sn
  have k1 := hI.sq (29 + f)
  have k2 : ((overF (M 243) f.toNat : Nat) : Int) = ((overF p.S f.toNat : Nat) : Int) := by rw [hI.S]
  have hO : SOK 9990 (M 243) := by rw [hI.S]; exact hP.hs.ok
  refine w_aload_n dX10_field_0 rfl ?_
  refine r_getI (q := 13) dX10_field_1 fl10_117 g0_238 (by decide) rfl (by decide) rfl (fun r1 => ?_)
  refine w_if_ne (tgt := 10) dX10_field_4 (by decide) (by omega) (fun h4 => ?_) (fun h4 => ?_)
  · refine w_iload_n dX10_field_10 rfl ?_
    refine cSm dX10_field_11 ok_X10_isField (Or.inl ls10_163) (c_X10_isField (by omega)) rfl  rfl (by decide) (Nat.le_of_ble_eq_true rfl) (fun r11 => ?_)
    refine w_ifB_eq (tgt := 27) dX10_field_14 (by decide) (fun h14 => ?_) (fun h14 => ?_)
    · (first | replace h14 := of_decide_eq_true h14 | replace h14 := of_decide_eq_false h14 | skip)
      refine w_ldc dX10_field_27 co10_60 ?_
      refine w_iret dX10_field_29 rfl (by omega) ?_ ⟨Nat.le_refl _, Nat.le_refl _⟩
      first | (refine q_x (KM.stay hI ?_); unfold fieldR; ((repeat (first | rw [if_pos (by omega)] | rw [if_neg (by omega)])) <;> rfl)) | (refine q_x (KM.stay' hI k1 ?_); unfold fieldR; ((repeat (first | rw [if_pos (by omega)] | rw [if_neg (by omega)])) <;> rfl)) | (refine q_x (KM.stay' hI k2 ?_); unfold fieldR; ((repeat (first | rw [if_pos (by omega)] | rw [if_neg (by omega)])) <;> rfl))
    · (first | replace h14 := of_decide_eq_true h14 | replace h14 := of_decide_eq_false h14 | skip)
      refine w_iload_n dX10_field_17 rfl ?_
      refine w_i2l dX10_field_18 (by omega) ?_
      refine w_lconst0 dX10_field_19 ?_
      refine w_lconst1 dX10_field_20 ?_
      refine cSm dX10_field_21 ok_X10_in (Or.inl ls10_50) (c_X10_in (by omega) (by omega) (by omega)) rfl  rfl (by decide) (Nat.le_of_ble_eq_true rfl) (fun r21 => ?_)
      refine w_ifB_ne (tgt := 30) dX10_field_24 (by decide) (fun h24 => ?_) (fun h24 => ?_)
      · (first | replace h24 := of_decide_eq_true h24 | replace h24 := of_decide_eq_false h24 | skip)
        refine w_iload_n dX10_field_30 rfl ?_
        refine w_if_ne (tgt := 46) dX10_field_31 (by decide) (by omega) (fun h31 => ?_) (fun h31 => ?_)
        · refine w_aload_n dX10_field_46 rfl ?_
          refine w_iload_n dX10_field_47 rfl ?_
          refine cVm dX10_field_48 ok_X10_clouds lv10_166 (c_X10_clouds hO (by omega) (by omega)) rfl (congrArg Prod.fst g0_238) (by decide) (by decide) rfl (by decide) (Nat.le_of_ble_eq_true rfl) (fun r48 => ?_)
          refine w_iret dX10_field_51 rfl (by omega) ?_ ⟨Nat.le_refl _, Nat.le_refl _⟩
          first | (refine q_x (KM.stay hI ?_); unfold fieldR; ((repeat (first | rw [if_pos (by omega)] | rw [if_neg (by omega)])) <;> rfl)) | (refine q_x (KM.stay' hI k1 ?_); unfold fieldR; ((repeat (first | rw [if_pos (by omega)] | rw [if_neg (by omega)])) <;> rfl)) | (refine q_x (KM.stay' hI k2 ?_); unfold fieldR; ((repeat (first | rw [if_pos (by omega)] | rw [if_neg (by omega)])) <;> rfl))
        · refine w_aload_n dX10_field_34 rfl ?_
          refine w_getR (r := 243) dX10_field_35 fl10_22 g0_238 (by decide) rfl ?_
          refine w_bipush dX10_field_38 (by decide +kernel) ?_
          refine w_iload_n dX10_field_40 rfl ?_
          refine w_iadd dX10_field_41 ?_
          refine r_ild dX10_field_42 g0_243 (by decide) (by omega) (by omega) (by decide) (fun r42 => ?_)
          refine w_goto (tgt := 51) dX10_field_43 (by decide) ?_
          refine w_iret dX10_field_51 rfl (by omega) ?_ ⟨Nat.le_refl _, Nat.le_refl _⟩
          first | (refine q_x (KM.stay hI ?_); unfold fieldR; ((repeat (first | rw [if_pos (by omega)] | rw [if_neg (by omega)])) <;> rfl)) | (refine q_x (KM.stay' hI k1 ?_); unfold fieldR; ((repeat (first | rw [if_pos (by omega)] | rw [if_neg (by omega)])) <;> rfl)) | (refine q_x (KM.stay' hI k2 ?_); unfold fieldR; ((repeat (first | rw [if_pos (by omega)] | rw [if_neg (by omega)])) <;> rfl))
      · (first | replace h24 := of_decide_eq_true h24 | replace h24 := of_decide_eq_false h24 | skip)
        refine w_ldc dX10_field_27 co10_60 ?_
        refine w_iret dX10_field_29 rfl (by omega) ?_ ⟨Nat.le_refl _, Nat.le_refl _⟩
        first | (refine q_x (KM.stay hI ?_); unfold fieldR; ((repeat (first | rw [if_pos (by omega)] | rw [if_neg (by omega)])) <;> rfl)) | (refine q_x (KM.stay' hI k1 ?_); unfold fieldR; ((repeat (first | rw [if_pos (by omega)] | rw [if_neg (by omega)])) <;> rfl)) | (refine q_x (KM.stay' hI k2 ?_); unfold fieldR; ((repeat (first | rw [if_pos (by omega)] | rw [if_neg (by omega)])) <;> rfl))
  · refine w_ldc dX10_field_7 co10_144 ?_
    refine w_iret dX10_field_9 rfl (by omega) ?_ ⟨Nat.le_refl _, Nat.le_refl _⟩
    first | (refine q_x (KM.stay hI ?_); unfold fieldR; ((repeat (first | rw [if_pos (by omega)] | rw [if_neg (by omega)])) <;> rfl)) | (refine q_x (KM.stay' hI k1 ?_); unfold fieldR; ((repeat (first | rw [if_pos (by omega)] | rw [if_neg (by omega)])) <;> rfl)) | (refine q_x (KM.stay' hI k2 ?_); unfold fieldR; ((repeat (first | rw [if_pos (by omega)] | rw [if_neg (by omega)])) <;> rfl))
theorem c_X10_cloud {E : EV} {M : MM} {p : PS} {c w : Int} (hI : MI M p) (hP : POK p) (hc : R32 c) (hw : R32 w) : Cx E mX10_cloud 9 [vr 238, vi c, vi w] M (KM M (cloudR p c w)) := by
  refine Ct.of [some (vr 238), some (vi c), some (vi w)] rfl rfl rfl (Nat.le_of_ble_eq_true rfl) ?_
  have hn := hP.hs.n
  have hd := hP.hs.d
  have e0 := hI.sq 0
  have e3 := hI.sq 3
  have k1 := hI.sq (4 + 5 * c)
  have k2 := hI.sq (7 + 5 * c)
  have k3 := hI.sq (6 + 5 * c)
  have k4 := hI.sq (5 + 5 * c)
  have k6 := hI.sq (4 + 5 * c + (w + 1))
  have eS : ((shF (M 243) c : Nat) : Int) = ((shF p.S c : Nat) : Int) := by rw [hI.S]
  have eN : M 243 (6 + 5 * c) * rainF (M 243 (4 + 5 * c)) (M 243 3) = p.S (6 + 5 * c) * rainF (p.S (4 + 5 * c)) (p.S 3) := by rw [k1, k3, e3]
  refine w_aload_n dX10_cloud_0 rfl ?_
  refine w_iload_n dX10_cloud_1 rfl ?_
  refine cVm dX10_cloud_2 ok_X10_isCloud lv10_156 (c_X10_isCloud (by omega) (by omega)) rfl (congrArg Prod.fst g0_238) (by decide) (by decide) rfl (by decide) (Nat.le_of_ble_eq_true rfl) (fun r2 => ?_)
  refine w_ifB_eq (tgt := 20) dX10_cloud_5 (by decide) (fun h5 => ?_) (fun h5 => ?_)
  · (first | replace h5 := of_decide_eq_true h5 | replace h5 := of_decide_eq_false h5 | skip)
    refine w_ldc dX10_cloud_20 co10_60 ?_
    refine w_iret dX10_cloud_22 rfl (by omega) ?_ ⟨Nat.le_refl _, Nat.le_refl _⟩
    exact (q_x (KM.stay hI (by unfold cloudR; ((repeat (first | rw [if_pos (by omega)] | rw [if_neg (by omega)])) <;> rfl))))
  · (first | replace h5 := of_decide_eq_true h5 | replace h5 := of_decide_eq_false h5 | skip)
    refine w_iload_n dX10_cloud_8 rfl ?_
    refine w_i2l dX10_cloud_9 (by omega) ?_
    refine w_lconst0 dX10_cloud_10 ?_
    refine w_ldc2 dX10_cloud_11 cl10_161 ?_
    refine cSm dX10_cloud_14 ok_X10_in (Or.inl ls10_50) (c_X10_in (by omega) (by omega) (by omega)) rfl  rfl (by decide) (Nat.le_of_ble_eq_true rfl) (fun r14 => ?_)
    refine w_ifB_ne (tgt := 23) dX10_cloud_17 (by decide) (fun h17 => ?_) (fun h17 => ?_)
    · (first | replace h17 := of_decide_eq_true h17 | replace h17 := of_decide_eq_false h17 | skip)
      have kb := hP.hs.2.1.cl (c := c) (by omega) (by omega)
      have rr := rainF_r (M 243 (4 + 5 * c)) (M 243 3)
      have rs : 0 ≤ M 243 (6 + 5 * c) * rainF (M 243 (4 + 5 * c)) (M 243 3) ∧ M 243 (6 + 5 * c) * rainF (M 243 (4 + 5 * c)) (M 243 3) ≤ 16 := ⟨Int.mul_nonneg (by omega) (by omega), Int.le_trans (Int.mul_le_mul (show _ ≤ (8 : Int) by omega) (show _ ≤ (2 : Int) by omega) (by omega) (by decide)) (by decide)⟩
      refine w_iload_n dX10_cloud_23 rfl ?_
      refine w_iconst dX10_cloud_24 ?_
      refine w_icmp_ge (tgt := 39) dX10_cloud_25 (by decide) (by omega) (by omega) (fun h25 => ?_) (fun h25 => ?_)
      · refine w_iload_n dX10_cloud_39 rfl ?_
        refine w_iconst dX10_cloud_40 ?_
        refine w_icmp_ne (tgt := 52) dX10_cloud_41 (by decide) (by omega) (by omega) (fun h41 => ?_) (fun h41 => ?_)
        · refine w_aload_n dX10_cloud_52 rfl ?_
          refine w_iload_n dX10_cloud_53 rfl ?_
          refine w_iconst dX10_cloud_54 ?_
          refine cVm dX10_cloud_55 ok_X10_of lv10_126 (c_X10_of (q := 6 + 5 * c) (by omega) (by omega) (by omega)) rfl (congrArg Prod.fst g0_238) (by decide) (by decide) rfl (by decide) (Nat.le_of_ble_eq_true rfl) (fun r55 => ?_)
          refine w_aload_n dX10_cloud_58 rfl ?_
          refine w_iload_n dX10_cloud_59 rfl ?_
          refine w_aload_n dX10_cloud_60 rfl ?_
          refine w_getR (r := 243) dX10_cloud_61 fl10_22 g0_238 (by decide) rfl ?_
          refine w_iconst dX10_cloud_64 ?_
          refine r_ild dX10_cloud_65 g0_243 (by decide) (by omega) (by omega) (by decide) (fun r65 => ?_)
          refine cVm dX10_cloud_66 ok_X10_rains lv10_135 (c_X10_rains (by omega) (by omega) (by omega) (by omega)) rfl (congrArg Prod.fst g0_238) (by decide) (by decide) rfl (by decide) (Nat.le_of_ble_eq_true rfl) (fun r66 => ?_)
          refine w_imul dX10_cloud_69 ?_
          refine w_iret dX10_cloud_70 rfl (by omega) ?_ ⟨Nat.le_refl _, Nat.le_refl _⟩
          first | (refine q_x (KM.stay' hI eS ?_); unfold cloudR; ((repeat (first | rw [if_pos (by omega)] | rw [if_neg (by omega)])) <;> rfl)) | (refine q_x (KM.stay' hI eN ?_); unfold cloudR; ((repeat (first | rw [if_pos (by omega)] | rw [if_neg (by omega)])) <;> rfl)) | (rcases (show w = 0 ∨ w = 1 ∨ w = 2 ∨ w = 3 by omega) with e | e | e | e <;> (refine q_x (KM.stay' hI k6 ?_); unfold cloudR; (repeat (first | rw [if_pos (by omega)] | rw [if_neg (by omega)])) <;> (subst e; congr 2; omega)))
        · refine w_aload_n dX10_cloud_44 rfl ?_
          refine w_iload_n dX10_cloud_45 rfl ?_
          refine cVm dX10_cloud_46 ok_X10_fields lv10_132 (c_X10_fields (by omega) (by omega) (by omega) (by omega)) rfl (congrArg Prod.fst g0_238) (by decide) (by decide) rfl (by decide) (Nat.le_of_ble_eq_true rfl) (fun r46 => ?_)
          refine w_goto (tgt := 70) dX10_cloud_49 (by decide) ?_
          refine w_iret dX10_cloud_70 rfl (by omega) ?_ ⟨Nat.le_refl _, Nat.le_refl _⟩
          first | (refine q_x (KM.stay' hI eS ?_); unfold cloudR; ((repeat (first | rw [if_pos (by omega)] | rw [if_neg (by omega)])) <;> rfl)) | (refine q_x (KM.stay' hI eN ?_); unfold cloudR; ((repeat (first | rw [if_pos (by omega)] | rw [if_neg (by omega)])) <;> rfl)) | (rcases (show w = 0 ∨ w = 1 ∨ w = 2 ∨ w = 3 by omega) with e | e | e | e <;> (refine q_x (KM.stay' hI k6 ?_); unfold cloudR; (repeat (first | rw [if_pos (by omega)] | rw [if_neg (by omega)])) <;> (subst e; congr 2; omega)))
      · refine w_aload_n dX10_cloud_28 rfl ?_
        refine w_iload_n dX10_cloud_29 rfl ?_
        refine w_iload_n dX10_cloud_30 rfl ?_
        refine w_iconst dX10_cloud_31 ?_
        refine w_iadd dX10_cloud_32 ?_
        refine cVm dX10_cloud_33 ok_X10_of lv10_126 (c_X10_of (q := 4 + 5 * c + (w + 1)) (by omega) (by omega) (by omega)) rfl (congrArg Prod.fst g0_238) (by decide) (by decide) rfl (by decide) (Nat.le_of_ble_eq_true rfl) (fun r33 => ?_)
        refine w_goto (tgt := 70) dX10_cloud_36 (by decide) ?_
        refine w_iret dX10_cloud_70 rfl (by omega) ?_ ⟨Nat.le_refl _, Nat.le_refl _⟩
        first | (refine q_x (KM.stay' hI eS ?_); unfold cloudR; ((repeat (first | rw [if_pos (by omega)] | rw [if_neg (by omega)])) <;> rfl)) | (refine q_x (KM.stay' hI eN ?_); unfold cloudR; ((repeat (first | rw [if_pos (by omega)] | rw [if_neg (by omega)])) <;> rfl)) | (rcases (show w = 0 ∨ w = 1 ∨ w = 2 ∨ w = 3 by omega) with e | e | e | e <;> (refine q_x (KM.stay' hI k6 ?_); unfold cloudR; (repeat (first | rw [if_pos (by omega)] | rw [if_neg (by omega)])) <;> (subst e; congr 2; omega)))
    · (first | replace h17 := of_decide_eq_true h17 | replace h17 := of_decide_eq_false h17 | skip)
      refine w_ldc dX10_cloud_20 co10_60 ?_
      refine w_iret dX10_cloud_22 rfl (by omega) ?_ ⟨Nat.le_refl _, Nat.le_refl _⟩
      exact (q_x (KM.stay hI (by unfold cloudR; ((repeat (first | rw [if_pos (by omega)] | rw [if_neg (by omega)])) <;> rfl))))
