/-! ===== the class: what is foretold ===== -/
def aheadR (p : PS) (c n w : Int) : Int × PS := if (0 ≤ c ∧ c ≤ p.S 0 - 1) ∧ (0 ≤ n ∧ n ≤ 60) ∧ (w = 0 ∨ w = 1) then ((if dysF (zr p.S) n.toNat (7 + 5 * c) = 0 then -1000000 else if w = 0 then dysF (zr p.S) n.toNat (5 + 5 * c) else dysF (zr p.S) n.toNat (6 + 5 * c)), p) else (-1000001, p)
def overR (p : PS) (f n : Int) : Int × PS := if p.S 0 = 0 then (-1000002, p) else if (0 ≤ f ∧ f ≤ 15) ∧ 0 ≤ n ∧ n ≤ 60 then (((overF (dysF (zr p.S) n.toNat) f.toNat : Nat) : Int), p) else (-1000001, p)
def fallsR (p : PS) (f n : Int) : Int × PS := if p.S 0 = 0 then (-1000002, p) else if (0 ≤ f ∧ f ≤ 15) ∧ 0 ≤ n ∧ n ≤ 60 then (dysF (zr p.S) n.toNat (29 + f), p) else (-1000001, p)
def dryR (p : PS) (n : Int) : Int × PS := if p.S 0 = 0 then (-1000002, p) else if 0 ≤ n ∧ n ≤ 60 then (((dryF (dysF (zr p.S) n.toNat) : Nat) : Int), p) else (-1000001, p)
def firstR (p : PS) (f : Int) : Int × PS := if p.S 0 = 0 then (-1000002, p) else if 0 ≤ f ∧ f ≤ 15 then (foD (fun d => decide (dysF (zr p.S) d (29 + f) ≠ 0)) 1 60, p) else (-1000001, p)
def goneR (p : PS) (c : Int) : Int × PS := if 0 ≤ c ∧ c ≤ p.S 0 - 1 then (foD (fun d => decide (dysF (zr p.S) d (7 + 5 * c) = 0)) 0 61, p) else (-1000001, p)
def stormR (p : PS) (c o : Int) : Int × PS := if (0 ≤ c ∧ c ≤ p.S 0 - 1) ∧ (0 ≤ o ∧ o ≤ p.S 0 - 1) ∧ c ≠ o then ((if p.S (8 + 5 * c) = p.S (8 + 5 * o) then -1000000 else foD (metB (zr p.S) c o) 0 61), p) else (-1000001, p)
def harvR (p : PS) (f m : Int) : Int × PS := if p.S 0 = 0 then (-1000002, p) else if (0 ≤ f ∧ f ≤ 15) ∧ 1 ≤ m ∧ m ≤ 9 then (hvC (rnB (zr p.S) f) m.toNat 40 0 0, p) else (-1000001, p)
def itF (p : PS) (r : Int) : Int → Int := fun i => p.it (40 * r + i)
def whoR (p : PS) (c f r i n : Int) : Int × PS := if (0 ≤ c ∧ c ≤ p.S 0 - 1) ∧ (0 ≤ f ∧ f ≤ 15) ∧ (0 ≤ r ∧ r < 8) ∧ 1 ≤ n ∧ n ≤ 12 then (if p.ln r < 0 then (-1000011, (⟨p.ln, p.sz, p.it, p.tn, p.tp, p.S, p.u, p.U, p.fl, p.I, p.lf, 1, p.tr, p.tb⟩ : PS)) else if 0 ≤ i ∧ i + n ≤ p.sz r then (((setN 6 (kiB (zr p.S) c f (itF p r) i n.toNat) : Nat) : Int), (⟨p.ln, p.sz, p.it, p.tn, p.tp, p.S, p.u, p.U, p.fl, p.I, p.lf, 0, p.tr, p.tb⟩ : PS)) else (-1000012, (⟨p.ln, p.sz, p.it, p.tn, p.tp, p.S, p.u, p.U, p.fl, p.I, p.lf, 2, p.tr, p.tb⟩ : PS))) else (-1000001, p)
def plcR (p : PS) (c f r i n : Int) : Int × PS := if (0 ≤ c ∧ c ≤ p.S 0 - 1) ∧ (0 ≤ f ∧ f ≤ 15) ∧ (0 ≤ r ∧ r < 8) ∧ 1 ≤ n ∧ n ≤ 12 then (if p.ln r < 0 then (-1000011, (⟨p.ln, p.sz, p.it, p.tn, p.tp, p.S, p.u, p.U, p.fl, p.I, p.lf, 1, p.tr, p.tb⟩ : PS)) else if 0 ≤ i ∧ i + n ≤ p.sz r then (if p.S (7 + 5 * c) = 0 then (-1000002, p) else (((setN 16 (plB (zr p.S) c f (itF p r) i n.toNat) : Nat) : Int), (⟨p.ln, p.sz, p.it, p.tn, p.tp, p.S, p.u, p.U, p.fl, p.I, p.lf, 0, p.tr, p.tb⟩ : PS))) else (-1000012, (⟨p.ln, p.sz, p.it, p.tn, p.tp, p.S, p.u, p.U, p.fl, p.I, p.lf, 2, p.tr, p.tb⟩ : PS))) else (-1000001, p)
def drawR (p : PS) (n x w : Int) : Int × PS := if p.S 0 = 0 then (-1000002, p) else if (0 ≤ n ∧ n ≤ 60) ∧ (1 ≤ x ∧ x ≤ 999999) ∧ (w = 0 ∨ w = 1) then ((if w = 0 then fellS (drsF (zr p.S) x n.toNat) else ((aliveF (drsF (zr p.S) x n.toNat) : Nat) : Int)), p) else (-1000001, p)
/-- where the runs of blue begin: n of them from f on -/
def runB (b : Nat → Bool) (f : Nat) : Nat → Nat → Nat
  | n, 0 => n
  | n, k + 1 => if b ((f + n) % 16) = true then runB b f (n + 1) k else n
def bluB (b : Nat → Bool) : Nat → Int × Int
  | 0 => (0, -1000000)
  | f + 1 => if (bluB b f).1 < ((runB b f 0 16 : Nat) : Int) then (((runB b f 0 16 : Nat) : Int), (f : Int)) else bluB b f
def blueR (p : PS) (w : Int) : Int × PS := if p.S 0 = 0 then (-1000002, p) else if w = 0 then ((bluB (fun g => !(shadedF p.S).testBit g) 16).1, p) else if w = 1 then ((bluB (fun g => !(shadedF p.S).testBit g) 16).2, p) else (-1000001, p)
theorem runB_r (b : Nat → Bool) (f : Nat) : ∀ k n, n ≤ runB b f n k ∧ runB b f n k ≤ n + k
  | 0, n => ⟨Nat.le_refl _, Nat.le_refl _⟩
  | k + 1, n => by
    rw [runB]
    have := runB_r b f k (n + 1)
    split <;> omega
theorem bluB_r (b : Nat → Bool) : ∀ f, f ≤ 16 → 0 ≤ (bluB b f).1 ∧ (bluB b f).1 ≤ 16 ∧ -1000000 ≤ (bluB b f).2 ∧ (bluB b f).2 ≤ 15
  | 0, _ => by unfold bluB; decide
  | f + 1, h => by
    rw [bluB]
    have := bluB_r b f (by omega)
    have := runB_r b f 16 0
    split
    · show 0 ≤ ((runB b f 0 16 : Nat) : Int) ∧ ((runB b f 0 16 : Nat) : Int) ≤ 16 ∧ -1000000 ≤ (f : Int) ∧ (f : Int) ≤ 15
      omega
    · omega
theorem c_X9_ahead {E : EV} {M : MM} {p : PS} {c n w : Int} (hC : CI M p) (hP : POK p) (hc : R32 c) (hn9 : R32 n) (hw : R32 w) : Cx E mX9_ahead 9 [vr 0, vi c, vi n, vi w] M (KC M (aheadR p c n w)) := by
  refine Ct.of [some (vr 0), some (vi c), some (vi n), some (vi w), none] rfl rfl rfl (Nat.le_of_ble_eq_true rfl) ?_
  have hn := hP.hs.n
  have hd := hP.hs.d
  have e0 := hC.S.num
  refine w_aload_n dX9_ahead_0 rfl ?_
  refine w_iload_n dX9_ahead_1 rfl ?_
  refine cVm dX9_ahead_2 ok_X9_isCloud lv9_180 (c_X9_isCloud (by omega) (by omega)) rfl (congrArg Prod.fst g0_0) (by decide) (by decide) rfl (by decide) (Nat.le_of_ble_eq_true rfl) (fun r2 => ?_)
  refine w_ifB_eq (tgt := 25) dX9_ahead_5 (by decide) (fun h5 => ?_) (fun h5 => ?_)
  · (first | replace h5 := of_decide_eq_true h5 | replace h5 := of_decide_eq_false h5 | skip)
    refine w_ldc dX9_ahead_25 co9_90 ?_
    refine w_iret dX9_ahead_27 rfl (by omega) ?_ ⟨Nat.le_refl _, Nat.le_refl _⟩
    exact (q_x (KC.stay hC (by unfold aheadR; ((repeat (first | rw [if_pos (by omega)] | rw [if_neg (by omega)])) <;> rfl))))
  · (first | replace h5 := of_decide_eq_true h5 | replace h5 := of_decide_eq_false h5 | skip)
    refine w_iload_n dX9_ahead_8 rfl ?_
    refine w_iconst dX9_ahead_9 ?_
    refine w_bipush dX9_ahead_10 (by decide +kernel) ?_
    refine cSm dX9_ahead_12 ok_X9_within (Or.inl ls9_86) (c_X9_within (by omega) (by omega) (by omega)) rfl  rfl (by decide) (Nat.le_of_ble_eq_true rfl) (fun r12 => ?_)
    refine w_ifB_eq (tgt := 25) dX9_ahead_15 (by decide) (fun h15 => ?_) (fun h15 => ?_)
    · (first | replace h15 := of_decide_eq_true h15 | replace h15 := of_decide_eq_false h15 | skip)
      refine w_ldc dX9_ahead_25 co9_90 ?_
      refine w_iret dX9_ahead_27 rfl (by omega) ?_ ⟨Nat.le_refl _, Nat.le_refl _⟩
      exact (q_x (KC.stay hC (by unfold aheadR; ((repeat (first | rw [if_pos (by omega)] | rw [if_neg (by omega)])) <;> rfl))))
    · (first | replace h15 := of_decide_eq_true h15 | replace h15 := of_decide_eq_false h15 | skip)
      refine w_iload_n dX9_ahead_18 rfl ?_
      refine cSm dX9_ahead_19 ok_X9_isZeroOrOne (Or.inl ls9_217) (c_X9_isZeroOrOne (by omega)) rfl  rfl (by decide) (Nat.le_of_ble_eq_true rfl) (fun r19 => ?_)
      refine w_ifB_ne (tgt := 28) dX9_ahead_22 (by decide) (fun h22 => ?_) (fun h22 => ?_)
      · (first | replace h22 := of_decide_eq_true h22 | replace h22 := of_decide_eq_false h22 | skip)
        refine w_aload_n dX9_ahead_28 rfl ?_
        refine w_getR (r := 201) dX9_ahead_29 fl9_57 g0_0 (by decide) rfl ?_
        refine w_iload_n dX9_ahead_32 rfl ?_
        refine cVr dX9_ahead_33 ok_X3_behind lv9_226 (c_X3_behind hC.S hP.hs.ok (by omega) (by omega) (by omega)) rfl (congrArg Prod.fst g0_201) (by decide) (by decide) rfl (by decide) (Nat.le_of_ble_eq_true rfl) (fun m33 p33 => ?_)
        have t0 : dysF (zr p.S) n.toNat 0 = p.S 0 := by rw [dysF_low (by omega), zr_lo (by omega)]
        have k1 := p33.1.wet (c := c) (by omega) (by omega)
        have k2 := p33.1.place (c := c) (by omega) (by omega)
        have k3 := p33.1.wide (c := c) (by omega) (by omega)
        have hS := p33.2.scr (by omega)
        refine w_astore dX9_ahead_36 (by decide) ?_
        refine w_aload dX9_ahead_38 rfl ?_
        refine w_iload_n dX9_ahead_40 rfl ?_
        refine cVm dX9_ahead_41 ok_X6_isGone lv9_183 (c_X6_isGone sk_202 (by omega) (by omega)) rfl (sk_k sk_202) (sk_n0 sk_202) (by decide) rfl (by decide) (Nat.le_of_ble_eq_true rfl) (fun r41 => ?_)
        refine w_ifB_eq (tgt := 50) dX9_ahead_44 (by decide) (fun h44 => ?_) (fun h44 => ?_)
        · (first | replace h44 := of_decide_eq_true h44 | replace h44 := of_decide_eq_false h44 | skip)
          refine w_iload_n dX9_ahead_50 rfl ?_
          refine w_if_ne (tgt := 64) dX9_ahead_51 (by decide) (by omega) (fun h51 => ?_) (fun h51 => ?_)
          · refine w_aload dX9_ahead_64 rfl ?_
            refine w_getR (r := (202 + 3)) dX9_ahead_66 fl9_205 (sk_g0 sk_202) (sk_n0 sk_202) rfl ?_
            refine w_iload_n dX9_ahead_69 rfl ?_
            refine r_ild dX9_ahead_70 (sk_g3 sk_202) (sk_n3 sk_202) (by omega) (by omega) (by decide) (fun r70 => ?_)
            refine w_iret dX9_ahead_71 rfl (by omega) ?_ ⟨Nat.le_refl _, Nat.le_refl _⟩
            first | (refine q_x (KC.keep' hC hS k2 ?_); unfold aheadR; ((repeat (first | rw [if_pos (by omega)] | rw [if_neg (by omega)])) <;> rfl)) | (refine q_x (KC.keep' hC hS k3 ?_); unfold aheadR; ((repeat (first | rw [if_pos (by omega)] | rw [if_neg (by omega)])) <;> rfl))
          · refine w_aload dX9_ahead_54 rfl ?_
            refine w_getR (r := (202 + 2)) dX9_ahead_56 fl9_186 (sk_g0 sk_202) (sk_n0 sk_202) rfl ?_
            refine w_iload_n dX9_ahead_59 rfl ?_
            refine r_ild dX9_ahead_60 (sk_g2 sk_202) (sk_n2 sk_202) (by omega) (by omega) (by decide) (fun r60 => ?_)
            refine w_goto (tgt := 71) dX9_ahead_61 (by decide) ?_
            refine w_iret dX9_ahead_71 rfl (by omega) ?_ ⟨Nat.le_refl _, Nat.le_refl _⟩
            first | (refine q_x (KC.keep' hC hS k2 ?_); unfold aheadR; ((repeat (first | rw [if_pos (by omega)] | rw [if_neg (by omega)])) <;> rfl)) | (refine q_x (KC.keep' hC hS k3 ?_); unfold aheadR; ((repeat (first | rw [if_pos (by omega)] | rw [if_neg (by omega)])) <;> rfl))
        · (first | replace h44 := of_decide_eq_true h44 | replace h44 := of_decide_eq_false h44 | skip)
          refine w_ldc dX9_ahead_47 co9_230 ?_
          refine w_iret dX9_ahead_49 rfl (by omega) ?_ ⟨Nat.le_refl _, Nat.le_refl _⟩
          exact (q_x (KC.keep hC hS (by unfold aheadR; ((repeat (first | rw [if_pos (by omega)] | rw [if_neg (by omega)])) <;> rfl))))
      · (first | replace h22 := of_decide_eq_true h22 | replace h22 := of_decide_eq_false h22 | skip)
        refine w_ldc dX9_ahead_25 co9_90 ?_
        refine w_iret dX9_ahead_27 rfl (by omega) ?_ ⟨Nat.le_refl _, Nat.le_refl _⟩
        exact (q_x (KC.stay hC (by unfold aheadR; ((repeat (first | rw [if_pos (by omega)] | rw [if_neg (by omega)])) <;> rfl))))
theorem c_X9_over {E : EV} {M : MM} {p : PS} {f n : Int} (hC : CI M p) (hP : POK p) (hf : R32 f) (hn9 : R32 n) : Cx E mX9_over 9 [vr 0, vi f, vi n] M (KC M (overR p f n)) := by
  refine Ct.of [some (vr 0), some (vi f), some (vi n)] rfl rfl rfl (Nat.le_of_ble_eq_true rfl) ?_
  have hd := hP.hs.d
  have e0 := hC.S.num
  refine w_aload_n dX9_over_0 rfl ?_
  refine cVm dX9_over_1 ok_X9_noSky lv9_165 c_X9_noSky rfl (congrArg Prod.fst g0_0) (by decide) (by decide) rfl (by decide) (Nat.le_of_ble_eq_true rfl) (fun r1 => ?_)
  refine w_ifB_eq (tgt := 10) dX9_over_4 (by decide) (fun h4 => ?_) (fun h4 => ?_)
  · (first | replace h4 := of_decide_eq_true h4 | replace h4 := of_decide_eq_false h4 | skip)
    refine w_iload_n dX9_over_10 rfl ?_
    refine cSm dX9_over_11 ok_X9_isField (Or.inl ls9_214) (c_X9_isField (by omega)) rfl  rfl (by decide) (Nat.le_of_ble_eq_true rfl) (fun r11 => ?_)
    refine w_ifB_eq (tgt := 27) dX9_over_14 (by decide) (fun h14 => ?_) (fun h14 => ?_)
    · (first | replace h14 := of_decide_eq_true h14 | replace h14 := of_decide_eq_false h14 | skip)
      refine w_ldc dX9_over_27 co9_90 ?_
      refine w_iret dX9_over_29 rfl (by omega) ?_ ⟨Nat.le_refl _, Nat.le_refl _⟩
      exact (q_x (KC.stay hC (by unfold overR; ((repeat (first | rw [if_pos (by omega)] | rw [if_neg (by omega)])) <;> rfl))))
    · (first | replace h14 := of_decide_eq_true h14 | replace h14 := of_decide_eq_false h14 | skip)
      refine w_iload_n dX9_over_17 rfl ?_
      refine w_iconst dX9_over_18 ?_
      refine w_bipush dX9_over_19 (by decide +kernel) ?_
      refine cSm dX9_over_21 ok_X9_within (Or.inl ls9_86) (c_X9_within (by omega) (by omega) (by omega)) rfl  rfl (by decide) (Nat.le_of_ble_eq_true rfl) (fun r21 => ?_)
      refine w_ifB_ne (tgt := 30) dX9_over_24 (by decide) (fun h24 => ?_) (fun h24 => ?_)
      · (first | replace h24 := of_decide_eq_true h24 | replace h24 := of_decide_eq_false h24 | skip)
        refine w_aload_n dX9_over_30 rfl ?_
        refine w_getR (r := 201) dX9_over_31 fl9_57 g0_0 (by decide) rfl ?_
        refine w_iload_n dX9_over_34 rfl ?_
        refine cVr dX9_over_35 ok_X3_behind lv9_226 (c_X3_behind hC.S hP.hs.ok (by omega) (by omega) (by omega)) rfl (congrArg Prod.fst g0_201) (by decide) (by decide) rfl (by decide) (Nat.le_of_ble_eq_true rfl) (fun m35 p35 => ?_)
        refine w_iload_n dX9_over_38 rfl ?_
        refine cVm dX9_over_39 ok_X6_cloudsOver lv9_223 (c_X6_cloudsOver sk_202 p35.1 (SOK_dys (SOK_zr hP.hs.ok) n.toNat) (by omega) (by omega)) rfl (sk_k sk_202) (sk_n0 sk_202) (by decide) rfl (by decide) (Nat.le_of_ble_eq_true rfl) (fun r39 => ?_)
        refine w_iret dX9_over_42 rfl (by omega) ?_ ⟨Nat.le_refl _, Nat.le_refl _⟩
        exact (q_x (KC.keep hC (p35.2.scr (by omega)) (by unfold overR; ((repeat (first | rw [if_pos (by omega)] | rw [if_neg (by omega)])) <;> rfl))))
      · (first | replace h24 := of_decide_eq_true h24 | replace h24 := of_decide_eq_false h24 | skip)
        refine w_ldc dX9_over_27 co9_90 ?_
        refine w_iret dX9_over_29 rfl (by omega) ?_ ⟨Nat.le_refl _, Nat.le_refl _⟩
        exact (q_x (KC.stay hC (by unfold overR; ((repeat (first | rw [if_pos (by omega)] | rw [if_neg (by omega)])) <;> rfl))))
  · (first | replace h4 := of_decide_eq_true h4 | replace h4 := of_decide_eq_false h4 | skip)
    refine w_ldc dX9_over_7 co9_161 ?_
    refine w_iret dX9_over_9 rfl (by omega) ?_ ⟨Nat.le_refl _, Nat.le_refl _⟩
    exact (q_x (KC.stay hC (by unfold overR; ((repeat (first | rw [if_pos (by omega)] | rw [if_neg (by omega)])) <;> rfl))))
theorem c_X9_falls {E : EV} {M : MM} {p : PS} {f n : Int} (hC : CI M p) (hP : POK p) (hf : R32 f) (hn9 : R32 n) : Cx E mX9_falls 9 [vr 0, vi f, vi n] M (KC M (fallsR p f n)) := by
  refine Ct.of [some (vr 0), some (vi f), some (vi n)] rfl rfl rfl (Nat.le_of_ble_eq_true rfl) ?_
  have hd := hP.hs.d
  have e0 := hC.S.num
  refine w_aload_n dX9_falls_0 rfl ?_
  refine cVm dX9_falls_1 ok_X9_noSky lv9_165 c_X9_noSky rfl (congrArg Prod.fst g0_0) (by decide) (by decide) rfl (by decide) (Nat.le_of_ble_eq_true rfl) (fun r1 => ?_)
  refine w_ifB_eq (tgt := 10) dX9_falls_4 (by decide) (fun h4 => ?_) (fun h4 => ?_)
  · (first | replace h4 := of_decide_eq_true h4 | replace h4 := of_decide_eq_false h4 | skip)
    refine w_iload_n dX9_falls_10 rfl ?_
    refine cSm dX9_falls_11 ok_X9_isField (Or.inl ls9_214) (c_X9_isField (by omega)) rfl  rfl (by decide) (Nat.le_of_ble_eq_true rfl) (fun r11 => ?_)
    refine w_ifB_eq (tgt := 27) dX9_falls_14 (by decide) (fun h14 => ?_) (fun h14 => ?_)
    · (first | replace h14 := of_decide_eq_true h14 | replace h14 := of_decide_eq_false h14 | skip)
      refine w_ldc dX9_falls_27 co9_90 ?_
      refine w_iret dX9_falls_29 rfl (by omega) ?_ ⟨Nat.le_refl _, Nat.le_refl _⟩
      exact (q_x (KC.stay hC (by unfold fallsR; ((repeat (first | rw [if_pos (by omega)] | rw [if_neg (by omega)])) <;> rfl))))
    · (first | replace h14 := of_decide_eq_true h14 | replace h14 := of_decide_eq_false h14 | skip)
      refine w_iload_n dX9_falls_17 rfl ?_
      refine w_iconst dX9_falls_18 ?_
      refine w_bipush dX9_falls_19 (by decide +kernel) ?_
      refine cSm dX9_falls_21 ok_X9_within (Or.inl ls9_86) (c_X9_within (by omega) (by omega) (by omega)) rfl  rfl (by decide) (Nat.le_of_ble_eq_true rfl) (fun r21 => ?_)
      refine w_ifB_ne (tgt := 30) dX9_falls_24 (by decide) (fun h24 => ?_) (fun h24 => ?_)
      · (first | replace h24 := of_decide_eq_true h24 | replace h24 := of_decide_eq_false h24 | skip)
        refine w_aload_n dX9_falls_30 rfl ?_
        refine w_getR (r := 201) dX9_falls_31 fl9_57 g0_0 (by decide) rfl ?_
        refine w_iload_n dX9_falls_34 rfl ?_
        refine cVr dX9_falls_35 ok_X3_behind lv9_226 (c_X3_behind hC.S hP.hs.ok (by omega) (by omega) (by omega)) rfl (congrArg Prod.fst g0_201) (by decide) (by decide) rfl (by decide) (Nat.le_of_ble_eq_true rfl) (fun m35 p35 => ?_)
        refine w_getR (r := (202 + 6)) dX9_falls_38 fl9_220 (sk_g0 sk_202) (sk_n0 sk_202) rfl ?_
        refine w_iload_n dX9_falls_41 rfl ?_
        refine r_ild dX9_falls_42 (sk_g6 sk_202) (sk_n6 sk_202) (by omega) (by omega) (by decide) (fun r42 => ?_)
        refine w_iret dX9_falls_43 rfl (by omega) ?_ ⟨Nat.le_refl _, Nat.le_refl _⟩
        exact (q_x (KC.keep' hC (p35.2.scr (by omega)) (p35.1.2.2 f (by omega) (by omega)) (by unfold fallsR; ((repeat (first | rw [if_pos (by omega)] | rw [if_neg (by omega)])) <;> rfl))))
      · (first | replace h24 := of_decide_eq_true h24 | replace h24 := of_decide_eq_false h24 | skip)
        refine w_ldc dX9_falls_27 co9_90 ?_
        refine w_iret dX9_falls_29 rfl (by omega) ?_ ⟨Nat.le_refl _, Nat.le_refl _⟩
        exact (q_x (KC.stay hC (by unfold fallsR; ((repeat (first | rw [if_pos (by omega)] | rw [if_neg (by omega)])) <;> rfl))))
  · (first | replace h4 := of_decide_eq_true h4 | replace h4 := of_decide_eq_false h4 | skip)
    refine w_ldc dX9_falls_7 co9_161 ?_
    refine w_iret dX9_falls_9 rfl (by omega) ?_ ⟨Nat.le_refl _, Nat.le_refl _⟩
    exact (q_x (KC.stay hC (by unfold fallsR; ((repeat (first | rw [if_pos (by omega)] | rw [if_neg (by omega)])) <;> rfl))))
theorem c_X9_dry {E : EV} {M : MM} {p : PS} {n : Int} (hC : CI M p) (hP : POK p) (hn9 : R32 n) : Cx E mX9_dry 9 [vr 0, vi n] M (KC M (dryR p n)) := by
  refine Ct.of [some (vr 0), some (vi n)] rfl rfl rfl (Nat.le_of_ble_eq_true rfl) ?_
  have hd := hP.hs.d
  have e0 := hC.S.num
  refine w_aload_n dX9_dry_0 rfl ?_
  refine cVm dX9_dry_1 ok_X9_noSky lv9_165 c_X9_noSky rfl (congrArg Prod.fst g0_0) (by decide) (by decide) rfl (by decide) (Nat.le_of_ble_eq_true rfl) (fun r1 => ?_)
  refine w_ifB_eq (tgt := 10) dX9_dry_4 (by decide) (fun h4 => ?_) (fun h4 => ?_)
  · (first | replace h4 := of_decide_eq_true h4 | replace h4 := of_decide_eq_false h4 | skip)
    refine w_iload_n dX9_dry_10 rfl ?_
    refine w_iconst dX9_dry_11 ?_
    refine w_bipush dX9_dry_12 (by decide +kernel) ?_
    refine cSm dX9_dry_14 ok_X9_within (Or.inl ls9_86) (c_X9_within (by omega) (by omega) (by omega)) rfl  rfl (by decide) (Nat.le_of_ble_eq_true rfl) (fun r14 => ?_)
    refine w_ifB_ne (tgt := 23) dX9_dry_17 (by decide) (fun h17 => ?_) (fun h17 => ?_)
    · (first | replace h17 := of_decide_eq_true h17 | replace h17 := of_decide_eq_false h17 | skip)
      refine w_aload_n dX9_dry_23 rfl ?_
      refine w_getR (r := 201) dX9_dry_24 fl9_57 g0_0 (by decide) rfl ?_
      refine w_iload_n dX9_dry_27 rfl ?_
      refine cVr dX9_dry_28 ok_X3_behind lv9_226 (c_X3_behind hC.S hP.hs.ok (by omega) (by omega) (by omega)) rfl (congrArg Prod.fst g0_201) (by decide) (by decide) rfl (by decide) (Nat.le_of_ble_eq_true rfl) (fun m28 p28 => ?_)
      refine cVm dX9_dry_31 ok_X6_fieldsWithoutRain lv9_231 (c_X6_fieldsWithoutRain sk_202 p28.1) rfl (sk_k sk_202) (sk_n0 sk_202) (by decide) rfl (by decide) (Nat.le_of_ble_eq_true rfl) (fun r31 => ?_)
      refine w_iret dX9_dry_34 rfl (by omega) ?_ ⟨Nat.le_refl _, Nat.le_refl _⟩
      exact (q_x (KC.keep hC (p28.2.scr (by omega)) (by unfold dryR; ((repeat (first | rw [if_pos (by omega)] | rw [if_neg (by omega)])) <;> rfl))))
    · (first | replace h17 := of_decide_eq_true h17 | replace h17 := of_decide_eq_false h17 | skip)
      refine w_ldc dX9_dry_20 co9_90 ?_
      refine w_iret dX9_dry_22 rfl (by omega) ?_ ⟨Nat.le_refl _, Nat.le_refl _⟩
      exact (q_x (KC.stay hC (by unfold dryR; ((repeat (first | rw [if_pos (by omega)] | rw [if_neg (by omega)])) <;> rfl))))
  · (first | replace h4 := of_decide_eq_true h4 | replace h4 := of_decide_eq_false h4 | skip)
    refine w_ldc dX9_dry_7 co9_161 ?_
    refine w_iret dX9_dry_9 rfl (by omega) ?_ ⟨Nat.le_refl _, Nat.le_refl _⟩
    exact (q_x (KC.stay hC (by unfold dryR; ((repeat (first | rw [if_pos (by omega)] | rw [if_neg (by omega)])) <;> rfl))))
theorem c_X9_first {E : EV} {M : MM} {p : PS} {f : Int} (hC : CI M p) (hP : POK p) (hf : R32 f) : Cx E mX9_first 9 [vr 0, vi f] M (KC M (firstR p f)) := by
  refine Ct.of [some (vr 0), some (vi f)] rfl rfl rfl (Nat.le_of_ble_eq_true rfl) ?_
  have hd := hP.hs.d
  have e0 := hC.S.num
  refine w_aload_n dX9_first_0 rfl ?_
  refine cVm dX9_first_1 ok_X9_noSky lv9_165 c_X9_noSky rfl (congrArg Prod.fst g0_0) (by decide) (by decide) rfl (by decide) (Nat.le_of_ble_eq_true rfl) (fun r1 => ?_)
  refine w_ifB_eq (tgt := 10) dX9_first_4 (by decide) (fun h4 => ?_) (fun h4 => ?_)
  · (first | replace h4 := of_decide_eq_true h4 | replace h4 := of_decide_eq_false h4 | skip)
    refine w_iload_n dX9_first_10 rfl ?_
    refine cSm dX9_first_11 ok_X9_isField (Or.inl ls9_214) (c_X9_isField (by omega)) rfl  rfl (by decide) (Nat.le_of_ble_eq_true rfl) (fun r11 => ?_)
    refine w_ifB_eq (tgt := 28) dX9_first_14 (by decide) (fun h14 => ?_) (fun h14 => ?_)
    · (first | replace h14 := of_decide_eq_true h14 | replace h14 := of_decide_eq_false h14 | skip)
      refine w_ldc dX9_first_28 co9_90 ?_
      refine w_iret dX9_first_30 rfl (by omega) ?_ ⟨Nat.le_refl _, Nat.le_refl _⟩
      first | (refine q_x (KC.stay hC ?_); unfold firstR; ((repeat (first | rw [if_pos (by omega)] | rw [if_neg (by omega)])) <;> rfl)) | (refine q_x (KC.keep' hC (p22.2.scr (by omega)) p22.1 ?_); unfold firstR; ((repeat (first | rw [if_pos (by omega)] | rw [if_neg (by omega)])) <;> rfl))
    · (first | replace h14 := of_decide_eq_true h14 | replace h14 := of_decide_eq_false h14 | skip)
      refine w_aload_n dX9_first_17 rfl ?_
      refine w_getR (r := 201) dX9_first_18 fl9_57 g0_0 (by decide) rfl ?_
      refine w_iload_n dX9_first_21 rfl ?_
      refine cVx dX9_first_22 ok_X3_firstRain lv9_234 (c_X3_firstRain hC.S hP.hs.ok (by omega) (by omega) (by omega)) rfl (congrArg Prod.fst g0_201) (by decide) (by decide) rfl (by decide) (Nat.le_of_ble_eq_true rfl) (fun z22 m22 r22 p22 => ?_)
      refine w_goto (tgt := 30) dX9_first_25 (by decide) ?_
      refine w_iret dX9_first_30 rfl (by omega) ?_ ⟨Nat.le_refl _, Nat.le_refl _⟩
      first | (refine q_x (KC.stay hC ?_); unfold firstR; ((repeat (first | rw [if_pos (by omega)] | rw [if_neg (by omega)])) <;> rfl)) | (refine q_x (KC.keep' hC (p22.2.scr (by omega)) p22.1 ?_); unfold firstR; ((repeat (first | rw [if_pos (by omega)] | rw [if_neg (by omega)])) <;> rfl))
  · (first | replace h4 := of_decide_eq_true h4 | replace h4 := of_decide_eq_false h4 | skip)
    refine w_ldc dX9_first_7 co9_161 ?_
    refine w_iret dX9_first_9 rfl (by omega) ?_ ⟨Nat.le_refl _, Nat.le_refl _⟩
    first | (refine q_x (KC.stay hC ?_); unfold firstR; ((repeat (first | rw [if_pos (by omega)] | rw [if_neg (by omega)])) <;> rfl)) | (refine q_x (KC.keep' hC (p22.2.scr (by omega)) p22.1 ?_); unfold firstR; ((repeat (first | rw [if_pos (by omega)] | rw [if_neg (by omega)])) <;> rfl))
theorem c_X9_gone {E : EV} {M : MM} {p : PS} {c : Int} (hC : CI M p) (hP : POK p) (hc : R32 c) : Cx E mX9_gone 9 [vr 0, vi c] M (KC M (goneR p c)) := by
  refine Ct.of [some (vr 0), some (vi c)] rfl rfl rfl (Nat.le_of_ble_eq_true rfl) ?_
  have hd := hP.hs.d
  have hn := hP.hs.n
  have e0 := hC.S.num
  refine w_aload_n dX9_gone_0 rfl ?_
  refine w_iload_n dX9_gone_1 rfl ?_
  refine cVm dX9_gone_2 ok_X9_isCloud lv9_180 (c_X9_isCloud (by omega) (by omega)) rfl (congrArg Prod.fst g0_0) (by decide) (by decide) rfl (by decide) (Nat.le_of_ble_eq_true rfl) (fun r2 => ?_)
  refine w_ifB_eq (tgt := 19) dX9_gone_5 (by decide) (fun h5 => ?_) (fun h5 => ?_)
  · (first | replace h5 := of_decide_eq_true h5 | replace h5 := of_decide_eq_false h5 | skip)
    refine w_ldc dX9_gone_19 co9_90 ?_
    refine w_iret dX9_gone_21 rfl (by omega) ?_ ⟨Nat.le_refl _, Nat.le_refl _⟩
    first | (refine q_x (KC.stay hC ?_); unfold goneR; ((repeat (first | rw [if_pos (by omega)] | rw [if_neg (by omega)])) <;> rfl)) | (refine q_x (KC.keep' hC (p13.2.scr (by omega)) p13.1 ?_); unfold goneR; ((repeat (first | rw [if_pos (by omega)] | rw [if_neg (by omega)])) <;> rfl))
  · (first | replace h5 := of_decide_eq_true h5 | replace h5 := of_decide_eq_false h5 | skip)
    refine w_aload_n dX9_gone_8 rfl ?_
    refine w_getR (r := 201) dX9_gone_9 fl9_57 g0_0 (by decide) rfl ?_
    refine w_iload_n dX9_gone_12 rfl ?_
    refine cVx dX9_gone_13 ok_X3_firstGone lv9_237 (c_X3_firstGone hC.S hP.hs.ok (by omega) (by omega) (by omega)) rfl (congrArg Prod.fst g0_201) (by decide) (by decide) rfl (by decide) (Nat.le_of_ble_eq_true rfl) (fun z13 m13 r13 p13 => ?_)
    refine w_goto (tgt := 21) dX9_gone_16 (by decide) ?_
    refine w_iret dX9_gone_21 rfl (by omega) ?_ ⟨Nat.le_refl _, Nat.le_refl _⟩
    first | (refine q_x (KC.stay hC ?_); unfold goneR; ((repeat (first | rw [if_pos (by omega)] | rw [if_neg (by omega)])) <;> rfl)) | (refine q_x (KC.keep' hC (p13.2.scr (by omega)) p13.1 ?_); unfold goneR; ((repeat (first | rw [if_pos (by omega)] | rw [if_neg (by omega)])) <;> rfl))
theorem c_X9_storm {E : EV} {M : MM} {p : PS} {c o : Int} (hC : CI M p) (hP : POK p) (hc : R32 c) (ho : R32 o) : Cx E mX9_storm 9 [vr 0, vi c, vi o] M (KC M (stormR p c o)) := by
  refine Ct.of [some (vr 0), some (vi c), some (vi o)] rfl rfl rfl (Nat.le_of_ble_eq_true rfl) ?_
  have hd := hP.hs.d
  have hn := hP.hs.n
  have e0 := hC.S.num
  refine w_aload_n dX9_storm_0 rfl ?_
  refine w_iload_n dX9_storm_1 rfl ?_
  refine w_iload_n dX9_storm_2 rfl ?_
  refine cVm dX9_storm_3 ok_X9_areTwoClouds lv9_240 (c_X9_areTwoClouds (by omega) (by omega) (by omega)) rfl (congrArg Prod.fst g0_0) (by decide) (by decide) rfl (by decide) (Nat.le_of_ble_eq_true rfl) (fun r3 => ?_)
  refine w_ifB_eq (tgt := 21) dX9_storm_6 (by decide) (fun h6 => ?_) (fun h6 => ?_)
  · (first | replace h6 := of_decide_eq_true h6 | replace h6 := of_decide_eq_false h6 | skip)
    refine w_ldc dX9_storm_21 co9_90 ?_
    refine w_iret dX9_storm_23 rfl (by omega) ?_ ⟨Nat.le_refl _, Nat.le_refl _⟩
    first | (refine q_x (KC.stay hC ?_); unfold stormR; ((repeat (first | rw [if_pos (by omega)] | rw [if_neg (by omega)])) <;> rfl)) | (refine q_x (KC.keep' hC (p15.2.scr (by omega)) p15.1 ?_); unfold stormR; exact (if_pos (by omega)).symm)
  · (first | replace h6 := of_decide_eq_true h6 | replace h6 := of_decide_eq_false h6 | skip)
    refine w_aload_n dX9_storm_9 rfl ?_
    refine w_getR (r := 201) dX9_storm_10 fl9_57 g0_0 (by decide) rfl ?_
    refine w_iload_n dX9_storm_13 rfl ?_
    refine w_iload_n dX9_storm_14 rfl ?_
    refine cVx dX9_storm_15 ok_X3_firstMeeting lv9_244 (c_X3_firstMeeting hC.S hP.hs.ok (by omega) (by omega) (by omega) (by omega) (by omega)) rfl (congrArg Prod.fst g0_201) (by decide) (by decide) rfl (by decide) (Nat.le_of_ble_eq_true rfl) (fun z15 m15 r15 p15 => ?_)
    refine w_goto (tgt := 23) dX9_storm_18 (by decide) ?_
    refine w_iret dX9_storm_23 rfl (by omega) ?_ ⟨Nat.le_refl _, Nat.le_refl _⟩
    first | (refine q_x (KC.stay hC ?_); unfold stormR; ((repeat (first | rw [if_pos (by omega)] | rw [if_neg (by omega)])) <;> rfl)) | (refine q_x (KC.keep' hC (p15.2.scr (by omega)) p15.1 ?_); unfold stormR; exact (if_pos (by omega)).symm)
theorem c_X9_harvest {E : EV} {M : MM} {p : PS} {f m : Int} (hC : CI M p) (hP : POK p) (hf : R32 f) (hm : R32 m) : Cx E mX9_harvest 9 [vr 0, vi f, vi m] M (KC M (harvR p f m)) := by
  refine Ct.of [some (vr 0), some (vi f), some (vi m)] rfl rfl rfl (Nat.le_of_ble_eq_true rfl) ?_
  have hd := hP.hs.d
  have e0 := hC.S.num
  refine w_aload_n dX9_harvest_0 rfl ?_
  refine cVm dX9_harvest_1 ok_X9_noSky lv9_165 c_X9_noSky rfl (congrArg Prod.fst g0_0) (by decide) (by decide) rfl (by decide) (Nat.le_of_ble_eq_true rfl) (fun r1 => ?_)
  refine w_ifB_eq (tgt := 10) dX9_harvest_4 (by decide) (fun h4 => ?_) (fun h4 => ?_)
  · (first | replace h4 := of_decide_eq_true h4 | replace h4 := of_decide_eq_false h4 | skip)
    refine w_iload_n dX9_harvest_10 rfl ?_
    refine cSm dX9_harvest_11 ok_X9_isField (Or.inl ls9_214) (c_X9_isField (by omega)) rfl  rfl (by decide) (Nat.le_of_ble_eq_true rfl) (fun r11 => ?_)
    refine w_ifB_eq (tgt := 27) dX9_harvest_14 (by decide) (fun h14 => ?_) (fun h14 => ?_)
    · (first | replace h14 := of_decide_eq_true h14 | replace h14 := of_decide_eq_false h14 | skip)
      refine w_ldc dX9_harvest_27 co9_90 ?_
      refine w_iret dX9_harvest_29 rfl (by omega) ?_ ⟨Nat.le_refl _, Nat.le_refl _⟩
      exact (q_x (KC.stay hC (by unfold harvR; ((repeat (first | rw [if_pos (by omega)] | rw [if_neg (by omega)])) <;> rfl))))
    · (first | replace h14 := of_decide_eq_true h14 | replace h14 := of_decide_eq_false h14 | skip)
      refine w_iload_n dX9_harvest_17 rfl ?_
      refine w_iconst dX9_harvest_18 ?_
      refine w_bipush dX9_harvest_19 (by decide +kernel) ?_
      refine cSm dX9_harvest_21 ok_X9_within (Or.inl ls9_86) (c_X9_within (by omega) (by omega) (by omega)) rfl  rfl (by decide) (Nat.le_of_ble_eq_true rfl) (fun r21 => ?_)
      refine w_ifB_ne (tgt := 30) dX9_harvest_24 (by decide) (fun h24 => ?_) (fun h24 => ?_)
      · (first | replace h24 := of_decide_eq_true h24 | replace h24 := of_decide_eq_false h24 | skip)
        obtain ⟨g, rfl⟩ : ∃ g : Nat, m = g := ⟨m.toNat, by omega⟩
        refine w_aload_n dX9_harvest_30 rfl ?_
        refine w_getR (r := 201) dX9_harvest_31 fl9_57 g0_0 (by decide) rfl ?_
        refine w_iload_n dX9_harvest_34 rfl ?_
        refine w_iload_n dX9_harvest_35 rfl ?_
        refine cVx dX9_harvest_36 ok_X3_firstDrySpell lv9_264 (c_X3_firstDrySpell (w := g) hC.S hP.hs.ok (by omega) (by omega) (by omega) (by omega) (by omega)) rfl (congrArg Prod.fst g0_201) (by decide) (by decide) rfl (by decide) (Nat.le_of_ble_eq_true rfl) (fun z36 m36 r36 p36 => ?_)
        refine w_iret dX9_harvest_39 rfl (by omega) ?_ ⟨Nat.le_refl _, Nat.le_refl _⟩
        exact (q_x (KC.keep' hC (p36.2.scr (by omega)) p36.1 (by unfold harvR; ((repeat (first | rw [if_pos (by omega)] | rw [if_neg (by omega)])) <;> rfl))))
      · (first | replace h24 := of_decide_eq_true h24 | replace h24 := of_decide_eq_false h24 | skip)
        refine w_ldc dX9_harvest_27 co9_90 ?_
        refine w_iret dX9_harvest_29 rfl (by omega) ?_ ⟨Nat.le_refl _, Nat.le_refl _⟩
        exact (q_x (KC.stay hC (by unfold harvR; ((repeat (first | rw [if_pos (by omega)] | rw [if_neg (by omega)])) <;> rfl))))
  · (first | replace h4 := of_decide_eq_true h4 | replace h4 := of_decide_eq_false h4 | skip)
    refine w_ldc dX9_harvest_7 co9_161 ?_
    refine w_iret dX9_harvest_9 rfl (by omega) ?_ ⟨Nat.le_refl _, Nat.le_refl _⟩
    exact (q_x (KC.stay hC (by unfold harvR; ((repeat (first | rw [if_pos (by omega)] | rw [if_neg (by omega)])) <;> rfl))))
theorem c_X9_drawn {E : EV} {M : MM} {p : PS} {n x w : Int} (hC : CI M p) (hP : POK p) (hn9 : R32 n) (hx : R32 x) (hw : R32 w) : Cx E mX9_drawn 9 [vr 0, vi n, vi x, vi w] M (KC M (drawR p n x w)) := by
  refine Ct.of [some (vr 0), some (vi n), some (vi x), some (vi w), none] rfl rfl rfl (Nat.le_of_ble_eq_true rfl) ?_
  have hd := hP.hs.d
  have hn := hP.hs.n
  have e0 := hC.S.num
  refine w_aload_n dX9_drawn_0 rfl ?_
  refine cVm dX9_drawn_1 ok_X9_noSky lv9_165 c_X9_noSky rfl (congrArg Prod.fst g0_0) (by decide) (by decide) rfl (by decide) (Nat.le_of_ble_eq_true rfl) (fun r1 => ?_)
  refine w_ifB_eq (tgt := 10) dX9_drawn_4 (by decide) (fun h4 => ?_) (fun h4 => ?_)
  · (first | replace h4 := of_decide_eq_true h4 | replace h4 := of_decide_eq_false h4 | skip)
    refine w_iload_n dX9_drawn_10 rfl ?_
    refine w_iconst dX9_drawn_11 ?_
    refine w_bipush dX9_drawn_12 (by decide +kernel) ?_
    refine cSm dX9_drawn_14 ok_X9_within (Or.inl ls9_86) (c_X9_within (by omega) (by omega) (by omega)) rfl  rfl (by decide) (Nat.le_of_ble_eq_true rfl) (fun r14 => ?_)
    refine w_ifB_eq (tgt := 38) dX9_drawn_17 (by decide) (fun h17 => ?_) (fun h17 => ?_)
    · (first | replace h17 := of_decide_eq_true h17 | replace h17 := of_decide_eq_false h17 | skip)
      refine w_ldc dX9_drawn_38 co9_90 ?_
      refine w_iret dX9_drawn_40 rfl (by omega) ?_ ⟨Nat.le_refl _, Nat.le_refl _⟩
      exact (q_x (KC.stay hC (by unfold drawR; ((repeat (first | rw [if_pos (by omega)] | rw [if_neg (by omega)])) <;> rfl))))
    · (first | replace h17 := of_decide_eq_true h17 | replace h17 := of_decide_eq_false h17 | skip)
      refine w_iload_n dX9_drawn_20 rfl ?_
      refine w_iconst dX9_drawn_21 ?_
      refine w_ldcw dX9_drawn_22 co9_322 ?_
      refine cSm dX9_drawn_25 ok_X9_within (Or.inl ls9_86) (c_X9_within (by omega) (by omega) (by omega)) rfl  rfl (by decide) (Nat.le_of_ble_eq_true rfl) (fun r25 => ?_)
      refine w_ifB_eq (tgt := 38) dX9_drawn_28 (by decide) (fun h28 => ?_) (fun h28 => ?_)
      · (first | replace h28 := of_decide_eq_true h28 | replace h28 := of_decide_eq_false h28 | skip)
        refine w_ldc dX9_drawn_38 co9_90 ?_
        refine w_iret dX9_drawn_40 rfl (by omega) ?_ ⟨Nat.le_refl _, Nat.le_refl _⟩
        exact (q_x (KC.stay hC (by unfold drawR; ((repeat (first | rw [if_pos (by omega)] | rw [if_neg (by omega)])) <;> rfl))))
      · (first | replace h28 := of_decide_eq_true h28 | replace h28 := of_decide_eq_false h28 | skip)
        refine w_iload_n dX9_drawn_31 rfl ?_
        refine cSm dX9_drawn_32 ok_X9_isZeroOrOne (Or.inl ls9_217) (c_X9_isZeroOrOne (by omega)) rfl  rfl (by decide) (Nat.le_of_ble_eq_true rfl) (fun r32 => ?_)
        refine w_ifB_ne (tgt := 41) dX9_drawn_35 (by decide) (fun h35 => ?_) (fun h35 => ?_)
        · (first | replace h35 := of_decide_eq_true h35 | replace h35 := of_decide_eq_false h35 | skip)
          refine w_aload_n dX9_drawn_41 rfl ?_
          refine w_getR (r := 201) dX9_drawn_42 fl9_57 g0_0 (by decide) rfl ?_
          refine w_iload_n dX9_drawn_45 rfl ?_
          refine w_iload_n dX9_drawn_46 rfl ?_
          refine cVr dX9_drawn_47 ok_X3_behindDraws lv9_323 (c_X3_behindDraws hC.S hP.hs.ok (by omega) (by omega) (by omega) (by omega) (by omega) (by omega)) rfl (congrArg Prod.fst g0_201) (by decide) (by decide) rfl (by decide) (Nat.le_of_ble_eq_true rfl) (fun m47 p47 => ?_)
          have hA := drsF_all (SOK_zr hP.hs.ok) x (by rw [zr_lo (by omega)]; omega) n.toNat
          refine w_astore dX9_drawn_50 (by decide) ?_
          refine w_iload_n dX9_drawn_52 rfl ?_
          refine w_if_ne (tgt := 64) dX9_drawn_53 (by decide) (by omega) (fun h53 => ?_) (fun h53 => ?_)
          · refine w_aload dX9_drawn_64 rfl ?_
            refine cVm dX9_drawn_66 ok_X6_alive lv9_304 (c_X6_alive sk_202 p47.1 hA.1) rfl (sk_k sk_202) (sk_n0 sk_202) (by decide) rfl (by decide) (Nat.le_of_ble_eq_true rfl) (fun r66 => ?_)
            refine w_iret dX9_drawn_69 rfl (by omega) ?_ ⟨Nat.le_refl _, Nat.le_refl _⟩
            exact (q_x (KC.keep hC (p47.2.scr (by omega)) (by unfold drawR; ((repeat (first | rw [if_pos (by omega)] | rw [if_neg (by omega)])) <;> rfl))))
          · refine w_aload dX9_drawn_56 rfl ?_
            refine cVm dX9_drawn_58 ok_X6_fallen lv9_327 (c_X6_fallen sk_202 p47.1 hA.1 (by omega)) rfl (sk_k sk_202) (sk_n0 sk_202) (by decide) rfl (by decide) (Nat.le_of_ble_eq_true rfl) (fun r58 => ?_)
            refine w_goto (tgt := 69) dX9_drawn_61 (by decide) ?_
            refine w_iret dX9_drawn_69 rfl (by omega) ?_ ⟨Nat.le_refl _, Nat.le_refl _⟩
            exact (q_x (KC.keep hC (p47.2.scr (by omega)) (by unfold drawR; ((repeat (first | rw [if_pos (by omega)] | rw [if_neg (by omega)])) <;> rfl))))
        · (first | replace h35 := of_decide_eq_true h35 | replace h35 := of_decide_eq_false h35 | skip)
          refine w_ldc dX9_drawn_38 co9_90 ?_
          refine w_iret dX9_drawn_40 rfl (by omega) ?_ ⟨Nat.le_refl _, Nat.le_refl _⟩
          exact (q_x (KC.stay hC (by unfold drawR; ((repeat (first | rw [if_pos (by omega)] | rw [if_neg (by omega)])) <;> rfl))))
  · (first | replace h4 := of_decide_eq_true h4 | replace h4 := of_decide_eq_false h4 | skip)
    refine w_ldc dX9_drawn_7 co9_161 ?_
    refine w_iret dX9_drawn_9 rfl (by omega) ?_ ⟨Nat.le_refl _, Nat.le_refl _⟩
    exact (q_x (KC.stay hC (by unfold drawR; ((repeat (first | rw [if_pos (by omega)] | rw [if_neg (by omega)])) <;> rfl))))
theorem c_X9_refusal {E : EV} {M : MM} {p : PS} {c f r i n : Int} (hC : CI M p) (hP : POK p) (hc : R32 c) (hf : R32 f) (hr : R32 r) (hi : R32 i) (hn9 : R32 n) : Cx E mX9_refusalOfRain 3 [vr 0, vi c, vi f, vi r, vi i, vi n] M (fun z m => (z ≠ 0 ∧ ∀ b, KC M (if (0 ≤ c ∧ c ≤ p.S 0 - 1) ∧ (0 ≤ f ∧ f ≤ 15) ∧ (0 ≤ r ∧ r < 8) ∧ 1 ≤ n ∧ n ≤ 12 then (if p.ln r < 0 then (-1000011, (⟨p.ln, p.sz, p.it, p.tn, p.tp, p.S, p.u, p.U, p.fl, p.I, p.lf, 1, p.tr, p.tb⟩ : PS)) else if 0 ≤ i ∧ i + n ≤ p.sz r then b else (-1000012, (⟨p.ln, p.sz, p.it, p.tn, p.tp, p.S, p.u, p.U, p.fl, p.I, p.lf, 2, p.tr, p.tb⟩ : PS))) else (-1000001, p)) z m) ∨ (z = 0 ∧ m = M ∧ ((0 ≤ c ∧ c ≤ p.S 0 - 1) ∧ (0 ≤ f ∧ f ≤ 15) ∧ (0 ≤ r ∧ r < 8) ∧ 1 ≤ n ∧ n ≤ 12) ∧ ¬ p.ln r < 0 ∧ 0 ≤ i ∧ i + n ≤ p.sz r)) := by
  refine Ct.of [some (vr 0), some (vi c), some (vi f), some (vi r), some (vi i), some (vi n)] rfl rfl rfl (Nat.le_of_ble_eq_true rfl) ?_
  have hn := hP.hs.n
  have e0 := hC.S.num
  have q1 := hP.hl r
  have l1 := hC.ln r
  have l2 := hC.sz r
  refine w_aload_n dX9_refusalOfRain_0 rfl ?_
  refine w_iload_n dX9_refusalOfRain_1 rfl ?_
  refine cVm dX9_refusalOfRain_2 ok_X9_isCloud lv9_180 (c_X9_isCloud (by omega) (by omega)) rfl (congrArg Prod.fst g0_0) (by decide) (by decide) rfl (by decide) (Nat.le_of_ble_eq_true rfl) (fun r2 => ?_)
  refine w_ifB_eq (tgt := 33) dX9_refusalOfRain_5 (by decide) (fun h5 => ?_) (fun h5 => ?_)
  · (first | replace h5 := of_decide_eq_true h5 | replace h5 := of_decide_eq_false h5 | skip)
    refine w_ldc dX9_refusalOfRain_33 co9_90 ?_
    refine w_iret dX9_refusalOfRain_35 rfl (by omega) ?_ ⟨Nat.le_refl _, Nat.le_refl _⟩
    exact (q_x (Or.inl ⟨by decide, fun b => KC.stay hC (by rw [if_neg (by omega)])⟩))
  · (first | replace h5 := of_decide_eq_true h5 | replace h5 := of_decide_eq_false h5 | skip)
    refine w_iload_n dX9_refusalOfRain_8 rfl ?_
    refine cSm dX9_refusalOfRain_9 ok_X9_isField (Or.inl ls9_214) (c_X9_isField (by omega)) rfl  rfl (by decide) (Nat.le_of_ble_eq_true rfl) (fun r9 => ?_)
    refine w_ifB_eq (tgt := 33) dX9_refusalOfRain_12 (by decide) (fun h12 => ?_) (fun h12 => ?_)
    · (first | replace h12 := of_decide_eq_true h12 | replace h12 := of_decide_eq_false h12 | skip)
      refine w_ldc dX9_refusalOfRain_33 co9_90 ?_
      refine w_iret dX9_refusalOfRain_35 rfl (by omega) ?_ ⟨Nat.le_refl _, Nat.le_refl _⟩
      exact (q_x (Or.inl ⟨by decide, fun b => KC.stay hC (by rw [if_neg (by omega)])⟩))
    · (first | replace h12 := of_decide_eq_true h12 | replace h12 := of_decide_eq_false h12 | skip)
      refine w_iload_n dX9_refusalOfRain_15 rfl ?_
      refine cSm dX9_refusalOfRain_16 ok_X5_isRow (Or.inl ls9_82) (c_X5_isRow (by omega)) rfl  rfl (by decide) (Nat.le_of_ble_eq_true rfl) (fun r16 => ?_)
      refine w_ifB_eq (tgt := 33) dX9_refusalOfRain_19 (by decide) (fun h19 => ?_) (fun h19 => ?_)
      · (first | replace h19 := of_decide_eq_true h19 | replace h19 := of_decide_eq_false h19 | skip)
        refine w_ldc dX9_refusalOfRain_33 co9_90 ?_
        refine w_iret dX9_refusalOfRain_35 rfl (by omega) ?_ ⟨Nat.le_refl _, Nat.le_refl _⟩
        exact (q_x (Or.inl ⟨by decide, fun b => KC.stay hC (by rw [if_neg (by omega)])⟩))
      · (first | replace h19 := of_decide_eq_true h19 | replace h19 := of_decide_eq_false h19 | skip)
        refine w_iload dX9_refusalOfRain_22 rfl ?_
        refine w_iconst dX9_refusalOfRain_24 ?_
        refine w_bipush dX9_refusalOfRain_25 (by decide +kernel) ?_
        refine cSm dX9_refusalOfRain_27 ok_X9_within (Or.inl ls9_86) (c_X9_within (by omega) (by omega) (by omega)) rfl  rfl (by decide) (Nat.le_of_ble_eq_true rfl) (fun r27 => ?_)
        refine w_ifB_ne (tgt := 36) dX9_refusalOfRain_30 (by decide) (fun h30 => ?_) (fun h30 => ?_)
        · (first | replace h30 := of_decide_eq_true h30 | replace h30 := of_decide_eq_false h30 | skip)
          have q1 := q1 (by omega) (by omega)
          have l1 := l1 (by omega) (by omega)
          have l2 := l2 (by omega) (by omega)
          refine w_aload_n dX9_refusalOfRain_36 rfl ?_
          refine w_getR (r := 1) dX9_refusalOfRain_37 fl9_10 g0_0 (by decide) rfl ?_
          refine w_iload_n dX9_refusalOfRain_40 rfl ?_
          refine cVm dX9_refusalOfRain_41 ok_X5_isMissing lv9_102 (c_X5_isMissing (by omega) (by omega)) rfl (congrArg Prod.fst g0_1) (by decide) (by decide) rfl (by decide) (Nat.le_of_ble_eq_true rfl) (fun r41 => ?_)
          refine w_ifB_eq (tgt := 53) dX9_refusalOfRain_44 (by decide) (fun h44 => ?_) (fun h44 => ?_)
          · (first | replace h44 := of_decide_eq_true h44 | replace h44 := of_decide_eq_false h44 | skip)
            refine w_aload_n dX9_refusalOfRain_53 rfl ?_
            refine w_getR (r := 1) dX9_refusalOfRain_54 fl9_10 g0_0 (by decide) rfl ?_
            refine w_iload_n dX9_refusalOfRain_57 rfl ?_
            refine w_iload dX9_refusalOfRain_58 rfl ?_
            refine w_iload dX9_refusalOfRain_60 rfl ?_
            refine cVm dX9_refusalOfRain_62 ok_X5_reaches lv9_105 (c_X5_reaches (by omega) (by omega) (by omega) (by omega) (by omega)) rfl (congrArg Prod.fst g0_1) (by decide) (by decide) rfl (by decide) (Nat.le_of_ble_eq_true rfl) (fun r62 => ?_)
            refine w_ifB_eq (tgt := 72) dX9_refusalOfRain_65 (by decide) (fun h65 => ?_) (fun h65 => ?_)
            · (first | replace h65 := of_decide_eq_true h65 | replace h65 := of_decide_eq_false h65 | skip)
              refine w_aload_n dX9_refusalOfRain_72 rfl ?_
              refine w_iconst dX9_refusalOfRain_73 ?_
              refine cVm dX9_refusalOfRain_74 ok_X9_found lv9_91 (c_X9_found (by omega)) rfl (congrArg Prod.fst g0_0) (by decide) (by decide) rfl (by decide) (Nat.le_of_ble_eq_true rfl) (fun r74 => ?_)
              refine w_iret dX9_refusalOfRain_77 rfl (by omega) ?_ ⟨Nat.le_refl _, Nat.le_refl _⟩
              first | exact q_x (Or.inr ⟨rfl, rfl, by omega, by omega, by omega, by omega⟩) | exact q_x (Or.inl ⟨by decide, fun b => KC.find hC (Hi.refl M) (by rw [if_pos (by omega), if_neg (by omega), if_neg (by omega)]; rfl)⟩)
            · (first | replace h65 := of_decide_eq_true h65 | replace h65 := of_decide_eq_false h65 | skip)
              refine w_iconst dX9_refusalOfRain_68 ?_
              refine w_goto (tgt := 77) dX9_refusalOfRain_69 (by decide) ?_
              refine w_iret dX9_refusalOfRain_77 rfl (by omega) ?_ ⟨Nat.le_refl _, Nat.le_refl _⟩
              first | exact q_x (Or.inr ⟨rfl, rfl, by omega, by omega, by omega, by omega⟩) | exact q_x (Or.inl ⟨by decide, fun b => KC.find hC (Hi.refl M) (by rw [if_pos (by omega), if_neg (by omega), if_neg (by omega)]; rfl)⟩)
          · (first | replace h44 := of_decide_eq_true h44 | replace h44 := of_decide_eq_false h44 | skip)
            refine w_aload_n dX9_refusalOfRain_47 rfl ?_
            refine w_iconst dX9_refusalOfRain_48 ?_
            refine cVm dX9_refusalOfRain_49 ok_X9_found lv9_91 (c_X9_found (by omega)) rfl (congrArg Prod.fst g0_0) (by decide) (by decide) rfl (by decide) (Nat.le_of_ble_eq_true rfl) (fun r49 => ?_)
            refine w_iret dX9_refusalOfRain_52 rfl (by omega) ?_ ⟨Nat.le_refl _, Nat.le_refl _⟩
            exact (q_x (Or.inl ⟨by decide, fun b => KC.find hC (Hi.refl M) (by rw [if_pos (by omega), if_pos (by omega)]; rfl)⟩))
        · (first | replace h30 := of_decide_eq_true h30 | replace h30 := of_decide_eq_false h30 | skip)
          refine w_ldc dX9_refusalOfRain_33 co9_90 ?_
          refine w_iret dX9_refusalOfRain_35 rfl (by omega) ?_ ⟨Nat.le_refl _, Nat.le_refl _⟩
          exact (q_x (Or.inl ⟨by decide, fun b => KC.stay hC (by rw [if_neg (by omega)])⟩))
theorem fit_congr {T : SS} {f i : Int} {a b : Int → Int} {n : Nat} (h : ∀ d : Nat, d < n → a (i + (d : Int)) = b (i + (d : Int))) : allB n (fitP T f a i) = allB n (fitP T f b i) := allB_congr (fun d hd => by unfold fitP; rw [h d hd])
theorem c_X9_who {E : EV} {M : MM} {p : PS} {c f r i n : Int} (hC : CI M p) (hP : POK p) (hc : R32 c) (hf : R32 f) (hr : R32 r) (hi : R32 i) (hn9 : R32 n) : Cx E mX9_who 9 [vr 0, vi c, vi f, vi r, vi i, vi n] M (KC M (whoR p c f r i n)) := by
  refine Ct.of [some (vr 0), some (vi c), some (vi f), some (vi r), some (vi i), some (vi n), none] rfl rfl rfl (Nat.le_of_ble_eq_true rfl) ?_
  have hd := hP.hs.d
  have hn := hP.hs.n
  refine w_aload_n dX9_who_0 rfl ?_
  refine w_iload_n dX9_who_1 rfl ?_
  refine w_iload_n dX9_who_2 rfl ?_
  refine w_iload_n dX9_who_3 rfl ?_
  refine w_iload dX9_who_4 rfl ?_
  refine w_iload dX9_who_6 rfl ?_
  refine cVx dX9_who_8 ok_X9_refusalOfRain lv9_267 (c_X9_refusal hC hP hc hf hr hi hn9) rfl (congrArg Prod.fst g0_0) (by decide) (by decide) rfl (by decide) (Nat.le_of_ble_eq_true rfl) (fun z8 m8 r8 p8 => ?_)
  refine w_istore dX9_who_11 (by decide) ?_
  refine w_iload dX9_who_13 rfl ?_
  refine w_if_eq (tgt := 21) dX9_who_15 (by decide) (by omega) (fun h15 => ?_) (fun h15 => ?_)
  · obtain ⟨_, hm, ok, l1, i0, i1⟩ := p8.resolve_left (fun h => h.1 h15)
    subst hm
    obtain ⟨g, rfl⟩ : ∃ g : Nat, r = g := ⟨r.toNat, by omega⟩
    have q1 := hP.hl g (by omega) (by omega)
    refine w_aload_n dX9_who_21 rfl ?_
    refine w_aload_n dX9_who_22 rfl ?_
    refine w_getR (r := 201) dX9_who_23 fl9_57 g0_0 (by decide) rfl ?_
    refine w_iload_n dX9_who_26 rfl ?_
    refine w_iload_n dX9_who_27 rfl ?_
    refine w_iload_n dX9_who_28 rfl ?_
    refine w_iload dX9_who_29 rfl ?_
    refine w_iload dX9_who_31 rfl ?_
    refine cVx dX9_who_33 ok_X3_kindsThatFit lv9_271 (c_X3_kindsThatFit (j := g) hC.S hP.hs.ok (by omega) (by omega) (by omega) (by omega) (by omega) (by omega) i0 (by omega) (by omega) (by omega)) rfl (congrArg Prod.fst g0_201) (by decide) (by decide) rfl (by decide) (Nat.le_of_ble_eq_true rfl) (fun z33 m33 r33 p33 => ?_)
    refine cVm dX9_who_36 ok_X9_fine lv9_99 (c_X9_fine (by omega)) rfl (congrArg Prod.fst g0_0) (by decide) (by decide) rfl (by decide) (Nat.le_of_ble_eq_true rfl) (fun r36 => ?_)
    refine w_iret dX9_who_39 rfl (by omega) ?_ ⟨Nat.le_refl _, Nat.le_refl _⟩
    exact (q_x (KC.find (hC.scr (p33.2.scr (by omega))) (p33.2.hi (by omega)) (by unfold whoR; rw [if_pos ok, if_neg l1, if_pos ⟨i0, i1⟩, p33.1]; refine Prod.ext ?_ rfl; exact congrArg (fun x : Nat => (x : Int)) (setN_congr (fun k hk => by unfold kiB; rw [fit_congr (b := itF p (g : Int)) (fun d hd => hC.it g (by omega) (i + (d : Int)) (by omega) (by omega))])))))
  · refine w_iload dX9_who_18 rfl ?_
    refine w_iret dX9_who_20 rfl (by omega) ?_ ⟨Nat.le_refl _, Nat.le_refl _⟩
    exact (q_x (by rcases p8 with h | h <;> first | exact h.2 _ | exact absurd h.1 h15))
theorem c_X9_places {E : EV} {M : MM} {p : PS} {c f r i n : Int} (hC : CI M p) (hP : POK p) (hc : R32 c) (hf : R32 f) (hr : R32 r) (hi : R32 i) (hn9 : R32 n) : Cx E mX9_places 9 [vr 0, vi c, vi f, vi r, vi i, vi n] M (KC M (plcR p c f r i n)) := by
  refine Ct.of [some (vr 0), some (vi c), some (vi f), some (vi r), some (vi i), some (vi n), none] rfl rfl rfl (Nat.le_of_ble_eq_true rfl) ?_
  have hd := hP.hs.d
  have hn := hP.hs.n
  refine w_aload_n dX9_places_0 rfl ?_
  refine w_iload_n dX9_places_1 rfl ?_
  refine w_iload_n dX9_places_2 rfl ?_
  refine w_iload_n dX9_places_3 rfl ?_
  refine w_iload dX9_places_4 rfl ?_
  refine w_iload dX9_places_6 rfl ?_
  refine cVx dX9_places_8 ok_X9_refusalOfRain lv9_267 (c_X9_refusal hC hP hc hf hr hi hn9) rfl (congrArg Prod.fst g0_0) (by decide) (by decide) rfl (by decide) (Nat.le_of_ble_eq_true rfl) (fun z8 m8 r8 p8 => ?_)
  refine w_istore dX9_places_11 (by decide) ?_
  refine w_iload dX9_places_13 rfl ?_
  refine w_if_eq (tgt := 21) dX9_places_15 (by decide) (by omega) (fun h15 => ?_) (fun h15 => ?_)
  · obtain ⟨_, hm, ok, l1, i0, i1⟩ := p8.resolve_left (fun h => h.1 h15)
    subst hm
    obtain ⟨g, rfl⟩ : ∃ g : Nat, r = g := ⟨r.toNat, by omega⟩
    have q1 := hP.hl g (by omega) (by omega)
    have k1 := hC.S.wet (c := c) (by omega) (by omega)
    refine w_aload_n dX9_places_21 rfl ?_
    refine w_getR (r := 23) dX9_places_22 fl9_35 g0_0 (by decide) rfl ?_
    refine w_iload_n dX9_places_25 rfl ?_
    refine cVm dX9_places_26 ok_X6_isGone lv9_183 (c_X6_isGone sk_23 (by omega) (by omega)) rfl (sk_k sk_23) (sk_n0 sk_23) (by decide) rfl (by decide) (Nat.le_of_ble_eq_true rfl) (fun r26 => ?_)
    refine w_ifB_eq (tgt := 35) dX9_places_29 (by decide) (fun h29 => ?_) (fun h29 => ?_)
    · (first | replace h29 := of_decide_eq_true h29 | replace h29 := of_decide_eq_false h29 | skip)
      refine w_aload_n dX9_places_35 rfl ?_
      refine w_aload_n dX9_places_36 rfl ?_
      refine w_getR (r := 201) dX9_places_37 fl9_57 g0_0 (by decide) rfl ?_
      refine w_iload_n dX9_places_40 rfl ?_
      refine w_iload_n dX9_places_41 rfl ?_
      refine w_iload_n dX9_places_42 rfl ?_
      refine w_iload dX9_places_43 rfl ?_
      refine w_iload dX9_places_45 rfl ?_
      refine cVx dX9_places_47 ok_X3_placesThatFit lv9_274 (c_X3_placesThatFit (j := g) hC.S hP.hs.ok (by omega) (by omega) (by omega) (by omega) (by omega) (by omega) i0 (by omega) (by omega) (by omega)) rfl (congrArg Prod.fst g0_201) (by decide) (by decide) rfl (by decide) (Nat.le_of_ble_eq_true rfl) (fun z47 m47 r47 p47 => ?_)
      refine cVm dX9_places_50 ok_X9_fine lv9_99 (c_X9_fine (by omega)) rfl (congrArg Prod.fst g0_0) (by decide) (by decide) rfl (by decide) (Nat.le_of_ble_eq_true rfl) (fun r50 => ?_)
      refine w_iret dX9_places_53 rfl (by omega) ?_ ⟨Nat.le_refl _, Nat.le_refl _⟩
      exact (q_x (KC.find (hC.scr (p47.2.scr (by omega))) (p47.2.hi (by omega)) (by unfold plcR; rw [if_pos ok, if_neg l1, if_pos ⟨i0, i1⟩, if_neg (by omega), p47.1]; refine Prod.ext ?_ rfl; exact congrArg (fun x : Nat => (x : Int)) (setN_congr (fun k hk => by unfold plB; rw [fit_congr (b := itF p (g : Int)) (fun d hd => hC.it g (by omega) (i + (d : Int)) (by omega) (by omega))])))))
    · (first | replace h29 := of_decide_eq_true h29 | replace h29 := of_decide_eq_false h29 | skip)
      refine w_ldc dX9_places_32 co9_161 ?_
      refine w_iret dX9_places_34 rfl (by omega) ?_ ⟨Nat.le_refl _, Nat.le_refl _⟩
      exact (q_x (KC.stay hC (by unfold plcR; rw [if_pos ok, if_neg l1, if_pos ⟨i0, i1⟩, if_pos (by omega)])))
  · refine w_iload dX9_places_18 rfl ?_
    refine w_iret dX9_places_20 rfl (by omega) ?_ ⟨Nat.le_refl _, Nat.le_refl _⟩
    exact (q_x (by rcases p8 with h | h <;> first | exact h.2 _ | exact absurd h.1 h15))
