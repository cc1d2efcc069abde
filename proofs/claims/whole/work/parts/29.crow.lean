/-! ===== the class: what its calls share; rows, letters ===== -/
theorem c_X9_found {E : EV} {M : MM} {z : Int} (hz : 0 ≤ z ∧ z ≤ 100) : Cm E mX9_found 0 [vr 0, vi z] M (-1000010 - z) (upM M 0 11 z) := by
  refine Ct.of [some (vr 0), some (vi z)] rfl rfl rfl (Nat.le_of_ble_eq_true rfl) ?_
  refine w_aload_n dX9_found_0 rfl ?_
  refine w_iload_n dX9_found_1 rfl ?_
  refine r_putI (q := 11) dX9_found_2 fl9_345 g0_0 (by decide) rfl (by decide) (by omega) rfl (by decide +kernel) rfl ?_
  refine w_ldcw dX9_found_5 co9_348 ?_
  refine w_iload_n dX9_found_8 rfl ?_
  refine w_isub dX9_found_9 ?_
  refine w_iret dX9_found_10 rfl (by omega) ?_ ⟨Nat.le_refl _, Nat.le_refl _⟩
  exact ⟨rfl, rfl, rfl, rfl⟩
theorem c_X9_fine {E : EV} {M : MM} {z : Int} (hz : R32 z) : Cm E mX9_fine 0 [vr 0, vi z] M z (upM M 0 11 0) := by
  refine Ct.of [some (vr 0), some (vi z)] rfl rfl rfl (Nat.le_of_ble_eq_true rfl) ?_
  refine w_aload_n dX9_fine_0 rfl ?_
  refine w_iconst dX9_fine_1 ?_
  refine r_putI (q := 11) dX9_fine_2 fl9_345 g0_0 (by decide) rfl (by decide) (by omega) rfl (by decide +kernel) rfl ?_
  refine w_iload_n dX9_fine_5 rfl ?_
  refine w_iret dX9_fine_6 rfl (by omega) ?_ ⟨Nat.le_refl _, Nat.le_refl _⟩
  exact ⟨rfl, rfl, rfl, rfl⟩
theorem c_X9_noSky {E : EV} {M : MM} : Cm E mX9_noSky 0 [vr 0] M (bi (decide (M 23 0 = 0))) M := by
  refine Ct.of [some (vr 0)] rfl rfl rfl (Nat.le_of_ble_eq_true rfl) ?_
  refine w_aload_n dX9_noSky_0 rfl ?_
  refine w_getR (r := 23) dX9_noSky_1 fl9_35 g0_0 (by decide) rfl ?_
  refine r_getI (q := 0) dX9_noSky_4 fl9_155 (sk_g0 sk_23) (sk_n0 sk_23) rfl (by decide) rfl (fun r4 => ?_)
  refine w_if_ne (tgt := 14) dX9_noSky_7 (by decide) (by omega) (fun h7 => ?_) (fun h7 => ?_)
  · refine w_iconst dX9_noSky_14 ?_
    refine w_zret (b := false) dX9_noSky_15 rfl ?_ ⟨Nat.le_refl _, Nat.le_refl _⟩
    exact (q_b (decide_eq_false (by omega)).symm)
  · refine w_iconst dX9_noSky_10 ?_
    refine w_goto (tgt := 15) dX9_noSky_11 (by decide) ?_
    refine w_zret (b := true) dX9_noSky_15 rfl ?_ ⟨Nat.le_refl _, Nat.le_refl _⟩
    exact (q_b (decide_eq_true (by omega)).symm)
theorem c_X9_isCloud {E : EV} {M : MM} {z : Int} (hz : R32 z) (hn : 0 ≤ M 23 0 ∧ M 23 0 ≤ 5) : Cm E mX9_isCloud 1 [vr 0, vi z] M (bi (decide (0 ≤ z ∧ z ≤ M 23 0 - 1))) M := by
  refine Ct.of [some (vr 0), some (vi z)] rfl rfl rfl (Nat.le_of_ble_eq_true rfl) ?_
  refine w_iload_n dX9_isCloud_0 rfl ?_
  refine w_iconst dX9_isCloud_1 ?_
  refine w_aload_n dX9_isCloud_2 rfl ?_
  refine w_getR (r := 23) dX9_isCloud_3 fl9_35 g0_0 (by decide) rfl ?_
  refine r_getI (q := 0) dX9_isCloud_6 fl9_155 (sk_g0 sk_23) (sk_n0 sk_23) rfl (by decide) rfl (fun r6 => ?_)
  refine w_iconst dX9_isCloud_9 ?_
  refine w_isub dX9_isCloud_10 ?_
  refine cSm dX9_isCloud_11 ok_X9_within (Or.inl ls9_86) (c_X9_within (by omega) (by omega) (by omega)) rfl  rfl (by decide) (Nat.le_of_ble_eq_true rfl) (fun r11 => ?_)
  refine w_zret dX9_isCloud_14 rfl ?_ ⟨Nat.le_refl _, Nat.le_refl _⟩
  exact ⟨rfl, rfl, rfl, rfl⟩
theorem c_X9_areTwoClouds {E : EV} {M : MM} {z w : Int} (hz : R32 z) (hw : R32 w) (hn : 0 ≤ M 23 0 ∧ M 23 0 ≤ 5) : Cm E mX9_areTwoClouds 2 [vr 0, vi z, vi w] M (bi (decide ((0 ≤ z ∧ z ≤ M 23 0 - 1) ∧ (0 ≤ w ∧ w ≤ M 23 0 - 1) ∧ z ≠ w))) M := by
  refine Ct.of [some (vr 0), some (vi z), some (vi w)] rfl rfl rfl (Nat.le_of_ble_eq_true rfl) ?_
  refine w_aload_n dX9_areTwoClouds_0 rfl ?_
  refine w_iload_n dX9_areTwoClouds_1 rfl ?_
  refine cVm dX9_areTwoClouds_2 ok_X9_isCloud lv9_180 (c_X9_isCloud (by omega) (by omega)) rfl (congrArg Prod.fst g0_0) (by decide) (by decide) rfl (by decide) (Nat.le_of_ble_eq_true rfl) (fun r2 => ?_)
  refine w_ifB_eq (tgt := 25) dX9_areTwoClouds_5 (by decide) (fun h5 => ?_) (fun h5 => ?_)
  · (first | replace h5 := of_decide_eq_true h5 | replace h5 := of_decide_eq_false h5 | skip)
    refine w_iconst dX9_areTwoClouds_25 ?_
    refine w_zret (b := false) dX9_areTwoClouds_26 rfl ?_ ⟨Nat.le_refl _, Nat.le_refl _⟩
    exact (q_b (decide_eq_false (by omega)).symm)
  · (first | replace h5 := of_decide_eq_true h5 | replace h5 := of_decide_eq_false h5 | skip)
    refine w_aload_n dX9_areTwoClouds_8 rfl ?_
    refine w_iload_n dX9_areTwoClouds_9 rfl ?_
    refine cVm dX9_areTwoClouds_10 ok_X9_isCloud lv9_180 (c_X9_isCloud (by omega) (by omega)) rfl (congrArg Prod.fst g0_0) (by decide) (by decide) rfl (by decide) (Nat.le_of_ble_eq_true rfl) (fun r10 => ?_)
    refine w_ifB_eq (tgt := 25) dX9_areTwoClouds_13 (by decide) (fun h13 => ?_) (fun h13 => ?_)
    · (first | replace h13 := of_decide_eq_true h13 | replace h13 := of_decide_eq_false h13 | skip)
      refine w_iconst dX9_areTwoClouds_25 ?_
      refine w_zret (b := false) dX9_areTwoClouds_26 rfl ?_ ⟨Nat.le_refl _, Nat.le_refl _⟩
      exact (q_b (decide_eq_false (by omega)).symm)
    · (first | replace h13 := of_decide_eq_true h13 | replace h13 := of_decide_eq_false h13 | skip)
      refine w_iload_n dX9_areTwoClouds_16 rfl ?_
      refine w_iload_n dX9_areTwoClouds_17 rfl ?_
      refine w_icmp_eq (tgt := 25) dX9_areTwoClouds_18 (by decide) (by omega) (by omega) (fun h18 => ?_) (fun h18 => ?_)
      · refine w_iconst dX9_areTwoClouds_25 ?_
        refine w_zret (b := false) dX9_areTwoClouds_26 rfl ?_ ⟨Nat.le_refl _, Nat.le_refl _⟩
        exact (q_b (decide_eq_false (by omega)).symm)
      · refine w_iconst dX9_areTwoClouds_21 ?_
        refine w_goto (tgt := 26) dX9_areTwoClouds_22 (by decide) ?_
        refine w_zret (b := true) dX9_areTwoClouds_26 rfl ?_ ⟨Nat.le_refl _, Nat.le_refl _⟩
        exact (q_b (decide_eq_true (by omega)).symm)
def rowR (p : PS) (r l n : Int) : Int × PS := if 0 ≤ r ∧ r < 8 ∧ 0 ≤ l ∧ l ≤ 2 ∧ n ≤ 40 then (if n < 0 then (-1000014, (⟨p.ln, p.sz, p.it, p.tn, p.tp, p.S, p.u, p.U, p.fl, p.I, p.lf, 4, p.tr, p.tb⟩ : PS)) else (n, (⟨upS p.ln r l, upS p.sz r n, fun q => if 40 * r ≤ q ∧ q < 40 * r + 40 then 0 else p.it q, p.tn, p.tp, p.S, p.u, p.U, p.fl, p.I, p.lf, 0, p.tr, p.tb⟩ : PS))) else (-1000001, p)
def setR (p : PS) (r i v : Int) : Int × PS := if 0 ≤ r ∧ r < 8 then (if p.ln r < 0 then (-1000011, (⟨p.ln, p.sz, p.it, p.tn, p.tp, p.S, p.u, p.U, p.fl, p.I, p.lf, 1, p.tr, p.tb⟩ : PS)) else if 0 ≤ i ∧ i < p.sz r then (narF (p.ln r) v, (⟨p.ln, p.sz, upS p.it (40 * r + i) (narF (p.ln r) v), p.tn, p.tp, p.S, p.u, p.U, p.fl, p.I, p.lf, 0, p.tr, p.tb⟩ : PS)) else (-1000012, (⟨p.ln, p.sz, p.it, p.tn, p.tp, p.S, p.u, p.U, p.fl, p.I, p.lf, 2, p.tr, p.tb⟩ : PS))) else (-1000001, p)
def copyR (p : PS) (a i b j n : Int) : Int × PS := if (0 ≤ a ∧ a < 8) ∧ 0 ≤ b ∧ b < 8 then (if p.ln a < 0 ∨ p.ln b < 0 then (-1000011, (⟨p.ln, p.sz, p.it, p.tn, p.tp, p.S, p.u, p.U, p.fl, p.I, p.lf, 1, p.tr, p.tb⟩ : PS)) else if p.ln a ≠ p.ln b then (-1000015, (⟨p.ln, p.sz, p.it, p.tn, p.tp, p.S, p.u, p.U, p.fl, p.I, p.lf, 5, p.tr, p.tb⟩ : PS)) else if (0 ≤ i ∧ 0 ≤ n ∧ i + n ≤ p.sz a) ∧ (0 ≤ j ∧ j + n ≤ p.sz b) then (n, (⟨p.ln, p.sz, fun q => if 40 * b + j ≤ q ∧ q < 40 * b + j + n then p.it (40 * a + i + (q - (40 * b + j))) else p.it q, p.tn, p.tp, p.S, p.u, p.U, p.fl, p.I, p.lf, 0, p.tr, p.tb⟩ : PS)) else (-1000012, (⟨p.ln, p.sz, p.it, p.tn, p.tp, p.S, p.u, p.U, p.fl, p.I, p.lf, 2, p.tr, p.tb⟩ : PS))) else (-1000001, p)
def dropR (p : PS) (r : Int) : Int × PS := if 0 ≤ r ∧ r < 8 then (if p.ln r < 0 then (-1000011, (⟨p.ln, p.sz, p.it, p.tn, p.tp, p.S, p.u, p.U, p.fl, p.I, p.lf, 1, p.tr, p.tb⟩ : PS)) else (p.sz r, (⟨upS p.ln r (-1), p.sz, p.it, p.tn, p.tp, p.S, p.u, p.U, p.fl, p.I, p.lf, 0, p.tr, p.tb⟩ : PS))) else (-1000001, p)
def feedR (p : PS) (l : Int) : Int × PS := if 0 ≤ l ∧ l ≤ 255 then (if p.tn = 100 then (-1000003, p) else (p.tn + 1, (⟨p.ln, p.sz, p.it, p.tn + 1, upS p.tp p.tn l, p.S, p.u, p.U, p.fl, p.I, p.lf, p.fd, p.tr, p.tb⟩ : PS))) else (-1000001, p)
theorem c_X9_row {E : EV} {M : MM} {p : PS} {r l n : Int} (hC : CI M p) (hr : R32 r) (hl : R32 l) (hn : R32 n) : Cx E mX9_row 9 [vr 0, vi r, vi l, vi n] M (KC M (rowR p r l n)) := by
  refine Ct.of [some (vr 0), some (vi r), some (vi l), some (vi n)] rfl rfl rfl (Nat.le_of_ble_eq_true rfl) ?_
  have key : ∀ g : Nat, g < 8 → CI (zR (upM (upM M 2 (g : Int) l) 3 (g : Int) n) (5 + g) 0 40) (⟨upS p.ln g l, upS p.sz g n, fun q => if 40 * (g : Int) ≤ q ∧ q < 40 * (g : Int) + 40 then 0 else p.it q, p.tn, p.tp, p.S, p.u, p.U, p.fl, p.I, p.lf, p.fd, p.tr, p.tb⟩ : PS) ∧ Hi M (zR (upM (upM M 2 (g : Int) l) 3 (g : Int) n) (5 + g) 0 40) := by
    intro g hg
    refine ⟨hC.rows (fun i _ _ c => by rw [zR_cell (by omega), upM_cell (by omega), upM_cell (by omega)]) (fun s a b => ?_) (fun s a b => ?_) (fun j hj i a b => ?_), fun i hi => by rw [zR_cell (by omega), upM_cell (by omega), upM_cell (by omega)]⟩
    · rw [zR_cell (by omega), upM_cell (by omega), upS_at]
      by_cases e : s = (g : Int)
      · rw [e, upM_same, if_pos rfl]
      · rw [upM_ne (by omega), if_neg e]; exact hC.ln s a b
    · rw [zR_cell (by omega), upS_at]
      by_cases e : s = (g : Int)
      · rw [e, upM_same, if_pos rfl]
      · rw [upM_ne (by omega), if_neg e, upM_cell (by omega)]; exact hC.sz s a b
    · by_cases e : j = g
      · subst e
        unfold zR
        rw [if_pos ⟨rfl, by omega, by omega⟩, if_pos (by omega)]
      · rw [zR_cell (by omega), upM_cell (by omega), upM_cell (by omega), if_neg (by omega)]; exact hC.it j hj i a b
  refine w_iload_n dX9_row_0 rfl ?_
  refine cSm dX9_row_1 ok_X5_isRow (Or.inl ls9_82) (c_X5_isRow (by omega)) rfl  rfl (by decide) (Nat.le_of_ble_eq_true rfl) (fun r1 => ?_)
  refine w_ifB_eq (tgt := 22) dX9_row_4 (by decide) (fun h4 => ?_) (fun h4 => ?_)
  · (first | replace h4 := of_decide_eq_true h4 | replace h4 := of_decide_eq_false h4 | skip)
    refine w_ldc dX9_row_22 co9_90 ?_
    refine w_iret dX9_row_24 rfl (by omega) ?_ ⟨Nat.le_refl _, Nat.le_refl _⟩
    exact (q_x (KC.stay hC (by unfold rowR; ((repeat (first | rw [if_pos (by omega)] | rw [if_neg (by omega)])) <;> rfl))))
  · (first | replace h4 := of_decide_eq_true h4 | replace h4 := of_decide_eq_false h4 | skip)
    refine w_iload_n dX9_row_7 rfl ?_
    refine w_iconst dX9_row_8 ?_
    refine w_iconst dX9_row_9 ?_
    refine cSm dX9_row_10 ok_X9_within (Or.inl ls9_86) (c_X9_within (by omega) (by omega) (by omega)) rfl  rfl (by decide) (Nat.le_of_ble_eq_true rfl) (fun r10 => ?_)
    refine w_ifB_eq (tgt := 22) dX9_row_13 (by decide) (fun h13 => ?_) (fun h13 => ?_)
    · (first | replace h13 := of_decide_eq_true h13 | replace h13 := of_decide_eq_false h13 | skip)
      refine w_ldc dX9_row_22 co9_90 ?_
      refine w_iret dX9_row_24 rfl (by omega) ?_ ⟨Nat.le_refl _, Nat.le_refl _⟩
      exact (q_x (KC.stay hC (by unfold rowR; ((repeat (first | rw [if_pos (by omega)] | rw [if_neg (by omega)])) <;> rfl))))
    · (first | replace h13 := of_decide_eq_true h13 | replace h13 := of_decide_eq_false h13 | skip)
      refine w_iload_n dX9_row_16 rfl ?_
      refine w_bipush dX9_row_17 (by decide +kernel) ?_
      refine w_icmp_le (tgt := 25) dX9_row_19 (by decide) (by omega) (by omega) (fun h19 => ?_) (fun h19 => ?_)
      · refine w_iload_n dX9_row_25 rfl ?_
        refine w_if_ge (tgt := 35) dX9_row_26 (by decide) (by omega) (fun h26 => ?_) (fun h26 => ?_)
        · obtain ⟨g, rfl⟩ : ∃ g : Nat, r = g := ⟨r.toNat, by omega⟩
          have key := key g (by omega)
          refine w_aload_n dX9_row_35 rfl ?_
          refine w_getR (r := 1) dX9_row_36 fl9_10 g0_0 (by decide) rfl ?_
          refine w_iload_n dX9_row_39 rfl ?_
          refine w_iload_n dX9_row_40 rfl ?_
          refine w_iload_n dX9_row_41 rfl ?_
          refine cVv dX9_row_42 ok_X5_make lv9_95 (c_X5_make (j := g) (by omega) hl hn) rfl (congrArg Prod.fst g0_1) (by decide) (by decide) rfl (by decide) (Nat.le_of_ble_eq_true rfl) ?_
          refine w_aload_n dX9_row_45 rfl ?_
          refine w_iload_n dX9_row_46 rfl ?_
          refine cVm dX9_row_47 ok_X9_fine lv9_99 (c_X9_fine (by omega)) rfl (congrArg Prod.fst g0_0) (by decide) (by decide) rfl (by decide) (Nat.le_of_ble_eq_true rfl) (fun r47 => ?_)
          refine w_iret dX9_row_50 rfl (by omega) ?_ ⟨Nat.le_refl _, Nat.le_refl _⟩
          exact (q_x (KC.find key.1 key.2 (by unfold rowR; ((repeat (first | rw [if_pos (by omega)] | rw [if_neg (by omega)])) <;> rfl))))
        · refine w_aload_n dX9_row_29 rfl ?_
          refine w_iconst dX9_row_30 ?_
          refine cVm dX9_row_31 ok_X9_found lv9_91 (c_X9_found (by omega)) rfl (congrArg Prod.fst g0_0) (by decide) (by decide) rfl (by decide) (Nat.le_of_ble_eq_true rfl) (fun r31 => ?_)
          refine w_iret dX9_row_34 rfl (by omega) ?_ ⟨Nat.le_refl _, Nat.le_refl _⟩
          exact (q_x (KC.find hC (Hi.refl M) (by unfold rowR; ((repeat (first | rw [if_pos (by omega)] | rw [if_neg (by omega)])) <;> rfl))))
      · refine w_ldc dX9_row_22 co9_90 ?_
        refine w_iret dX9_row_24 rfl (by omega) ?_ ⟨Nat.le_refl _, Nat.le_refl _⟩
        exact (q_x (KC.stay hC (by unfold rowR; ((repeat (first | rw [if_pos (by omega)] | rw [if_neg (by omega)])) <;> rfl))))
theorem c_X9_set {E : EV} {M : MM} {p : PS} {r i v : Int} (hC : CI M p) (hP : POK p) (hr : R32 r) (hi : R32 i) (hv : R32 v) : Cx E mX9_set 9 [vr 0, vi r, vi i, vi v] M (KC M (setR p r i v)) := by
  refine Ct.of [some (vr 0), some (vi r), some (vi i), some (vi v)] rfl rfl rfl (Nat.le_of_ble_eq_true rfl) ?_
  by_cases hq : 0 ≤ r ∧ r < 8
  · obtain ⟨g, rfl⟩ : ∃ g : Nat, r = g := ⟨r.toNat, by omega⟩
    have h1 := hP.hl g (by omega) (by omega)
    have e1 := hC.ln g (by omega) (by omega)
    have e2 := hC.sz g (by omega) (by omega)
    have nr := narF_r (l := M 2 (g : Int)) hv
    have key : 0 ≤ i → i < p.sz (g : Int) → CI (upM M (5 + g) i (narF (M 2 (g : Int)) v)) (⟨p.ln, p.sz, upS p.it (40 * (g : Int) + i) (narF (p.ln (g : Int)) v), p.tn, p.tp, p.S, p.u, p.U, p.fl, p.I, p.lf, p.fd, p.tr, p.tb⟩ : PS) ∧ Hi M (upM M (5 + g) i (narF (M 2 (g : Int)) v)) := by
      intro i0 i1
      refine ⟨?_, fun i hi => by rw [upM_cell (by omega)]⟩
      refine hC.rows (fun i _ _ c => by rw [upM_cell (by omega)]) (fun s a b => by rw [upM_cell (by omega)]; exact hC.ln s a b) (fun s a b => by rw [upM_cell (by omega)]; exact hC.sz s a b) (fun j hj k a b => ?_)
      rw [upS_at]
      by_cases e : j = g ∧ k = i
      · rw [e.1, e.2, upM_same, if_pos rfl, e1]
      · rw [upM_ne (by omega), if_neg (by omega)]; exact hC.it j hj k a b
    refine w_iload_n dX9_set_0 rfl ?_
    refine cSm dX9_set_1 ok_X5_isRow (Or.inl ls9_82) (c_X5_isRow (by omega)) rfl  rfl (by decide) (Nat.le_of_ble_eq_true rfl) (fun r1 => ?_)
    refine w_ifB_ne (tgt := 10) dX9_set_4 (by decide) (fun h4 => ?_) (fun h4 => ?_)
    · (first | replace h4 := of_decide_eq_true h4 | replace h4 := of_decide_eq_false h4 | skip)
      refine w_aload_n dX9_set_10 rfl ?_
      refine w_getR (r := 1) dX9_set_11 fl9_10 g0_0 (by decide) rfl ?_
      refine w_iload_n dX9_set_14 rfl ?_
      refine cVm dX9_set_15 ok_X5_isMissing lv9_102 (c_X5_isMissing (by omega) (by omega)) rfl (congrArg Prod.fst g0_1) (by decide) (by decide) rfl (by decide) (Nat.le_of_ble_eq_true rfl) (fun r15 => ?_)
      refine w_ifB_eq (tgt := 27) dX9_set_18 (by decide) (fun h18 => ?_) (fun h18 => ?_)
      · (first | replace h18 := of_decide_eq_true h18 | replace h18 := of_decide_eq_false h18 | skip)
        refine w_aload_n dX9_set_27 rfl ?_
        refine w_getR (r := 1) dX9_set_28 fl9_10 g0_0 (by decide) rfl ?_
        refine w_iload_n dX9_set_31 rfl ?_
        refine w_iload_n dX9_set_32 rfl ?_
        refine w_iconst dX9_set_33 ?_
        refine cVm dX9_set_34 ok_X5_reaches lv9_105 (c_X5_reaches (by omega) (by omega) (by omega) (by omega) (by omega)) rfl (congrArg Prod.fst g0_1) (by decide) (by decide) rfl (by decide) (Nat.le_of_ble_eq_true rfl) (fun r34 => ?_)
        refine w_ifB_ne (tgt := 46) dX9_set_37 (by decide) (fun h37 => ?_) (fun h37 => ?_)
        · (first | replace h37 := of_decide_eq_true h37 | replace h37 := of_decide_eq_false h37 | skip)
          refine w_aload_n dX9_set_46 rfl ?_
          refine w_aload_n dX9_set_47 rfl ?_
          refine w_getR (r := 1) dX9_set_48 fl9_10 g0_0 (by decide) rfl ?_
          refine w_iload_n dX9_set_51 rfl ?_
          refine w_iload_n dX9_set_52 rfl ?_
          refine w_iload_n dX9_set_53 rfl ?_
          refine cVm dX9_set_54 ok_X5_put lv9_108 (c_X5_put (j := g) (by omega) (by omega) (by omega) (by omega) hv) rfl (congrArg Prod.fst g0_1) (by decide) (by decide) rfl (by decide) (Nat.le_of_ble_eq_true rfl) (fun r54 => ?_)
          refine cVm dX9_set_57 ok_X9_fine lv9_99 (c_X9_fine (by omega)) rfl (congrArg Prod.fst g0_0) (by decide) (by decide) rfl (by decide) (Nat.le_of_ble_eq_true rfl) (fun r57 => ?_)
          refine w_iret dX9_set_60 rfl (by omega) ?_ ⟨Nat.le_refl _, Nat.le_refl _⟩
          exact (q_x (KC.find (key (by omega) (by omega)).1 (key (by omega) (by omega)).2 (by unfold setR; (repeat (first | rw [if_pos (by omega)] | rw [if_neg (by omega)])); rw [e1]; rfl)))
        · (first | replace h37 := of_decide_eq_true h37 | replace h37 := of_decide_eq_false h37 | skip)
          refine w_aload_n dX9_set_40 rfl ?_
          refine w_iconst dX9_set_41 ?_
          refine cVm dX9_set_42 ok_X9_found lv9_91 (c_X9_found (by omega)) rfl (congrArg Prod.fst g0_0) (by decide) (by decide) rfl (by decide) (Nat.le_of_ble_eq_true rfl) (fun r42 => ?_)
          refine w_iret dX9_set_45 rfl (by omega) ?_ ⟨Nat.le_refl _, Nat.le_refl _⟩
          exact (q_x (KC.find hC (Hi.refl M) (by unfold setR; ((repeat (first | rw [if_pos (by omega)] | rw [if_neg (by omega)])) <;> rfl))))
      · (first | replace h18 := of_decide_eq_true h18 | replace h18 := of_decide_eq_false h18 | skip)
        refine w_aload_n dX9_set_21 rfl ?_
        refine w_iconst dX9_set_22 ?_
        refine cVm dX9_set_23 ok_X9_found lv9_91 (c_X9_found (by omega)) rfl (congrArg Prod.fst g0_0) (by decide) (by decide) rfl (by decide) (Nat.le_of_ble_eq_true rfl) (fun r23 => ?_)
        refine w_iret dX9_set_26 rfl (by omega) ?_ ⟨Nat.le_refl _, Nat.le_refl _⟩
        exact (q_x (KC.find hC (Hi.refl M) (by unfold setR; ((repeat (first | rw [if_pos (by omega)] | rw [if_neg (by omega)])) <;> rfl))))
    · (first | replace h4 := of_decide_eq_true h4 | replace h4 := of_decide_eq_false h4 | skip)
      refine w_ldc dX9_set_7 co9_90 ?_
      refine w_iret dX9_set_9 rfl (by omega) ?_ ⟨Nat.le_refl _, Nat.le_refl _⟩
      exact absurd hq h4
  · skip
    refine w_iload_n dX9_set_0 rfl ?_
    refine cSm dX9_set_1 ok_X5_isRow (Or.inl ls9_82) (c_X5_isRow (by omega)) rfl  rfl (by decide) (Nat.le_of_ble_eq_true rfl) (fun r1 => ?_)
    refine w_ifB_ne (tgt := 10) dX9_set_4 (by decide) (fun h4 => ?_) (fun h4 => ?_)
    · (first | replace h4 := of_decide_eq_true h4 | replace h4 := of_decide_eq_false h4 | skip)
      exact absurd h4 hq
    · (first | replace h4 := of_decide_eq_true h4 | replace h4 := of_decide_eq_false h4 | skip)
      refine w_ldc dX9_set_7 co9_90 ?_
      refine w_iret dX9_set_9 rfl (by omega) ?_ ⟨Nat.le_refl _, Nat.le_refl _⟩
      exact (q_x (KC.stay hC (by unfold setR; ((repeat (first | rw [if_pos (by omega)] | rw [if_neg (by omega)])) <;> rfl))))
theorem c_X9_drop {E : EV} {M : MM} {p : PS} {r : Int} (hC : CI M p) (hP : POK p) (hr : R32 r) : Cx E mX9_drop 9 [vr 0, vi r] M (KC M (dropR p r)) := by
  refine Ct.of [some (vr 0), some (vi r)] rfl rfl rfl (Nat.le_of_ble_eq_true rfl) ?_
  by_cases hq : 0 ≤ r ∧ r < 8
  · have h1 := hP.hl r hq.1 hq.2
    have e1 := hC.ln r hq.1 hq.2
    have e2 := hC.sz r hq.1 hq.2
    have key : CI (upM M 2 r (-1)) (⟨upS p.ln r (-1), p.sz, p.it, p.tn, p.tp, p.S, p.u, p.U, p.fl, p.I, p.lf, p.fd, p.tr, p.tb⟩ : PS) ∧ Hi M (upM M 2 r (-1)) := by
      refine ⟨?_, fun i hi => by rw [upM_cell (by omega)]⟩
      refine hC.rows (fun i _ _ c => by rw [upM_cell (by omega)]) (fun s a b => ?_) (fun s a b => by rw [upM_cell (by omega)]; exact hC.sz s a b) (fun j hj k a b => by rw [upM_cell (by omega)]; exact hC.it j hj k a b)
      rw [upS_at]
      by_cases e : s = r
      · rw [e, upM_same, if_pos rfl]
      · rw [upM_ne (by omega), if_neg e]; exact hC.ln s a b
    refine w_iload_n dX9_drop_0 rfl ?_
    refine cSm dX9_drop_1 ok_X5_isRow (Or.inl ls9_82) (c_X5_isRow (by omega)) rfl  rfl (by decide) (Nat.le_of_ble_eq_true rfl) (fun r1 => ?_)
    refine w_ifB_ne (tgt := 10) dX9_drop_4 (by decide) (fun h4 => ?_) (fun h4 => ?_)
    · (first | replace h4 := of_decide_eq_true h4 | replace h4 := of_decide_eq_false h4 | skip)
      refine w_aload_n dX9_drop_10 rfl ?_
      refine w_getR (r := 1) dX9_drop_11 fl9_10 g0_0 (by decide) rfl ?_
      refine w_iload_n dX9_drop_14 rfl ?_
      refine cVm dX9_drop_15 ok_X5_isMissing lv9_102 (c_X5_isMissing (by omega) (by omega)) rfl (congrArg Prod.fst g0_1) (by decide) (by decide) rfl (by decide) (Nat.le_of_ble_eq_true rfl) (fun r15 => ?_)
      refine w_ifB_eq (tgt := 27) dX9_drop_18 (by decide) (fun h18 => ?_) (fun h18 => ?_)
      · (first | replace h18 := of_decide_eq_true h18 | replace h18 := of_decide_eq_false h18 | skip)
        refine w_aload_n dX9_drop_27 rfl ?_
        refine w_aload_n dX9_drop_28 rfl ?_
        refine w_getR (r := 1) dX9_drop_29 fl9_10 g0_0 (by decide) rfl ?_
        refine w_iload_n dX9_drop_32 rfl ?_
        refine cVm dX9_drop_33 ok_X5_lose lv9_120 (c_X5_lose (by omega) (by omega)) rfl (congrArg Prod.fst g0_1) (by decide) (by decide) rfl (by decide) (Nat.le_of_ble_eq_true rfl) (fun r33 => ?_)
        refine cVm dX9_drop_36 ok_X9_fine lv9_99 (c_X9_fine (by omega)) rfl (congrArg Prod.fst g0_0) (by decide) (by decide) rfl (by decide) (Nat.le_of_ble_eq_true rfl) (fun r36 => ?_)
        refine w_iret dX9_drop_39 rfl (by omega) ?_ ⟨Nat.le_refl _, Nat.le_refl _⟩
        exact (q_x (KC.find key.1 key.2 (by unfold dropR; (repeat (first | rw [if_pos (by omega)] | rw [if_neg (by omega)])); rw [e2]; rfl)))
      · (first | replace h18 := of_decide_eq_true h18 | replace h18 := of_decide_eq_false h18 | skip)
        refine w_aload_n dX9_drop_21 rfl ?_
        refine w_iconst dX9_drop_22 ?_
        refine cVm dX9_drop_23 ok_X9_found lv9_91 (c_X9_found (by omega)) rfl (congrArg Prod.fst g0_0) (by decide) (by decide) rfl (by decide) (Nat.le_of_ble_eq_true rfl) (fun r23 => ?_)
        refine w_iret dX9_drop_26 rfl (by omega) ?_ ⟨Nat.le_refl _, Nat.le_refl _⟩
        exact (q_x (KC.find hC (Hi.refl M) (by unfold dropR; ((repeat (first | rw [if_pos (by omega)] | rw [if_neg (by omega)])) <;> rfl))))
    · (first | replace h4 := of_decide_eq_true h4 | replace h4 := of_decide_eq_false h4 | skip)
      refine w_ldc dX9_drop_7 co9_90 ?_
      refine w_iret dX9_drop_9 rfl (by omega) ?_ ⟨Nat.le_refl _, Nat.le_refl _⟩
      exact absurd hq h4
  · skip
    refine w_iload_n dX9_drop_0 rfl ?_
    refine cSm dX9_drop_1 ok_X5_isRow (Or.inl ls9_82) (c_X5_isRow (by omega)) rfl  rfl (by decide) (Nat.le_of_ble_eq_true rfl) (fun r1 => ?_)
    refine w_ifB_ne (tgt := 10) dX9_drop_4 (by decide) (fun h4 => ?_) (fun h4 => ?_)
    · (first | replace h4 := of_decide_eq_true h4 | replace h4 := of_decide_eq_false h4 | skip)
      exact absurd h4 hq
    · (first | replace h4 := of_decide_eq_true h4 | replace h4 := of_decide_eq_false h4 | skip)
      refine w_ldc dX9_drop_7 co9_90 ?_
      refine w_iret dX9_drop_9 rfl (by omega) ?_ ⟨Nat.le_refl _, Nat.le_refl _⟩
      exact (q_x (KC.stay hC (by unfold dropR; ((repeat (first | rw [if_pos (by omega)] | rw [if_neg (by omega)])) <;> rfl))))
theorem c_X9_copy {E : EV} {M : MM} {p : PS} {a i b j n : Int} (hC : CI M p) (hP : POK p) (ha : R32 a) (hi : R32 i) (hb : R32 b) (hj : R32 j) (hn : R32 n) : Cx E mX9_copy 9 [vr 0, vi a, vi i, vi b, vi j, vi n] M (KC M (copyR p a i b j n)) := by
  refine Ct.of [some (vr 0), some (vi a), some (vi i), some (vi b), some (vi j), some (vi n)] rfl rfl rfl (Nat.le_of_ble_eq_true rfl) ?_
  by_cases hq : (0 ≤ a ∧ a < 8) ∧ 0 ≤ b ∧ b < 8
  · obtain ⟨g, rfl⟩ : ∃ g : Nat, a = g := ⟨a.toNat, by omega⟩
    obtain ⟨o, rfl⟩ : ∃ g : Nat, b = g := ⟨b.toNat, by omega⟩
    have q1 := hP.hl g (by omega) (by omega)
    have q2 := hP.hl o (by omega) (by omega)
    have e1 := hC.ln g (by omega) (by omega)
    have e2 := hC.sz g (by omega) (by omega)
    have e3 := hC.ln o (by omega) (by omega)
    have e4 := hC.sz o (by omega) (by omega)
    have key : 0 ≤ i → 0 ≤ n → 0 ≤ j → i + n ≤ 40 → j + n ≤ 40 → CI (cpM M (5 + g) (5 + o) i j n) (⟨p.ln, p.sz, fun q => if 40 * (o : Int) + j ≤ q ∧ q < 40 * (o : Int) + j + n then p.it (40 * (g : Int) + i + (q - (40 * (o : Int) + j))) else p.it q, p.tn, p.tp, p.S, p.u, p.U, p.fl, p.I, p.lf, p.fd, p.tr, p.tb⟩ : PS) ∧ Hi M (cpM M (5 + g) (5 + o) i j n) := by
      intro i0 n0 j0 hi1 hj1
      refine ⟨?_, fun i hi => by rw [cpM_cell (by omega)]⟩
      refine hC.rows (fun i _ _ c => by rw [cpM_cell (by omega)]) (fun s x y => by rw [cpM_cell (by omega)]; exact hC.ln s x y) (fun s x y => by rw [cpM_cell (by omega)]; exact hC.sz s x y) (fun l hl k x y => ?_)
      unfold cpM
      by_cases e : l = o ∧ j ≤ k ∧ k < j + n
      · rw [if_pos ⟨by omega, e.2⟩, if_pos (by omega), hC.it g (by omega) (i + (k - j)) (by omega) (by omega)]
        congr 1
        omega
      · rw [if_neg (fun w => e ⟨by omega, w.2⟩), if_neg (fun w => e (by omega))]; exact hC.it l hl k x y
    refine w_iload_n dX9_copy_0 rfl ?_
    refine cSm dX9_copy_1 ok_X5_isRow (Or.inl ls9_82) (c_X5_isRow (by omega)) rfl  rfl (by decide) (Nat.le_of_ble_eq_true rfl) (fun r1 => ?_)
    refine w_ifB_eq (tgt := 14) dX9_copy_4 (by decide) (fun h4 => ?_) (fun h4 => ?_)
    · (first | replace h4 := of_decide_eq_true h4 | replace h4 := of_decide_eq_false h4 | skip)
      refine w_ldc dX9_copy_14 co9_90 ?_
      refine w_iret dX9_copy_16 rfl (by omega) ?_ ⟨Nat.le_refl _, Nat.le_refl _⟩
      exact absurd hq (by omega)
    · (first | replace h4 := of_decide_eq_true h4 | replace h4 := of_decide_eq_false h4 | skip)
      refine w_iload_n dX9_copy_7 rfl ?_
      refine cSm dX9_copy_8 ok_X5_isRow (Or.inl ls9_82) (c_X5_isRow (by omega)) rfl  rfl (by decide) (Nat.le_of_ble_eq_true rfl) (fun r8 => ?_)
      refine w_ifB_ne (tgt := 17) dX9_copy_11 (by decide) (fun h11 => ?_) (fun h11 => ?_)
      · (first | replace h11 := of_decide_eq_true h11 | replace h11 := of_decide_eq_false h11 | skip)
        refine w_aload_n dX9_copy_17 rfl ?_
        refine w_getR (r := 1) dX9_copy_18 fl9_10 g0_0 (by decide) rfl ?_
        refine w_iload_n dX9_copy_21 rfl ?_
        refine cVm dX9_copy_22 ok_X5_isMissing lv9_102 (c_X5_isMissing (by omega) (by omega)) rfl (congrArg Prod.fst g0_1) (by decide) (by decide) rfl (by decide) (Nat.le_of_ble_eq_true rfl) (fun r22 => ?_)
        refine w_ifB_ne (tgt := 39) dX9_copy_25 (by decide) (fun h25 => ?_) (fun h25 => ?_)
        · (first | replace h25 := of_decide_eq_true h25 | replace h25 := of_decide_eq_false h25 | skip)
          refine w_aload_n dX9_copy_39 rfl ?_
          refine w_iconst dX9_copy_40 ?_
          refine cVm dX9_copy_41 ok_X9_found lv9_91 (c_X9_found (by omega)) rfl (congrArg Prod.fst g0_0) (by decide) (by decide) rfl (by decide) (Nat.le_of_ble_eq_true rfl) (fun r41 => ?_)
          refine w_iret dX9_copy_44 rfl (by omega) ?_ ⟨Nat.le_refl _, Nat.le_refl _⟩
          exact (q_x (KC.find hC (Hi.refl M) (by unfold copyR; ((repeat (first | rw [if_pos (by omega)] | rw [if_neg (by omega)])) <;> rfl))))
        · (first | replace h25 := of_decide_eq_true h25 | replace h25 := of_decide_eq_false h25 | skip)
          refine w_aload_n dX9_copy_28 rfl ?_
          refine w_getR (r := 1) dX9_copy_29 fl9_10 g0_0 (by decide) rfl ?_
          refine w_iload_n dX9_copy_32 rfl ?_
          refine cVm dX9_copy_33 ok_X5_isMissing lv9_102 (c_X5_isMissing (by omega) (by omega)) rfl (congrArg Prod.fst g0_1) (by decide) (by decide) rfl (by decide) (Nat.le_of_ble_eq_true rfl) (fun r33 => ?_)
          refine w_ifB_eq (tgt := 45) dX9_copy_36 (by decide) (fun h36 => ?_) (fun h36 => ?_)
          · (first | replace h36 := of_decide_eq_true h36 | replace h36 := of_decide_eq_false h36 | skip)
            refine w_aload_n dX9_copy_45 rfl ?_
            refine w_getR (r := 1) dX9_copy_46 fl9_10 g0_0 (by decide) rfl ?_
            refine w_getR (r := 2) dX9_copy_49 fl9_112 g0_1 (by decide) rfl ?_
            refine w_iload_n dX9_copy_52 rfl ?_
            refine r_ild dX9_copy_53 g0_2 (by decide) (by omega) (by omega) (by decide) (fun r53 => ?_)
            refine w_aload_n dX9_copy_54 rfl ?_
            refine w_getR (r := 1) dX9_copy_55 fl9_10 g0_0 (by decide) rfl ?_
            refine w_getR (r := 2) dX9_copy_58 fl9_112 g0_1 (by decide) rfl ?_
            refine w_iload_n dX9_copy_61 rfl ?_
            refine r_ild dX9_copy_62 g0_2 (by decide) (by omega) (by omega) (by decide) (fun r62 => ?_)
            refine w_icmp_eq (tgt := 72) dX9_copy_63 (by decide) (by omega) (by omega) (fun h63 => ?_) (fun h63 => ?_)
            · refine w_aload_n dX9_copy_72 rfl ?_
              refine w_getR (r := 1) dX9_copy_73 fl9_10 g0_0 (by decide) rfl ?_
              refine w_iload_n dX9_copy_76 rfl ?_
              refine w_iload_n dX9_copy_77 rfl ?_
              refine w_iload dX9_copy_78 rfl ?_
              refine cVm dX9_copy_80 ok_X5_reaches lv9_105 (c_X5_reaches (by omega) (by omega) (by omega) (by omega) (by omega)) rfl (congrArg Prod.fst g0_1) (by decide) (by decide) rfl (by decide) (Nat.le_of_ble_eq_true rfl) (fun r80 => ?_)
              refine w_ifB_eq (tgt := 101) dX9_copy_83 (by decide) (fun h83 => ?_) (fun h83 => ?_)
              · (first | replace h83 := of_decide_eq_true h83 | replace h83 := of_decide_eq_false h83 | skip)
                refine w_aload_n dX9_copy_101 rfl ?_
                refine w_iconst dX9_copy_102 ?_
                refine cVm dX9_copy_103 ok_X9_found lv9_91 (c_X9_found (by omega)) rfl (congrArg Prod.fst g0_0) (by decide) (by decide) rfl (by decide) (Nat.le_of_ble_eq_true rfl) (fun r103 => ?_)
                refine w_iret dX9_copy_106 rfl (by omega) ?_ ⟨Nat.le_refl _, Nat.le_refl _⟩
                exact (q_x (KC.find hC (Hi.refl M) (by unfold copyR; ((repeat (first | rw [if_pos (by omega)] | rw [if_neg (by omega)])) <;> rfl))))
              · (first | replace h83 := of_decide_eq_true h83 | replace h83 := of_decide_eq_false h83 | skip)
                refine w_aload_n dX9_copy_86 rfl ?_
                refine w_getR (r := 1) dX9_copy_87 fl9_10 g0_0 (by decide) rfl ?_
                refine w_iload_n dX9_copy_90 rfl ?_
                refine w_iload dX9_copy_91 rfl ?_
                refine w_iload dX9_copy_93 rfl ?_
                refine cVm dX9_copy_95 ok_X5_reaches lv9_105 (c_X5_reaches (by omega) (by omega) (by omega) (by omega) (by omega)) rfl (congrArg Prod.fst g0_1) (by decide) (by decide) rfl (by decide) (Nat.le_of_ble_eq_true rfl) (fun r95 => ?_)
                refine w_ifB_ne (tgt := 107) dX9_copy_98 (by decide) (fun h98 => ?_) (fun h98 => ?_)
                · (first | replace h98 := of_decide_eq_true h98 | replace h98 := of_decide_eq_false h98 | skip)
                  refine w_aload_n dX9_copy_107 rfl ?_
                  refine w_getR (r := 1) dX9_copy_108 fl9_10 g0_0 (by decide) rfl ?_
                  refine w_iload_n dX9_copy_111 rfl ?_
                  refine w_iload_n dX9_copy_112 rfl ?_
                  refine w_iload_n dX9_copy_113 rfl ?_
                  refine w_iload dX9_copy_114 rfl ?_
                  refine w_iload dX9_copy_116 rfl ?_
                  refine cVv dX9_copy_118 ok_X5_move lv9_116 (c_X5_move (a := g) (b := o) (by omega) (by omega) (by omega) (by omega) (by omega) (by omega) (by omega)) rfl (congrArg Prod.fst g0_1) (by decide) (by decide) rfl (by decide) (Nat.le_of_ble_eq_true rfl) ?_
                  refine w_aload_n dX9_copy_121 rfl ?_
                  refine w_iload dX9_copy_122 rfl ?_
                  refine cVm dX9_copy_124 ok_X9_fine lv9_99 (c_X9_fine (by omega)) rfl (congrArg Prod.fst g0_0) (by decide) (by decide) rfl (by decide) (Nat.le_of_ble_eq_true rfl) (fun r124 => ?_)
                  refine w_iret dX9_copy_127 rfl (by omega) ?_ ⟨Nat.le_refl _, Nat.le_refl _⟩
                  exact (q_x (KC.find (key (by omega) (by omega) (by omega) (by omega) (by omega)).1 (key (by omega) (by omega) (by omega) (by omega) (by omega)).2 (by unfold copyR; ((repeat (first | rw [if_pos (by omega)] | rw [if_neg (by omega)])) <;> rfl))))
                · (first | replace h98 := of_decide_eq_true h98 | replace h98 := of_decide_eq_false h98 | skip)
                  refine w_aload_n dX9_copy_101 rfl ?_
                  refine w_iconst dX9_copy_102 ?_
                  refine cVm dX9_copy_103 ok_X9_found lv9_91 (c_X9_found (by omega)) rfl (congrArg Prod.fst g0_0) (by decide) (by decide) rfl (by decide) (Nat.le_of_ble_eq_true rfl) (fun r103 => ?_)
                  refine w_iret dX9_copy_106 rfl (by omega) ?_ ⟨Nat.le_refl _, Nat.le_refl _⟩
                  exact (q_x (KC.find hC (Hi.refl M) (by unfold copyR; ((repeat (first | rw [if_pos (by omega)] | rw [if_neg (by omega)])) <;> rfl))))
            · refine w_aload_n dX9_copy_66 rfl ?_
              refine w_iconst dX9_copy_67 ?_
              refine cVm dX9_copy_68 ok_X9_found lv9_91 (c_X9_found (by omega)) rfl (congrArg Prod.fst g0_0) (by decide) (by decide) rfl (by decide) (Nat.le_of_ble_eq_true rfl) (fun r68 => ?_)
              refine w_iret dX9_copy_71 rfl (by omega) ?_ ⟨Nat.le_refl _, Nat.le_refl _⟩
              exact (q_x (KC.find hC (Hi.refl M) (by unfold copyR; ((repeat (first | rw [if_pos (by omega)] | rw [if_neg (by omega)])) <;> rfl))))
          · (first | replace h36 := of_decide_eq_true h36 | replace h36 := of_decide_eq_false h36 | skip)
            refine w_aload_n dX9_copy_39 rfl ?_
            refine w_iconst dX9_copy_40 ?_
            refine cVm dX9_copy_41 ok_X9_found lv9_91 (c_X9_found (by omega)) rfl (congrArg Prod.fst g0_0) (by decide) (by decide) rfl (by decide) (Nat.le_of_ble_eq_true rfl) (fun r41 => ?_)
            refine w_iret dX9_copy_44 rfl (by omega) ?_ ⟨Nat.le_refl _, Nat.le_refl _⟩
            exact (q_x (KC.find hC (Hi.refl M) (by unfold copyR; ((repeat (first | rw [if_pos (by omega)] | rw [if_neg (by omega)])) <;> rfl))))
      · (first | replace h11 := of_decide_eq_true h11 | replace h11 := of_decide_eq_false h11 | skip)
        refine w_ldc dX9_copy_14 co9_90 ?_
        refine w_iret dX9_copy_16 rfl (by omega) ?_ ⟨Nat.le_refl _, Nat.le_refl _⟩
        exact absurd hq (by omega)
  · skip
    refine w_iload_n dX9_copy_0 rfl ?_
    refine cSm dX9_copy_1 ok_X5_isRow (Or.inl ls9_82) (c_X5_isRow (by omega)) rfl  rfl (by decide) (Nat.le_of_ble_eq_true rfl) (fun r1 => ?_)
    refine w_ifB_eq (tgt := 14) dX9_copy_4 (by decide) (fun h4 => ?_) (fun h4 => ?_)
    · (first | replace h4 := of_decide_eq_true h4 | replace h4 := of_decide_eq_false h4 | skip)
      refine w_ldc dX9_copy_14 co9_90 ?_
      refine w_iret dX9_copy_16 rfl (by omega) ?_ ⟨Nat.le_refl _, Nat.le_refl _⟩
      exact (q_x (KC.stay hC (by unfold copyR; ((repeat (first | rw [if_pos (by omega)] | rw [if_neg (by omega)])) <;> rfl))))
    · (first | replace h4 := of_decide_eq_true h4 | replace h4 := of_decide_eq_false h4 | skip)
      refine w_iload_n dX9_copy_7 rfl ?_
      refine cSm dX9_copy_8 ok_X5_isRow (Or.inl ls9_82) (c_X5_isRow (by omega)) rfl  rfl (by decide) (Nat.le_of_ble_eq_true rfl) (fun r8 => ?_)
      refine w_ifB_ne (tgt := 17) dX9_copy_11 (by decide) (fun h11 => ?_) (fun h11 => ?_)
      · (first | replace h11 := of_decide_eq_true h11 | replace h11 := of_decide_eq_false h11 | skip)
        exact absurd hq (by omega)
      · (first | replace h11 := of_decide_eq_true h11 | replace h11 := of_decide_eq_false h11 | skip)
        refine w_ldc dX9_copy_14 co9_90 ?_
        refine w_iret dX9_copy_16 rfl (by omega) ?_ ⟨Nat.le_refl _, Nat.le_refl _⟩
        exact (q_x (KC.stay hC (by unfold copyR; ((repeat (first | rw [if_pos (by omega)] | rw [if_neg (by omega)])) <;> rfl))))
theorem c_X9_feed {E : EV} {M : MM} {p : PS} {l : Int} (hC : CI M p) (hP : POK p) (hl : R32 l) : Cx E mX9_feed 9 [vr 0, vi l] M (KC M (feedR p l)) := by
  refine Ct.of [some (vr 0), some (vi l)] rfl rfl rfl (Nat.le_of_ble_eq_true rfl) ?_
  have ht := hP.ht
  have e1 := hC.tn
  have key : p.tn ≠ 100 → CI (upM (upM M 14 (M 13 1) l) 13 1 (M 13 1 + 1)) (⟨p.ln, p.sz, p.it, p.tn + 1, upS p.tp p.tn l, p.S, p.u, p.U, p.fl, p.I, p.lf, p.fd, p.tr, p.tb⟩ : PS) := by
    intro h1
    rw [e1]
    refine hC.tape (fun i _ _ c => by rw [upM_cell (by omega), upM_cell (by omega)]) (by rw [upM_same]) (fun i a b => ?_)
    rw [upM_cell (by omega), upS_at]
    by_cases e : i = p.tn
    · rw [e, upM_same, if_pos rfl]
    · rw [upM_ne (by omega), if_neg e]; exact hC.tp i a b
  refine w_iload_n dX9_feed_0 rfl ?_
  refine w_iconst dX9_feed_1 ?_
  refine w_sipush dX9_feed_2 (by decide +kernel) ?_
  refine cSm dX9_feed_5 ok_X9_within (Or.inl ls9_86) (c_X9_within (by omega) (by omega) (by omega)) rfl  rfl (by decide) (Nat.le_of_ble_eq_true rfl) (fun r5 => ?_)
  refine w_ifB_ne (tgt := 14) dX9_feed_8 (by decide) (fun h8 => ?_) (fun h8 => ?_)
  · (first | replace h8 := of_decide_eq_true h8 | replace h8 := of_decide_eq_false h8 | skip)
    refine w_aload_n dX9_feed_14 rfl ?_
    refine w_getR (r := 13) dX9_feed_15 fl9_19 g0_0 (by decide) rfl ?_
    refine cVm dX9_feed_18 ok_X7_isFull lv9_123 c_X7_isFull rfl (congrArg Prod.fst g0_13) (by decide) (by decide) rfl (by decide) (Nat.le_of_ble_eq_true rfl) (fun r18 => ?_)
    refine w_ifB_eq (tgt := 29) dX9_feed_21 (by decide) (fun h21 => ?_) (fun h21 => ?_)
    · (first | replace h21 := of_decide_eq_true h21 | replace h21 := of_decide_eq_false h21 | skip)
      refine w_aload_n dX9_feed_29 rfl ?_
      refine w_getR (r := 13) dX9_feed_30 fl9_19 g0_0 (by decide) rfl ?_
      refine w_iload_n dX9_feed_33 rfl ?_
      refine cVm dX9_feed_34 ok_X7_add lv9_128 (c_X7_add (by omega) (by omega) hl) rfl (congrArg Prod.fst g0_13) (by decide) (by decide) rfl (by decide) (Nat.le_of_ble_eq_true rfl) (fun r34 => ?_)
      refine w_iret dX9_feed_37 rfl (by omega) ?_ ⟨Nat.le_refl _, Nat.le_refl _⟩
      first | exact q_x (KC.stay hC (by unfold feedR; ((repeat (first | rw [if_pos (by omega)] | rw [if_neg (by omega)])) <;> rfl))) | exact q_x (by unfold feedR; (repeat (first | rw [if_pos (by omega)] | rw [if_neg (by omega)])); exact ⟨by rw [e1], key (by omega), fun i hi => by rw [upM_cell (by omega), upM_cell (by omega)]⟩)
    · (first | replace h21 := of_decide_eq_true h21 | replace h21 := of_decide_eq_false h21 | skip)
      refine w_ldc dX9_feed_24 co9_127 ?_
      refine w_goto (tgt := 37) dX9_feed_26 (by decide) ?_
      refine w_iret dX9_feed_37 rfl (by omega) ?_ ⟨Nat.le_refl _, Nat.le_refl _⟩
      first | exact q_x (KC.stay hC (by unfold feedR; ((repeat (first | rw [if_pos (by omega)] | rw [if_neg (by omega)])) <;> rfl))) | exact q_x (by unfold feedR; (repeat (first | rw [if_pos (by omega)] | rw [if_neg (by omega)])); exact ⟨by rw [e1], key (by omega), fun i hi => by rw [upM_cell (by omega), upM_cell (by omega)]⟩)
  · (first | replace h8 := of_decide_eq_true h8 | replace h8 := of_decide_eq_false h8 | skip)
    refine w_ldc dX9_feed_11 co9_90 ?_
    refine w_iret dX9_feed_13 rfl (by omega) ?_ ⟨Nat.le_refl _, Nat.le_refl _⟩
    exact (q_x (KC.stay hC (by unfold feedR; ((repeat (first | rw [if_pos (by omega)] | rw [if_neg (by omega)])) <;> rfl))))
