/-! ===== the class: what is done, kept, taken back ===== -/
def ntP (p : PS) : PS := if p.u = 24 then (⟨p.ln, p.sz, p.it, p.tn, p.tp, p.S, p.u, fun j => if j = 23 then p.S else p.U (j + 1), p.fl, p.I, p.lf, p.fd, p.tr, p.tb⟩ : PS) else (⟨p.ln, p.sz, p.it, p.tn, p.tp, p.S, p.u + 1, fun j => if j = p.u then p.S else p.U j, p.fl, p.I, p.lf, p.fd, p.tr, p.tb⟩ : PS)
def setS (p : PS) (T : SS) : PS := (⟨p.ln, p.sz, p.it, p.tn, p.tp, T, p.u, p.U, p.fl, p.I, p.lf, p.fd, p.tr, p.tb⟩ : PS)
theorem ntP_S (p : PS) : (ntP p).S = p.S := by unfold ntP; split <;> rfl
theorem setS_S (p : PS) (T : SS) : (setS p T).S = T := rfl
def dsP (p : PS) : Nat → PS
  | 0 => p
  | n + 1 => setS (ntP (dsP p n)) (dyF (dsP p n).S)
theorem dsP_S (p : PS) : ∀ n : Nat, (dsP p n).S = dysF p.S n
  | 0 => rfl
  | n + 1 => by rw [dsP, setS_S, dsP_S p n]; rfl
def undoR (p : PS) : Int × PS := if p.u = 0 then (-1000002, p) else ((p.u : Int) - 1, (⟨p.ln, p.sz, p.it, p.tn, p.tp, p.U (p.u - 1), p.u - 1, p.U, p.fl, p.I, p.lf, p.fd, p.tr, p.tb⟩ : PS))
def daysR (p : PS) (n : Int) : Int × PS := if p.S 0 = 0 then (-1000002, p) else if 1 ≤ n ∧ n ≤ 24 then (if 999 < p.S 3 + n then (-1000003, p) else (fellS (dysF p.S n.toNat) - fellS p.S, dsP p n.toNat)) else (-1000001, p)
def windR (p : PS) (n : Int) : Int × PS := if p.S 0 = 0 then (-1000002, p) else if 0 ≤ n ∧ n ≤ 15 then (p.S 1, setS (ntP p) (upS p.S 1 n)) else (-1000001, p)
def towR (p : PS) (c n : Int) : Int × PS := if (0 ≤ c ∧ c ≤ p.S 0 - 1) ∧ 1 ≤ n ∧ n ≤ 15 then (if p.S (7 + 5 * c) = 0 then (-1000002, p) else ((p.S (5 + 5 * c) + n) % 16, setS (ntP p) (upS p.S (5 + 5 * c) ((p.S (5 + 5 * c) + n) % 16)))) else (-1000001, p)
def silkR (p : PS) (c : Int) : Int × PS := if 0 ≤ c ∧ c ≤ p.S 0 - 1 then (if 99 < p.S (7 + 5 * c) + p.S 2 then (-1000003, p) else (p.S (7 + 5 * c) + p.S 2, setS (ntP p) (upS p.S (7 + 5 * c) (p.S (7 + 5 * c) + p.S 2)))) else (-1000001, p)
def signR (p : PS) (c h : Int) : Int × PS := if (0 ≤ c ∧ c ≤ p.S 0 - 1) ∧ 0 ≤ h ∧ h ≤ 9 then (p.S (8 + 5 * c), setS (ntP p) (upS p.S (8 + 5 * c) h)) else (-1000001, p)
def imgR (p : PS) (k : Int) : Int × PS := if 0 ≤ k ∧ k ≤ 1 then (if p.S 0 = 0 then (-1000002, p) else (1, (⟨p.ln, p.sz, p.it, p.tn, p.tp, p.S, p.u, p.U, upS p.fl k 1, fun j => if j = k then p.S else p.I j, p.lf, p.fd, p.tr, p.tb⟩ : PS))) else (-1000001, p)
def rstR (p : PS) (k : Int) : Int × PS := if 0 ≤ k ∧ k ≤ 1 then (if p.fl k = 0 then (-1000002, p) else (1, (⟨p.ln, p.sz, p.it, p.tn, p.tp, p.I k, 0, p.U, p.fl, p.I, p.lf, p.fd, p.tr, p.tb⟩ : PS))) else (-1000001, p)
theorem CI.setS {M m : MM} {p : PS} {T : SS} (h : CI M p) (e : ∀ i : Nat, i < 238 → ¬ (23 ≤ i ∧ i ≤ 29) → m i = M i) (hT : SV m 23 T) : CI m (setS p T) := h.sky (fun i a _ c => e i a c) hT
theorem CI.keep {M m : MM} {p : PS} {N : Nat} (h : CI M p) (hP : POK p) (hN : N < 24) (h3 : M 30 3 = (N : Int)) (hU : ∀ j, j < p.u → SV M (32 + 7 * atJ N p.u j) (p.U j)) (k : SV m (32 + 7 * N) p.S ∧ m 30 3 = (if (N : Int) + 1 < 24 then (N : Int) + 1 else 0) ∧ m 30 0 = (if 24 < (p.u : Int) + 1 then 24 else (p.u : Int) + 1) ∧ ∀ i, i ≠ 30 → ¬ (32 + 7 * N ≤ i ∧ i ≤ 32 + 7 * N + 6) → m i = M i) : CI m (ntP p) := by
  obtain ⟨k1, k2, k3, k4⟩ := k
  have hu := hP.hu
  have old : ∀ a T, a < 24 → a ≠ N → SV M (32 + 7 * a) T → SV m (32 + 7 * a) T := fun a T a1 a2 hs => hs.same (fun i x y => k4 i (by omega) (by omega))
  obtain ⟨N2, hN2, eN2, oN2⟩ : ∃ N2 : Nat, N2 < 24 ∧ m 30 3 = (N2 : Int) ∧ N2 = (N + 1) % 24 := by
    by_cases e : N + 1 < 24
    · exact ⟨N + 1, e, by rw [k2, if_pos (by omega)]; omega, by omega⟩
    · exact ⟨0, by omega, by rw [k2, if_neg (by omega)]; omega, by omega⟩
  unfold ntP
  by_cases e : p.u = 24
  · rw [if_pos e]
    refine h.acts (u' := p.u) (fun i a _ c => k4 i (by omega) (by omega)) (by rw [k3, if_pos (by omega)]; omega) ⟨N2, hN2, eN2, fun j hj => ?_⟩
    by_cases ej : j = 23
    · rw [if_pos ej, show atJ N2 p.u j = N by unfold atJ; omega]; exact k1
    · rw [if_neg ej, show atJ N2 p.u j = atJ N p.u (j + 1) by unfold atJ; omega]
      exact old _ _ (Nat.mod_lt _ (by decide)) (by unfold atJ; omega) (hU (j + 1) (by omega))
  · rw [if_neg e]
    refine h.acts (fun i a _ c => k4 i (by omega) (by omega)) (by rw [k3, if_neg (by omega)]; omega) ⟨N2, hN2, eN2, fun j hj => ?_⟩
    by_cases ej : j = p.u
    · rw [if_pos ej, show atJ N2 (p.u + 1) j = N by unfold atJ; omega]; exact k1
    · rw [if_neg ej, show atJ N2 (p.u + 1) j = atJ N p.u j by unfold atJ; omega]
      exact old _ _ (Nat.mod_lt _ (by decide)) (by unfold atJ; omega) (hU j (by omega))
theorem c_keep {E : EV} {M : MM} {p : PS} (hC : CI M p) (hP : POK p) : Cxv E mX0_keep 2 [vr 30] M (fun m => CI m (ntP p) ∧ Hi M m) := by
  obtain ⟨N, hN, h3, hU⟩ := hC.U
  have hu := hP.hu
  refine (c_X0_keep hC.S hP.hs.n.2 hN h3 hC.u (by omega) (by omega)).mono (fun r n g m h => ?_)
  obtain ⟨e1, e2, e3, k⟩ := h
  exact ⟨e1, e2, e3, hC.keep hP hN h3 hU k, fun i hi => k.2.2.2 i (by omega) (by omega)⟩
theorem c_X9_wind {E : EV} {M : MM} {p : PS} {n : Int} (hC : CI M p) (hP : POK p) (hn : R32 n) : Cx E mX9_wind 9 [vr 0, vi n] M (KC M (windR p n)) := by
  refine Ct.of [some (vr 0), some (vi n), none] rfl rfl rfl (Nat.le_of_ble_eq_true rfl) ?_
  have e0 := hC.S.num
  have e1 := hC.S.wind
  refine w_aload_n dX9_wind_0 rfl ?_
  refine cVm dX9_wind_1 ok_X9_noSky lv9_165 c_X9_noSky rfl (congrArg Prod.fst g0_0) (by decide) (by decide) rfl (by decide) (Nat.le_of_ble_eq_true rfl) (fun r1 => ?_)
  refine w_ifB_eq (tgt := 10) dX9_wind_4 (by decide) (fun h4 => ?_) (fun h4 => ?_)
  · (first | replace h4 := of_decide_eq_true h4 | replace h4 := of_decide_eq_false h4 | skip)
    refine w_iload_n dX9_wind_10 rfl ?_
    refine w_iconst dX9_wind_11 ?_
    refine w_bipush dX9_wind_12 (by decide +kernel) ?_
    refine cSm dX9_wind_14 ok_X9_within (Or.inl ls9_86) (c_X9_within (by omega) (by omega) (by omega)) rfl  rfl (by decide) (Nat.le_of_ble_eq_true rfl) (fun r14 => ?_)
    refine w_ifB_ne (tgt := 23) dX9_wind_17 (by decide) (fun h17 => ?_) (fun h17 => ?_)
    · (first | replace h17 := of_decide_eq_true h17 | replace h17 := of_decide_eq_false h17 | skip)
      refine w_aload_n dX9_wind_23 rfl ?_
      refine w_getR (r := 23) dX9_wind_24 fl9_35 g0_0 (by decide) rfl ?_
      refine r_getI (q := 1) dX9_wind_27 fl9_177 (sk_g0 sk_23) (sk_n0 sk_23) rfl (by decide) rfl (fun r27 => ?_)
      refine w_istore_n dX9_wind_30 (by decide) ?_
      refine w_aload_n dX9_wind_31 rfl ?_
      refine w_getR (r := 30) dX9_wind_32 fl9_44 g0_0 (by decide) rfl ?_
      refine cVxv dX9_wind_35 ok_X0_keep lv9_171 (c_keep hC hP) rfl (congrArg Prod.fst g0_30) (by decide) (by decide) rfl (by decide) (Nat.le_of_ble_eq_true rfl) (fun m35 p35 => ?_)
      refine w_aload_n dX9_wind_38 rfl ?_
      refine w_getR (r := 23) dX9_wind_39 fl9_35 g0_0 (by decide) rfl ?_
      refine w_iload_n dX9_wind_42 rfl ?_
      refine r_putI (q := 1) dX9_wind_43 fl9_177 (sk_g0 sk_23) (sk_n0 sk_23) rfl (by decide) (by omega) rfl (by decide +kernel) rfl ?_
      refine w_iload_n dX9_wind_46 rfl ?_
      refine w_iret dX9_wind_47 rfl (by omega) ?_ ⟨Nat.le_refl _, Nat.le_refl _⟩
      exact (q_x (by unfold windR; (repeat (first | rw [if_pos (by omega)] | rw [if_neg (by omega)])); exact ⟨e1, p35.1.setS (fun i a c => by rw [upM_cell (by omega)]) (SV.p_fld (by rw [← ntP_S p]; exact p35.1.S) (by omega) (by omega) rfl), p35.2.up (by omega)⟩))
    · (first | replace h17 := of_decide_eq_true h17 | replace h17 := of_decide_eq_false h17 | skip)
      refine w_ldc dX9_wind_20 co9_90 ?_
      refine w_iret dX9_wind_22 rfl (by omega) ?_ ⟨Nat.le_refl _, Nat.le_refl _⟩
      exact (q_x (KC.stay hC (by unfold windR; ((repeat (first | rw [if_pos (by omega)] | rw [if_neg (by omega)])) <;> rfl))))
  · (first | replace h4 := of_decide_eq_true h4 | replace h4 := of_decide_eq_false h4 | skip)
    refine w_ldc dX9_wind_7 co9_161 ?_
    refine w_iret dX9_wind_9 rfl (by omega) ?_ ⟨Nat.le_refl _, Nat.le_refl _⟩
    exact (q_x (KC.stay hC (by unfold windR; ((repeat (first | rw [if_pos (by omega)] | rw [if_neg (by omega)])) <;> rfl))))
theorem c_X9_tow {E : EV} {M : MM} {p : PS} {c n : Int} (hC : CI M p) (hP : POK p) (hc : R32 c) (hn9 : R32 n) : Cx E mX9_tow 9 [vr 0, vi c, vi n] M (KC M (towR p c n)) := by
  refine Ct.of [some (vr 0), some (vi c), some (vi n)] rfl rfl rfl (Nat.le_of_ble_eq_true rfl) ?_
  have hn := hP.hs.n
  have e0 := hC.S.num
  refine w_aload_n dX9_tow_0 rfl ?_
  refine w_iload_n dX9_tow_1 rfl ?_
  refine cVm dX9_tow_2 ok_X9_isCloud lv9_180 (c_X9_isCloud (by omega) (by omega)) rfl (congrArg Prod.fst g0_0) (by decide) (by decide) rfl (by decide) (Nat.le_of_ble_eq_true rfl) (fun r2 => ?_)
  refine w_ifB_eq (tgt := 18) dX9_tow_5 (by decide) (fun h5 => ?_) (fun h5 => ?_)
  · (first | replace h5 := of_decide_eq_true h5 | replace h5 := of_decide_eq_false h5 | skip)
    refine w_ldc dX9_tow_18 co9_90 ?_
    refine w_iret dX9_tow_20 rfl (by omega) ?_ ⟨Nat.le_refl _, Nat.le_refl _⟩
    exact (q_x (KC.stay hC (by unfold towR; ((repeat (first | rw [if_pos (by omega)] | rw [if_neg (by omega)])) <;> rfl))))
  · (first | replace h5 := of_decide_eq_true h5 | replace h5 := of_decide_eq_false h5 | skip)
    refine w_iload_n dX9_tow_8 rfl ?_
    refine w_iconst dX9_tow_9 ?_
    refine w_bipush dX9_tow_10 (by decide +kernel) ?_
    refine cSm dX9_tow_12 ok_X9_within (Or.inl ls9_86) (c_X9_within (by omega) (by omega) (by omega)) rfl  rfl (by decide) (Nat.le_of_ble_eq_true rfl) (fun r12 => ?_)
    refine w_ifB_ne (tgt := 21) dX9_tow_15 (by decide) (fun h15 => ?_) (fun h15 => ?_)
    · (first | replace h15 := of_decide_eq_true h15 | replace h15 := of_decide_eq_false h15 | skip)
      have k2 := hC.S.wet (c := c) (by omega) (by omega)
      have kb := hP.hs.2.1.cl (c := c) (by omega) (by omega)
      refine w_aload_n dX9_tow_21 rfl ?_
      refine w_getR (r := 23) dX9_tow_22 fl9_35 g0_0 (by decide) rfl ?_
      refine w_iload_n dX9_tow_25 rfl ?_
      refine cVm dX9_tow_26 ok_X6_isGone lv9_183 (c_X6_isGone sk_23 (by omega) (by omega)) rfl (sk_k sk_23) (sk_n0 sk_23) (by decide) rfl (by decide) (Nat.le_of_ble_eq_true rfl) (fun r26 => ?_)
      refine w_ifB_eq (tgt := 35) dX9_tow_29 (by decide) (fun h29 => ?_) (fun h29 => ?_)
      · (first | replace h29 := of_decide_eq_true h29 | replace h29 := of_decide_eq_false h29 | skip)
        refine w_aload_n dX9_tow_35 rfl ?_
        refine w_getR (r := 30) dX9_tow_36 fl9_44 g0_0 (by decide) rfl ?_
        refine cVxv dX9_tow_39 ok_X0_keep lv9_171 (c_keep hC hP) rfl (congrArg Prod.fst g0_30) (by decide) (by decide) rfl (by decide) (Nat.le_of_ble_eq_true rfl) (fun m39 p39 => ?_)
        have hV : SV m39 23 p.S := by rw [← ntP_S p]; exact p39.1.S
        have k3 := hV.place (c := c) (by omega) (by omega)
        refine w_aload_n dX9_tow_42 rfl ?_
        refine w_getR (r := 23) dX9_tow_43 fl9_35 g0_0 (by decide) rfl ?_
        refine w_getR (r := (23 + 2)) dX9_tow_46 fl9_186 (sk_g0 sk_23) (sk_n0 sk_23) rfl ?_
        refine w_iload_n dX9_tow_49 rfl ?_
        refine w_aload_n dX9_tow_50 rfl ?_
        refine w_getR (r := 23) dX9_tow_51 fl9_35 g0_0 (by decide) rfl ?_
        refine w_getR (r := (23 + 2)) dX9_tow_54 fl9_186 (sk_g0 sk_23) (sk_n0 sk_23) rfl ?_
        refine w_iload_n dX9_tow_57 rfl ?_
        refine r_ild dX9_tow_58 (sk_g2 sk_23) (sk_n2 sk_23) (by omega) (by omega) (by decide) (fun r58 => ?_)
        refine w_iload_n dX9_tow_59 rfl ?_
        refine w_iadd dX9_tow_60 ?_
        refine cSm dX9_tow_61 ok_X9_ring (Or.inl ls9_189) c_X9_ring rfl  rfl (by decide) (Nat.le_of_ble_eq_true rfl) (fun r61 => ?_)
        refine r_ist dX9_tow_64 (sk_g2 sk_23) (sk_n2 sk_23) (by omega) (by omega) (by omega) (by decide) ?_
        refine w_aload_n dX9_tow_65 rfl ?_
        refine w_getR (r := 23) dX9_tow_66 fl9_35 g0_0 (by decide) rfl ?_
        refine w_getR (r := (23 + 2)) dX9_tow_69 fl9_186 (sk_g0 sk_23) (sk_n0 sk_23) rfl ?_
        refine w_iload_n dX9_tow_72 rfl ?_
        refine r_ild dX9_tow_73 (sk_g2 sk_23) (sk_n2 sk_23) (by omega) (by omega) (by decide) (fun r73 => ?_)
        refine w_iret dX9_tow_74 rfl (by omega) ?_ ⟨Nat.le_refl _, Nat.le_refl _⟩
        exact (q_x (by unfold towR; (repeat (first | rw [if_pos (by omega)] | rw [if_neg (by omega)])); exact ⟨by rw [upM_same, k3], p39.1.setS (fun i a c => by rw [upM_cell (by omega)]) (SV.p_place hV (by omega) (by omega) (by omega) (by rw [k3])), p39.2.up (by omega)⟩))
      · (first | replace h29 := of_decide_eq_true h29 | replace h29 := of_decide_eq_false h29 | skip)
        refine w_ldc dX9_tow_32 co9_161 ?_
        refine w_iret dX9_tow_34 rfl (by omega) ?_ ⟨Nat.le_refl _, Nat.le_refl _⟩
        exact (q_x (KC.stay hC (by unfold towR; ((repeat (first | rw [if_pos (by omega)] | rw [if_neg (by omega)])) <;> rfl))))
    · (first | replace h15 := of_decide_eq_true h15 | replace h15 := of_decide_eq_false h15 | skip)
      refine w_ldc dX9_tow_18 co9_90 ?_
      refine w_iret dX9_tow_20 rfl (by omega) ?_ ⟨Nat.le_refl _, Nat.le_refl _⟩
      exact (q_x (KC.stay hC (by unfold towR; ((repeat (first | rw [if_pos (by omega)] | rw [if_neg (by omega)])) <;> rfl))))
theorem c_X9_silk {E : EV} {M : MM} {p : PS} {c : Int} (hC : CI M p) (hP : POK p) (hc : R32 c) : Cx E mX9_silk 9 [vr 0, vi c] M (KC M (silkR p c)) := by
  refine Ct.of [some (vr 0), some (vi c)] rfl rfl rfl (Nat.le_of_ble_eq_true rfl) ?_
  have hn := hP.hs.n
  have e0 := hC.S.num
  have e2 := hC.S.silk
  have hs := hP.hs.2.1.2.2.1
  refine w_aload_n dX9_silk_0 rfl ?_
  refine w_iload_n dX9_silk_1 rfl ?_
  refine cVm dX9_silk_2 ok_X9_isCloud lv9_180 (c_X9_isCloud (by omega) (by omega)) rfl (congrArg Prod.fst g0_0) (by decide) (by decide) rfl (by decide) (Nat.le_of_ble_eq_true rfl) (fun r2 => ?_)
  refine w_ifB_ne (tgt := 11) dX9_silk_5 (by decide) (fun h5 => ?_) (fun h5 => ?_)
  · (first | replace h5 := of_decide_eq_true h5 | replace h5 := of_decide_eq_false h5 | skip)
    have k2 := hC.S.wet (c := c) (by omega) (by omega)
    have kb := hP.hs.2.1.cl (c := c) (by omega) (by omega)
    refine w_aload_n dX9_silk_11 rfl ?_
    refine w_getR (r := 23) dX9_silk_12 fl9_35 g0_0 (by decide) rfl ?_
    refine w_getR (r := (23 + 4)) dX9_silk_15 fl9_192 (sk_g0 sk_23) (sk_n0 sk_23) rfl ?_
    refine w_iload_n dX9_silk_18 rfl ?_
    refine r_ild dX9_silk_19 (sk_g4 sk_23) (sk_n4 sk_23) (by omega) (by omega) (by decide) (fun r19 => ?_)
    refine w_aload_n dX9_silk_20 rfl ?_
    refine w_getR (r := 23) dX9_silk_21 fl9_35 g0_0 (by decide) rfl ?_
    refine r_getI (q := 2) dX9_silk_24 fl9_195 (sk_g0 sk_23) (sk_n0 sk_23) rfl (by decide) rfl (fun r24 => ?_)
    refine w_iadd dX9_silk_27 ?_
    refine w_bipush dX9_silk_28 (by decide +kernel) ?_
    refine w_icmp_le (tgt := 36) dX9_silk_30 (by decide) (by omega) (by omega) (fun h30 => ?_) (fun h30 => ?_)
    · refine w_aload_n dX9_silk_36 rfl ?_
      refine w_getR (r := 30) dX9_silk_37 fl9_44 g0_0 (by decide) rfl ?_
      refine cVxv dX9_silk_40 ok_X0_keep lv9_171 (c_keep hC hP) rfl (congrArg Prod.fst g0_30) (by decide) (by decide) rfl (by decide) (Nat.le_of_ble_eq_true rfl) (fun m40 p40 => ?_)
      have hV : SV m40 23 p.S := by rw [← ntP_S p]; exact p40.1.S
      have k3 := hV.wet (c := c) (by omega) (by omega)
      have k4 := hV.silk
      refine w_aload_n dX9_silk_43 rfl ?_
      refine w_getR (r := 23) dX9_silk_44 fl9_35 g0_0 (by decide) rfl ?_
      refine w_iload_n dX9_silk_47 rfl ?_
      refine cVv dX9_silk_48 ok_X6_mend lv9_198 (c_X6_mend sk_23 (by omega) (by omega) (by omega) (by omega) (by omega) (by omega)) rfl (sk_k sk_23) (sk_n0 sk_23) (by decide) rfl (by decide) (Nat.le_of_ble_eq_true rfl) ?_
      rw [if_neg (by omega)]
      refine w_aload_n dX9_silk_51 rfl ?_
      refine w_getR (r := 23) dX9_silk_52 fl9_35 g0_0 (by decide) rfl ?_
      refine w_getR (r := (23 + 4)) dX9_silk_55 fl9_192 (sk_g0 sk_23) (sk_n0 sk_23) rfl ?_
      refine w_iload_n dX9_silk_58 rfl ?_
      refine r_ild dX9_silk_59 (sk_g4 sk_23) (sk_n4 sk_23) (by omega) (by omega) (by decide) (fun r59 => ?_)
      refine w_iret dX9_silk_60 rfl (by omega) ?_ ⟨Nat.le_refl _, Nat.le_refl _⟩
      exact (q_x (by unfold silkR; (repeat (first | rw [if_pos (by omega)] | rw [if_neg (by omega)])); exact ⟨by rw [upM_same, k3, k4], p40.1.setS (fun i a c => by rw [upM_cell (by omega)]) (SV.p_wet hV (by omega) (by omega) (by omega) (by rw [k3, k4])), p40.2.up (by omega)⟩))
    · refine w_ldc dX9_silk_33 co9_127 ?_
      refine w_iret dX9_silk_35 rfl (by omega) ?_ ⟨Nat.le_refl _, Nat.le_refl _⟩
      exact (q_x (KC.stay hC (by unfold silkR; ((repeat (first | rw [if_pos (by omega)] | rw [if_neg (by omega)])) <;> rfl))))
  · (first | replace h5 := of_decide_eq_true h5 | replace h5 := of_decide_eq_false h5 | skip)
    refine w_ldc dX9_silk_8 co9_90 ?_
    refine w_iret dX9_silk_10 rfl (by omega) ?_ ⟨Nat.le_refl _, Nat.le_refl _⟩
    exact (q_x (KC.stay hC (by unfold silkR; ((repeat (first | rw [if_pos (by omega)] | rw [if_neg (by omega)])) <;> rfl))))
theorem c_X9_sign {E : EV} {M : MM} {p : PS} {c h : Int} (hC : CI M p) (hP : POK p) (hc : R32 c) (hh : R32 h) : Cx E mX9_sign 9 [vr 0, vi c, vi h] M (KC M (signR p c h)) := by
  refine Ct.of [some (vr 0), some (vi c), some (vi h), none] rfl rfl rfl (Nat.le_of_ble_eq_true rfl) ?_
  have hn := hP.hs.n
  have e0 := hC.S.num
  refine w_aload_n dX9_sign_0 rfl ?_
  refine w_iload_n dX9_sign_1 rfl ?_
  refine cVm dX9_sign_2 ok_X9_isCloud lv9_180 (c_X9_isCloud (by omega) (by omega)) rfl (congrArg Prod.fst g0_0) (by decide) (by decide) rfl (by decide) (Nat.le_of_ble_eq_true rfl) (fun r2 => ?_)
  refine w_ifB_eq (tgt := 18) dX9_sign_5 (by decide) (fun h5 => ?_) (fun h5 => ?_)
  · (first | replace h5 := of_decide_eq_true h5 | replace h5 := of_decide_eq_false h5 | skip)
    refine w_ldc dX9_sign_18 co9_90 ?_
    refine w_iret dX9_sign_20 rfl (by omega) ?_ ⟨Nat.le_refl _, Nat.le_refl _⟩
    exact (q_x (KC.stay hC (by unfold signR; ((repeat (first | rw [if_pos (by omega)] | rw [if_neg (by omega)])) <;> rfl))))
  · (first | replace h5 := of_decide_eq_true h5 | replace h5 := of_decide_eq_false h5 | skip)
    refine w_iload_n dX9_sign_8 rfl ?_
    refine w_iconst dX9_sign_9 ?_
    refine w_bipush dX9_sign_10 (by decide +kernel) ?_
    refine cSm dX9_sign_12 ok_X9_within (Or.inl ls9_86) (c_X9_within (by omega) (by omega) (by omega)) rfl  rfl (by decide) (Nat.le_of_ble_eq_true rfl) (fun r12 => ?_)
    refine w_ifB_ne (tgt := 21) dX9_sign_15 (by decide) (fun h15 => ?_) (fun h15 => ?_)
    · (first | replace h15 := of_decide_eq_true h15 | replace h15 := of_decide_eq_false h15 | skip)
      have k2 := hC.S.hand (c := c) (by omega) (by omega)
      refine w_aload_n dX9_sign_21 rfl ?_
      refine w_getR (r := 23) dX9_sign_22 fl9_35 g0_0 (by decide) rfl ?_
      refine w_getR (r := (23 + 5)) dX9_sign_25 fl9_202 (sk_g0 sk_23) (sk_n0 sk_23) rfl ?_
      refine w_iload_n dX9_sign_28 rfl ?_
      refine r_ild dX9_sign_29 (sk_g5 sk_23) (sk_n5 sk_23) (by omega) (by omega) (by decide) (fun r29 => ?_)
      refine w_istore_n dX9_sign_30 (by decide) ?_
      refine w_aload_n dX9_sign_31 rfl ?_
      refine w_getR (r := 30) dX9_sign_32 fl9_44 g0_0 (by decide) rfl ?_
      refine cVxv dX9_sign_35 ok_X0_keep lv9_171 (c_keep hC hP) rfl (congrArg Prod.fst g0_30) (by decide) (by decide) rfl (by decide) (Nat.le_of_ble_eq_true rfl) (fun m35 p35 => ?_)
      have hV : SV m35 23 p.S := by rw [← ntP_S p]; exact p35.1.S
      refine w_aload_n dX9_sign_38 rfl ?_
      refine w_getR (r := 23) dX9_sign_39 fl9_35 g0_0 (by decide) rfl ?_
      refine w_getR (r := (23 + 5)) dX9_sign_42 fl9_202 (sk_g0 sk_23) (sk_n0 sk_23) rfl ?_
      refine w_iload_n dX9_sign_45 rfl ?_
      refine w_iload_n dX9_sign_46 rfl ?_
      refine r_ist dX9_sign_47 (sk_g5 sk_23) (sk_n5 sk_23) (by omega) (by omega) (by omega) (by decide) ?_
      refine w_iload_n dX9_sign_48 rfl ?_
      refine w_iret dX9_sign_49 rfl (by omega) ?_ ⟨Nat.le_refl _, Nat.le_refl _⟩
      exact (q_x (by unfold signR; (repeat (first | rw [if_pos (by omega)] | rw [if_neg (by omega)])); exact ⟨k2, p35.1.setS (fun i a c => by rw [upM_cell (by omega)]) (SV.p_hand hV (by omega) (by omega) (by omega) rfl), p35.2.up (by omega)⟩))
    · (first | replace h15 := of_decide_eq_true h15 | replace h15 := of_decide_eq_false h15 | skip)
      refine w_ldc dX9_sign_18 co9_90 ?_
      refine w_iret dX9_sign_20 rfl (by omega) ?_ ⟨Nat.le_refl _, Nat.le_refl _⟩
      exact (q_x (KC.stay hC (by unfold signR; ((repeat (first | rw [if_pos (by omega)] | rw [if_neg (by omega)])) <;> rfl))))
theorem c_X9_undo {E : EV} {M : MM} {p : PS} (hC : CI M p) (hP : POK p) : Cx E mX9_undo 9 [vr 0] M (KC M (undoR p)) := by
  refine Ct.of [some (vr 0)] rfl rfl rfl (Nat.le_of_ble_eq_true rfl) ?_
  obtain ⟨N, hN, h3, hU⟩ := hC.U
  have eu := hC.u
  have hu := hP.hu
  have hp : prevJ N < 24 := by unfold prevJ; split <;> omega
  have ep : prevJ N = (N + 23) % 24 := by unfold prevJ; split <;> omega
  refine w_aload_n dX9_undo_0 rfl ?_
  refine w_getR (r := 30) dX9_undo_1 fl9_44 g0_0 (by decide) rfl ?_
  refine r_getI (q := 0) dX9_undo_4 fl9_158 g0_30 (by decide) rfl (by decide) rfl (fun r4 => ?_)
  refine w_if_ne (tgt := 13) dX9_undo_7 (by decide) (by omega) (fun h7 => ?_) (fun h7 => ?_)
  · refine w_aload_n dX9_undo_13 rfl ?_
    refine w_getR (r := 30) dX9_undo_14 fl9_44 g0_0 (by decide) rfl ?_
    have hv := hU (p.u - 1) (by omega)
    have ea : atJ N p.u (p.u - 1) = prevJ N := by unfold atJ; omega
    rw [ea] at hv
    refine cVxv dX9_undo_17 ok_X0_takeBack lv9_162 (c_X0_takeBack hN hv (hP.hU (p.u - 1) (by omega)).1.n.2 h3 eu (by omega) (by omega)) rfl (congrArg Prod.fst g0_30) (by decide) (by decide) rfl (by decide) (Nat.le_of_ble_eq_true rfl) (fun m17 p17 => ?_)
    refine w_aload_n dX9_undo_20 rfl ?_
    refine w_getR (r := 30) dX9_undo_21 fl9_44 g0_0 (by decide) rfl ?_
    refine r_getI (q := 0) dX9_undo_24 fl9_158 g0_30 (by decide) rfl (by decide) rfl (fun r24 => ?_)
    refine w_iret dX9_undo_27 rfl (by omega) ?_ ⟨Nat.le_refl _, Nat.le_refl _⟩
    exact (q_x (by unfold undoR; (repeat (first | rw [if_pos (by omega)] | rw [if_neg (by omega)])); obtain ⟨a1, a2, a3, a4⟩ := p17; exact ⟨a3, hC.sact (fun i a _ c => a4 i (by omega) (by omega)) a1 (by rw [a3]; omega) ⟨prevJ N, hp, a2, fun j hj => by rw [show atJ (prevJ N) (p.u - 1) j = atJ N p.u j by unfold atJ; omega]; exact (hU j (by omega)).same (fun i x y => a4 i (by have : atJ N p.u j < 24 := Nat.mod_lt _ (by decide); omega) (by omega))⟩, fun i hi => a4 i (by omega) (by omega)⟩))
  · refine w_ldc dX9_undo_10 co9_161 ?_
    refine w_iret dX9_undo_12 rfl (by omega) ?_ ⟨Nat.le_refl _, Nat.le_refl _⟩
    exact (q_x (KC.stay hC (by unfold undoR; ((repeat (first | rw [if_pos (by omega)] | rw [if_neg (by omega)])) <;> rfl))))
theorem c_X9_image {E : EV} {M : MM} {p : PS} {k : Int} (hC : CI M p) (hP : POK p) (hk : R32 k) : Cx E mX9_image 9 [vr 0, vi k] M (KC M (imgR p k)) := by
  refine Ct.of [some (vr 0), some (vi k)] rfl rfl rfl (Nat.le_of_ble_eq_true rfl) ?_
  have e0 := hC.S.num
  have hn := hP.hs.n
  by_cases hq : 0 ≤ k ∧ k ≤ 1
  · obtain ⟨g, rfl⟩ : ∃ g : Nat, k = g := ⟨k.toNat, by omega⟩
    have hs := sk_im g (by omega)
    refine w_iload_n dX9_image_0 rfl ?_
    refine w_iconst dX9_image_1 ?_
    refine w_iconst dX9_image_2 ?_
    refine cSm dX9_image_3 ok_X9_within (Or.inl ls9_86) (c_X9_within (by omega) (by omega) (by omega)) rfl  rfl (by decide) (Nat.le_of_ble_eq_true rfl) (fun r3 => ?_)
    refine w_ifB_ne (tgt := 12) dX9_image_6 (by decide) (fun h6 => ?_) (fun h6 => ?_)
    · (first | replace h6 := of_decide_eq_true h6 | replace h6 := of_decide_eq_false h6 | skip)
      refine w_aload_n dX9_image_12 rfl ?_
      refine cVm dX9_image_13 ok_X9_noSky lv9_165 c_X9_noSky rfl (congrArg Prod.fst g0_0) (by decide) (by decide) rfl (by decide) (Nat.le_of_ble_eq_true rfl) (fun r13 => ?_)
      refine w_ifB_eq (tgt := 22) dX9_image_16 (by decide) (fun h16 => ?_) (fun h16 => ?_)
      · (first | replace h16 := of_decide_eq_true h16 | replace h16 := of_decide_eq_false h16 | skip)
        refine w_aload_n dX9_image_22 rfl ?_
        refine w_getR (r := 200) dX9_image_23 fl9_48 g0_0 (by decide) rfl ?_
        refine w_iload_n dX9_image_26 rfl ?_
        refine w_aald2 (r := (224 + 7 * g)) dX9_image_27 g0_200 (by decide) (by omega) (by rw [Int.toNat_natCast]; exact g0_200at g (by omega)) (by decide) ?_
        refine w_aload_n dX9_image_28 rfl ?_
        refine w_getR (r := 23) dX9_image_29 fl9_35 g0_0 (by decide) rfl ?_
        refine cVxv dX9_image_32 ok_X6_become lv9_149 (c_X6_become hs sk_23 (by omega) hC.S hn.2) rfl (sk_k hs) (sk_n0 hs) (by decide) rfl (by decide) (Nat.le_of_ble_eq_true rfl) (fun m32 p32 => ?_)
        refine w_iconst dX9_image_35 ?_
        refine w_iret dX9_image_36 rfl (by omega) ?_ ⟨Nat.le_refl _, Nat.le_refl _⟩
        exact (q_x (by unfold imgR; (repeat (first | rw [if_pos (by omega)] | rw [if_neg (by omega)])); exact ⟨rfl, hC.imgs (fun i a _ c => p32.2 i (by omega)) (fun j hj => if e : j = g then (by subst e; rw [upS_at, if_pos rfl, if_pos rfl]; exact ⟨fun h => absurd h (by decide), fun _ => p32.1⟩) else (by rw [upS_at, if_neg (by omega), if_neg (by omega)]; exact ⟨fun h => by rw [p32.2 _ (by omega)]; exact (hC.I j hj).1 h, fun h => ((hC.I j hj).2 h).same (fun i x y => p32.2 i (by omega))⟩)), p32.2.hi (by omega)⟩))
      · (first | replace h16 := of_decide_eq_true h16 | replace h16 := of_decide_eq_false h16 | skip)
        refine w_ldc dX9_image_19 co9_161 ?_
        refine w_iret dX9_image_21 rfl (by omega) ?_ ⟨Nat.le_refl _, Nat.le_refl _⟩
        exact (q_x (KC.stay hC (by unfold imgR; ((repeat (first | rw [if_pos (by omega)] | rw [if_neg (by omega)])) <;> rfl))))
    · (first | replace h6 := of_decide_eq_true h6 | replace h6 := of_decide_eq_false h6 | skip)
      refine w_ldc dX9_image_9 co9_90 ?_
      refine w_iret dX9_image_11 rfl (by omega) ?_ ⟨Nat.le_refl _, Nat.le_refl _⟩
      exact absurd hq h6
  · skip
    refine w_iload_n dX9_image_0 rfl ?_
    refine w_iconst dX9_image_1 ?_
    refine w_iconst dX9_image_2 ?_
    refine cSm dX9_image_3 ok_X9_within (Or.inl ls9_86) (c_X9_within (by omega) (by omega) (by omega)) rfl  rfl (by decide) (Nat.le_of_ble_eq_true rfl) (fun r3 => ?_)
    refine w_ifB_ne (tgt := 12) dX9_image_6 (by decide) (fun h6 => ?_) (fun h6 => ?_)
    · (first | replace h6 := of_decide_eq_true h6 | replace h6 := of_decide_eq_false h6 | skip)
      exact absurd h6 hq
    · (first | replace h6 := of_decide_eq_true h6 | replace h6 := of_decide_eq_false h6 | skip)
      refine w_ldc dX9_image_9 co9_90 ?_
      refine w_iret dX9_image_11 rfl (by omega) ?_ ⟨Nat.le_refl _, Nat.le_refl _⟩
      exact (q_x (KC.stay hC (by unfold imgR; ((repeat (first | rw [if_pos (by omega)] | rw [if_neg (by omega)])) <;> rfl))))
theorem c_X9_restore {E : EV} {M : MM} {p : PS} {k : Int} (hC : CI M p) (hP : POK p) (hk : R32 k) : Cx E mX9_restore 9 [vr 0, vi k] M (KC M (rstR p k)) := by
  refine Ct.of [some (vr 0), some (vi k)] rfl rfl rfl (Nat.le_of_ble_eq_true rfl) ?_
  by_cases hq : 0 ≤ k ∧ k ≤ 1
  · obtain ⟨g, rfl⟩ : ∃ g : Nat, k = g := ⟨k.toNat, by omega⟩
    have hs := sk_im g (by omega)
    have h1 := hC.I g (by omega)
    have h2 := hP.hI g (by omega) (by omega)
    refine w_iload_n dX9_restore_0 rfl ?_
    refine w_iconst dX9_restore_1 ?_
    refine w_iconst dX9_restore_2 ?_
    refine cSm dX9_restore_3 ok_X9_within (Or.inl ls9_86) (c_X9_within (by omega) (by omega) (by omega)) rfl  rfl (by decide) (Nat.le_of_ble_eq_true rfl) (fun r3 => ?_)
    refine w_ifB_ne (tgt := 12) dX9_restore_6 (by decide) (fun h6 => ?_) (fun h6 => ?_)
    · (first | replace h6 := of_decide_eq_true h6 | replace h6 := of_decide_eq_false h6 | skip)
      refine w_aload_n dX9_restore_12 rfl ?_
      refine w_getR (r := 200) dX9_restore_13 fl9_48 g0_0 (by decide) rfl ?_
      refine w_iload_n dX9_restore_16 rfl ?_
      refine w_aald2 (r := (224 + 7 * g)) dX9_restore_17 g0_200 (by decide) (by omega) (by rw [Int.toNat_natCast]; exact g0_200at g (by omega)) (by decide) ?_
      refine r_getI (q := 0) dX9_restore_18 fl9_155 (sk_g0 hs) (sk_n0 hs) rfl (by decide) rfl (fun r18 => ?_)
      refine w_if_ne (tgt := 27) dX9_restore_21 (by decide) (by omega) (fun h21 => ?_) (fun h21 => ?_)
      · have hf : p.fl (g : Int) ≠ 0 := fun e => h21 (h1.1 e)
        have hv := h1.2 hf
        have hg : GS (p.I (g : Int)) := (h2.resolve_left hf).2.1
        refine w_aload_n dX9_restore_27 rfl ?_
        refine w_getR (r := 23) dX9_restore_28 fl9_35 g0_0 (by decide) rfl ?_
        refine w_aload_n dX9_restore_31 rfl ?_
        refine w_getR (r := 200) dX9_restore_32 fl9_48 g0_0 (by decide) rfl ?_
        refine w_iload_n dX9_restore_35 rfl ?_
        refine w_aald2 (r := (224 + 7 * g)) dX9_restore_36 g0_200 (by decide) (by omega) (by rw [Int.toNat_natCast]; exact g0_200at g (by omega)) (by decide) ?_
        refine cVxv dX9_restore_37 ok_X6_become lv9_149 (c_X6_become sk_23 hs (by omega) hv hg.n.2) rfl (sk_k sk_23) (sk_n0 sk_23) (by decide) rfl (by decide) (Nat.le_of_ble_eq_true rfl) (fun m37 p37 => ?_)
        refine w_aload_n dX9_restore_40 rfl ?_
        refine w_getR (r := 30) dX9_restore_41 fl9_44 g0_0 (by decide) rfl ?_
        refine cVv dX9_restore_44 ok_X0_forgetAll lv9_152 c_X0_forgetAll rfl (congrArg Prod.fst g0_30) (by decide) (by decide) rfl (by decide) (Nat.le_of_ble_eq_true rfl) ?_
        refine w_iconst dX9_restore_47 ?_
        refine w_iret dX9_restore_48 rfl (by omega) ?_ ⟨Nat.le_refl _, Nat.le_refl _⟩
        exact (q_x (by unfold rstR; rw [if_pos hq, if_neg hf]; exact ⟨rfl, hC.sact (fun i a _ c => by rw [upM_cell (by omega), upM_cell (by omega)]; exact p37.2 i (by omega)) (p37.1.same (fun i x y => by rw [upM_cell (by omega), upM_cell (by omega)])) (by rw [upM_ne (by omega), upM_same]; rfl) ⟨0, by omega, by rw [upM_same]; rfl, fun j hj => absurd hj (by omega)⟩, ((p37.2.hi (by omega)).up (by omega)).up (by omega)⟩))
      · refine w_ldc dX9_restore_24 co9_161 ?_
        refine w_iret dX9_restore_26 rfl (by omega) ?_ ⟨Nat.le_refl _, Nat.le_refl _⟩
        have h3 : p.fl (g : Int) = 0 := Decidable.by_contra (fun hf => absurd (h1.2 hf).num (by have := (h2.resolve_left hf).2.2; omega))
        exact q_x (KC.stay hC (by unfold rstR; ((repeat (first | rw [if_pos (by omega)] | rw [if_neg (by omega)])) <;> rfl)))
    · (first | replace h6 := of_decide_eq_true h6 | replace h6 := of_decide_eq_false h6 | skip)
      refine w_ldc dX9_restore_9 co9_90 ?_
      refine w_iret dX9_restore_11 rfl (by omega) ?_ ⟨Nat.le_refl _, Nat.le_refl _⟩
      exact absurd hq h6
  · skip
    refine w_iload_n dX9_restore_0 rfl ?_
    refine w_iconst dX9_restore_1 ?_
    refine w_iconst dX9_restore_2 ?_
    refine cSm dX9_restore_3 ok_X9_within (Or.inl ls9_86) (c_X9_within (by omega) (by omega) (by omega)) rfl  rfl (by decide) (Nat.le_of_ble_eq_true rfl) (fun r3 => ?_)
    refine w_ifB_ne (tgt := 12) dX9_restore_6 (by decide) (fun h6 => ?_) (fun h6 => ?_)
    · (first | replace h6 := of_decide_eq_true h6 | replace h6 := of_decide_eq_false h6 | skip)
      exact absurd h6 hq
    · (first | replace h6 := of_decide_eq_true h6 | replace h6 := of_decide_eq_false h6 | skip)
      refine w_ldc dX9_restore_9 co9_90 ?_
      refine w_iret dX9_restore_11 rfl (by omega) ?_ ⟨Nat.le_refl _, Nat.le_refl _⟩
      exact (q_x (KC.stay hC (by unfold rstR; ((repeat (first | rw [if_pos (by omega)] | rw [if_neg (by omega)])) <;> rfl))))
