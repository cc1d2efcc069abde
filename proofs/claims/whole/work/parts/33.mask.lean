/-! ===== the reference: what is asked of the sky as it is ===== -/
theorem MI.sq {M : MM} {p : PS} (h : MI M p) (q : Int) : M 243 q = p.S q := by rw [h.S]
theorem MI.sn {M : MM} {p : PS} (h : MI M p) : (M 238 13 = 0 ∧ p.S 0 = 0) ∨ (M 238 13 = 1 ∧ p.S 0 ≠ 0) := by
  have := h.is
  by_cases e : p.S 0 = 0
  · rw [if_pos e] at this; exact Or.inl ⟨this, e⟩
  · rw [if_neg e] at this; exact Or.inr ⟨this, e⟩
theorem c_X10_kind {E : EV} {M : MM} {p : PS} {c : Int} (hI : MI M p) (hP : POK p) (hc : R32 c) : Cx E mX10_kind 9 [vr 238, vi c] M (KM M (kindR p c)) := by
  refine Ct.of [some (vr 238), some (vi c)] rfl rfl rfl (Nat.le_of_ble_eq_true rfl) ?_
  have hn := hP.hs.n
  have e0 := hI.sq 0
  have k1 := hI.sq (4 + 5 * c)
  refine w_aload_n dX10_kind_0 rfl ?_
  refine w_iload_n dX10_kind_1 rfl ?_
  refine cVm dX10_kind_2 ok_X10_isCloud lv10_156 (c_X10_isCloud (by omega) (by omega)) rfl (congrArg Prod.fst g0_238) (by decide) (by decide) rfl (by decide) (Nat.le_of_ble_eq_true rfl) (fun r2 => ?_)
  refine w_ifB_eq (tgt := 17) dX10_kind_5 (by decide) (fun h5 => ?_) (fun h5 => ?_)
  · (first | replace h5 := of_decide_eq_true h5 | replace h5 := of_decide_eq_false h5 | skip)
    refine w_ldc dX10_kind_17 co10_60 ?_
    refine w_iret dX10_kind_19 rfl (by omega) ?_ ⟨Nat.le_refl _, Nat.le_refl _⟩
    first | (refine q_x (KM.stay hI ?_); unfold kindR; ((repeat (first | rw [if_pos (by omega)] | rw [if_neg (by omega)])) <;> rfl)) | (refine q_x (KM.stay' hI k1 ?_); unfold kindR; ((repeat (first | rw [if_pos (by omega)] | rw [if_neg (by omega)])) <;> rfl))
  · (first | replace h5 := of_decide_eq_true h5 | replace h5 := of_decide_eq_false h5 | skip)
    refine w_aload_n dX10_kind_8 rfl ?_
    refine w_iload_n dX10_kind_9 rfl ?_
    refine w_iconst dX10_kind_10 ?_
    refine cVm dX10_kind_11 ok_X10_of lv10_126 (c_X10_of (q := 4 + 5 * c) (by omega) (by omega) (by omega)) rfl (congrArg Prod.fst g0_238) (by decide) (by decide) rfl (by decide) (Nat.le_of_ble_eq_true rfl) (fun r11 => ?_)
    refine w_goto (tgt := 19) dX10_kind_14 (by decide) ?_
    refine w_iret dX10_kind_19 rfl (by omega) ?_ ⟨Nat.le_refl _, Nat.le_refl _⟩
    first | (refine q_x (KM.stay hI ?_); unfold kindR; ((repeat (first | rw [if_pos (by omega)] | rw [if_neg (by omega)])) <;> rfl)) | (refine q_x (KM.stay' hI k1 ?_); unfold kindR; ((repeat (first | rw [if_pos (by omega)] | rw [if_neg (by omega)])) <;> rfl))
theorem c_X10_isKind {E : EV} {M : MM} {v w : Int} (hv : R32 v) (hw : R32 w) : Cm E mX10_isKind 0 [vi v, vi w] M (bi (decide (w = 0 ∨ v = w ∨ (w = 1 ∧ v < 4) ∨ (w = 4 ∧ v = 5)))) M := by
  refine Ct.of [some (vi v), some (vi w)] rfl rfl rfl (Nat.le_of_ble_eq_true rfl) ?_
  refine w_iload_n dX10_isKind_0 rfl ?_
  refine w_if_eq (tgt := 29) dX10_isKind_1 (by decide) (by omega) (fun h1 => ?_) (fun h1 => ?_)
  · refine w_iconst dX10_isKind_29 ?_
    refine w_goto (tgt := 34) dX10_isKind_30 (by decide) ?_
    refine w_zret (b := true) dX10_isKind_34 rfl ?_ ⟨Nat.le_refl _, Nat.le_refl _⟩
    exact (q_b (decide_eq_true (by omega)).symm)
  · refine w_iload_n dX10_isKind_4 rfl ?_
    refine w_iload_n dX10_isKind_5 rfl ?_
    refine w_icmp_eq (tgt := 29) dX10_isKind_6 (by decide) (by omega) (by omega) (fun h6 => ?_) (fun h6 => ?_)
    · refine w_iconst dX10_isKind_29 ?_
      refine w_goto (tgt := 34) dX10_isKind_30 (by decide) ?_
      refine w_zret (b := true) dX10_isKind_34 rfl ?_ ⟨Nat.le_refl _, Nat.le_refl _⟩
      exact (q_b (decide_eq_true (by omega)).symm)
    · refine w_iload_n dX10_isKind_9 rfl ?_
      refine w_iconst dX10_isKind_10 ?_
      refine w_icmp_ne (tgt := 19) dX10_isKind_11 (by decide) (by omega) (by omega) (fun h11 => ?_) (fun h11 => ?_)
      · refine w_iload_n dX10_isKind_19 rfl ?_
        refine w_iconst dX10_isKind_20 ?_
        refine w_icmp_ne (tgt := 33) dX10_isKind_21 (by decide) (by omega) (by omega) (fun h21 => ?_) (fun h21 => ?_)
        · refine w_iconst dX10_isKind_33 ?_
          refine w_zret (b := false) dX10_isKind_34 rfl ?_ ⟨Nat.le_refl _, Nat.le_refl _⟩
          exact (q_b (decide_eq_false (by omega)).symm)
        · refine w_iload_n dX10_isKind_24 rfl ?_
          refine w_iconst dX10_isKind_25 ?_
          refine w_icmp_ne (tgt := 33) dX10_isKind_26 (by decide) (by omega) (by omega) (fun h26 => ?_) (fun h26 => ?_)
          · refine w_iconst dX10_isKind_33 ?_
            refine w_zret (b := false) dX10_isKind_34 rfl ?_ ⟨Nat.le_refl _, Nat.le_refl _⟩
            exact (q_b (decide_eq_false (by omega)).symm)
          · refine w_iconst dX10_isKind_29 ?_
            refine w_goto (tgt := 34) dX10_isKind_30 (by decide) ?_
            refine w_zret (b := true) dX10_isKind_34 rfl ?_ ⟨Nat.le_refl _, Nat.le_refl _⟩
            exact (q_b (decide_eq_true (by omega)).symm)
      · refine w_iload_n dX10_isKind_14 rfl ?_
        refine w_iconst dX10_isKind_15 ?_
        refine w_icmp_lt (tgt := 29) dX10_isKind_16 (by decide) (by omega) (by omega) (fun h16 => ?_) (fun h16 => ?_)
        · refine w_iconst dX10_isKind_29 ?_
          refine w_goto (tgt := 34) dX10_isKind_30 (by decide) ?_
          refine w_zret (b := true) dX10_isKind_34 rfl ?_ ⟨Nat.le_refl _, Nat.le_refl _⟩
          exact (q_b (decide_eq_true (by omega)).symm)
        · refine w_iload_n dX10_isKind_19 rfl ?_
          refine w_iconst dX10_isKind_20 ?_
          refine w_icmp_ne (tgt := 33) dX10_isKind_21 (by decide) (by omega) (by omega) (fun h21 => ?_) (fun h21 => ?_)
          · refine w_iconst dX10_isKind_33 ?_
            refine w_zret (b := false) dX10_isKind_34 rfl ?_ ⟨Nat.le_refl _, Nat.le_refl _⟩
            exact (q_b (decide_eq_false (by omega)).symm)
          · refine w_iload_n dX10_isKind_24 rfl ?_
            refine w_iconst dX10_isKind_25 ?_
            refine w_icmp_ne (tgt := 33) dX10_isKind_26 (by decide) (by omega) (by omega) (fun h26 => ?_) (fun h26 => ?_)
            · refine w_iconst dX10_isKind_33 ?_
              refine w_zret (b := false) dX10_isKind_34 rfl ?_ ⟨Nat.le_refl _, Nat.le_refl _⟩
              exact (q_b (decide_eq_false (by omega)).symm)
            · refine w_iconst dX10_isKind_29 ?_
              refine w_goto (tgt := 34) dX10_isKind_30 (by decide) ?_
              refine w_zret (b := true) dX10_isKind_34 rfl ?_ ⟨Nat.le_refl _, Nat.le_refl _⟩
              exact (q_b (decide_eq_true (by omega)).symm)
theorem iok_all : ∀ v : Nat, v < 6 → 1 ≤ v → ∀ w : Nat, w < 6 → iokF (w : Int) 6 (v : Int) = decide (w = 0 ∨ v = w ∨ (w = 1 ∧ v < 4) ∨ (w = 4 ∧ v = 5)) := by decide +kernel
theorem iok_eq {v w : Int} (h0 : 1 ≤ v) (h1 : v ≤ 5) (w0 : 0 ≤ w) (w1 : w ≤ 5) : iokF w 6 v = decide (w = 0 ∨ v = w ∨ (w = 1 ∧ v < 4) ∨ (w = 4 ∧ v = 5)) := by
  have := iok_all v.toNat (by omega) (by omega) w.toNat (by omega)
  rw [show ((v.toNat : Nat) : Int) = v by omega, show ((w.toNat : Nat) : Int) = w by omega] at this
  rw [this]
  exact decide_eq_decide.mpr (by omega)
theorem c_X10_as {E : EV} {M : MM} {p : PS} {c k : Int} (hI : MI M p) (hP : POK p) (hc : R32 c) (hk : R32 k) : Cx E mX10_as 9 [vr 238, vi c, vi k] M (KM M (asR p c k)) := by
  refine Ct.of [some (vr 238), some (vi c), some (vi k)] rfl rfl rfl (Nat.le_of_ble_eq_true rfl) ?_
  have hn := hP.hs.n
  have e0 := hI.sq 0
  have k1 := hI.sq (4 + 5 * c)
  refine w_aload_n dX10_as_0 rfl ?_
  refine w_iload_n dX10_as_1 rfl ?_
  refine cVm dX10_as_2 ok_X10_isCloud lv10_156 (c_X10_isCloud (by omega) (by omega)) rfl (congrArg Prod.fst g0_238) (by decide) (by decide) rfl (by decide) (Nat.le_of_ble_eq_true rfl) (fun r2 => ?_)
  refine w_ifB_eq (tgt := 20) dX10_as_5 (by decide) (fun h5 => ?_) (fun h5 => ?_)
  · (first | replace h5 := of_decide_eq_true h5 | replace h5 := of_decide_eq_false h5 | skip)
    refine w_ldc dX10_as_20 co10_60 ?_
    refine w_iret dX10_as_22 rfl (by omega) ?_ ⟨Nat.le_refl _, Nat.le_refl _⟩
    exact (q_x (KM.stay hI (by unfold asR; ((repeat (first | rw [if_pos (by omega)] | rw [if_neg (by omega)])) <;> rfl))))
  · (first | replace h5 := of_decide_eq_true h5 | replace h5 := of_decide_eq_false h5 | skip)
    refine w_iload_n dX10_as_8 rfl ?_
    refine w_i2l dX10_as_9 (by omega) ?_
    refine w_lconst0 dX10_as_10 ?_
    refine w_ldc2 dX10_as_11 cl10_161 ?_
    refine cSm dX10_as_14 ok_X10_in (Or.inl ls10_50) (c_X10_in (by omega) (by omega) (by omega)) rfl  rfl (by decide) (Nat.le_of_ble_eq_true rfl) (fun r14 => ?_)
    refine w_ifB_ne (tgt := 23) dX10_as_17 (by decide) (fun h17 => ?_) (fun h17 => ?_)
    · (first | replace h17 := of_decide_eq_true h17 | replace h17 := of_decide_eq_false h17 | skip)
      have kb := (hP.hs.2.1.cl (c := c) (by omega) (by omega)).1
      have ek := iok_eq kb.1 kb.2 (w := k) (by omega) (by omega)
      refine w_aload_n dX10_as_23 rfl ?_
      refine w_iload_n dX10_as_24 rfl ?_
      refine w_iconst dX10_as_25 ?_
      refine cVm dX10_as_26 ok_X10_of lv10_126 (c_X10_of (q := 4 + 5 * c) (by omega) (by omega) (by omega)) rfl (congrArg Prod.fst g0_238) (by decide) (by decide) rfl (by decide) (Nat.le_of_ble_eq_true rfl) (fun r26 => ?_)
      refine w_iload_n dX10_as_29 rfl ?_
      refine cSm dX10_as_30 ok_X10_isKind (Or.inl ls10_229) (c_X10_isKind (by omega) (by omega)) rfl  rfl (by decide) (Nat.le_of_ble_eq_true rfl) (fun r30 => ?_)
      refine w_ifB_eq (tgt := 44) dX10_as_33 (by decide) (fun h33 => ?_) (fun h33 => ?_)
      · (first | replace h33 := of_decide_eq_true h33 | replace h33 := of_decide_eq_false h33 | skip)
        rw [k1] at h33
        refine w_aload_n dX10_as_44 rfl ?_
        refine w_iconst dX10_as_45 ?_
        refine cVm dX10_as_46 ok_X10_finds lv10_61 (c_X10_finds (by omega)) rfl (congrArg Prod.fst g0_238) (by decide) (by decide) rfl (by decide) (Nat.le_of_ble_eq_true rfl) (fun r46 => ?_)
        refine w_iret dX10_as_49 rfl (by omega) ?_ ⟨Nat.le_refl _, Nat.le_refl _⟩
        first | (refine q_x (KM.find hI (Lo.refl M) ?_); unfold asR; rw [if_pos (by omega), if_pos (by rw [ek]; exact decide_eq_true h33)]; done) | (refine q_x (KM.find hI (Lo.refl M) ?_); unfold asR; rw [if_pos (by omega), if_neg (by rw [ek]; exact (fun x => h33 (of_decide_eq_true x)))]; rfl) | (refine q_x (KM.find hI (Lo.refl M) ?_); unfold asR; rw [if_pos (by omega), if_pos (by rw [ek]; exact decide_eq_true h33)]; rfl)
      · (first | replace h33 := of_decide_eq_true h33 | replace h33 := of_decide_eq_false h33 | skip)
        rw [k1] at h33
        refine w_aload_n dX10_as_36 rfl ?_
        refine w_iload_n dX10_as_37 rfl ?_
        refine cVm dX10_as_38 ok_X10_well lv10_65 (c_X10_well (by omega)) rfl (congrArg Prod.fst g0_238) (by decide) (by decide) rfl (by decide) (Nat.le_of_ble_eq_true rfl) (fun r38 => ?_)
        refine w_goto (tgt := 49) dX10_as_41 (by decide) ?_
        refine w_iret dX10_as_49 rfl (by omega) ?_ ⟨Nat.le_refl _, Nat.le_refl _⟩
        first | (refine q_x (KM.find hI (Lo.refl M) ?_); unfold asR; rw [if_pos (by omega), if_pos (by rw [ek]; exact decide_eq_true h33)]; done) | (refine q_x (KM.find hI (Lo.refl M) ?_); unfold asR; rw [if_pos (by omega), if_neg (by rw [ek]; exact (fun x => h33 (of_decide_eq_true x)))]; rfl) | (refine q_x (KM.find hI (Lo.refl M) ?_); unfold asR; rw [if_pos (by omega), if_pos (by rw [ek]; exact decide_eq_true h33)]; rfl)
    · (first | replace h17 := of_decide_eq_true h17 | replace h17 := of_decide_eq_false h17 | skip)
      refine w_ldc dX10_as_20 co10_60 ?_
      refine w_iret dX10_as_22 rfl (by omega) ?_ ⟨Nat.le_refl _, Nat.le_refl _⟩
      exact (q_x (KM.stay hI (by unfold asR; ((repeat (first | rw [if_pos (by omega)] | rw [if_neg (by omega)])) <;> rfl))))
/-- a body leaves its number -/
def nvM (M : MM) (x : Int) : MM := if M 238 19 < 16 then upM (upM M 249 (M 238 19) x) 238 19 (M 238 19 + 1) else M
def nvs (M : MM) (l : List Int) : MM := l.foldl nvM M
theorem nv_S {M : MM} {x : Int} : nvM M x 243 = M 243 := by
  unfold nvM
  split
  · rw [upM_cell (by omega), upM_cell (by omega)]
  · rfl
theorem nv_0 {M : MM} {x : Int} (h : 0 ≤ M 238 19) : 0 ≤ nvM M x 238 19 := by
  unfold nvM
  split
  · rw [upM_same]; omega
  · exact h
theorem nvs_S : ∀ (l : List Int) (M : MM), nvs M l 243 = M 243
  | [], _ => rfl
  | x :: l, M => by show nvs (nvM M x) l 243 = M 243; rw [nvs_S l, nv_S]
theorem nvs_0 : ∀ (l : List Int) (M : MM), 0 ≤ M 238 19 → 0 ≤ nvs M l 238 19
  | [], _, h => h
  | x :: l, M, h => nvs_0 l (nvM M x) (nv_0 h)
theorem c_X10_begins {E : EV} {M : MM} {x : Int} (h0 : 0 ≤ M 238 19) (hx : R32 x) : Cv E mX10_begins 0 [vr 238, vi x] M (nvM M x) := by
  refine Ct.of [some (vr 238), some (vi x)] rfl rfl rfl (Nat.le_of_ble_eq_true rfl) ?_
  have e : upM M 249 (M 238 19) x 238 19 = M 238 19 := by rw [upM_cell (by omega)]
  refine w_aload_n dX10_begins_0 rfl ?_
  refine r_getI (q := 19) dX10_begins_1 fl10_226 g0_238 (by decide) rfl (by decide) rfl (fun r1 => ?_)
  refine w_bipush dX10_begins_4 (by decide +kernel) ?_
  refine w_icmp_ge (tgt := 29) dX10_begins_6 (by decide) (by omega) (by omega) (fun h6 => ?_) (fun h6 => ?_)
  · refine w_vret dX10_begins_29 rfl ?_ ⟨Nat.le_refl _, Nat.le_refl _⟩
    first | (refine q_v ?_; unfold nvM; rw [if_pos (by omega), e]; done) | (refine q_v ?_; unfold nvM; rw [if_neg (by omega)]; done)
  · refine w_aload_n dX10_begins_9 rfl ?_
    refine w_getR (r := 249) dX10_begins_10 fl10_40 g0_238 (by decide) rfl ?_
    refine w_aload_n dX10_begins_13 rfl ?_
    refine r_getI (q := 19) dX10_begins_14 fl10_226 g0_238 (by decide) rfl (by decide) rfl (fun r14 => ?_)
    refine w_iload_n dX10_begins_17 rfl ?_
    refine r_ist dX10_begins_18 g0_249 (by decide) (by omega) (by omega) (by omega) (by decide) ?_
    refine w_aload_n dX10_begins_19 rfl ?_
    refine w_dup dX10_begins_20 rfl ?_
    refine r_getI (q := 19) dX10_begins_21 fl10_226 g0_238 (by decide) rfl (by decide) rfl (fun r21 => ?_)
    refine w_iconst dX10_begins_24 ?_
    refine w_iadd dX10_begins_25 ?_
    refine r_putI (q := 19) dX10_begins_26 fl10_226 g0_238 (by decide) rfl (by decide) (by omega) rfl (by decide +kernel) rfl ?_
    refine w_vret dX10_begins_29 rfl ?_ ⟨Nat.le_refl _, Nat.le_refl _⟩
    first | (refine q_v ?_; unfold nvM; rw [if_pos (by omega), e]; done) | (refine q_v ?_; unfold nvM; rw [if_neg (by omega)]; done)
theorem c_X10_lent {E : EV} {M : MM} {c : Int} (h0 : 0 ≤ M 238 19) (c0 : 0 ≤ c) (c1 : c < 5) : Cm E mX10_lent 1 [vr 238, vi c] M (M 243 (7 + 5 * c)) (nvM M 10) := by
  refine Ct.of [some (vr 238), some (vi c)] rfl rfl rfl (Nat.le_of_ble_eq_true rfl) ?_
  refine w_aload_n dX10_lent_0 rfl ?_
  refine w_bipush dX10_lent_1 (by decide +kernel) ?_
  refine cVv dX10_lent_3 ok_X10_begins lv10_233 (c_X10_begins (by omega) (by omega)) rfl (congrArg Prod.fst g0_238) (by decide) (by decide) rfl (by decide) (Nat.le_of_ble_eq_true rfl) ?_
  refine w_aload_n dX10_lent_6 rfl ?_
  refine w_iload_n dX10_lent_7 rfl ?_
  refine w_iconst dX10_lent_8 ?_
  refine cVm dX10_lent_9 ok_X10_of lv10_126 (c_X10_of (q := 7 + 5 * c) (by omega) (by omega) (by omega)) rfl (congrArg Prod.fst g0_238) (by decide) (by decide) rfl (by decide) (Nat.le_of_ble_eq_true rfl) (fun r9 => ?_)
  refine w_iret dX10_lent_12 rfl (by omega) ?_ ⟨Nat.le_refl _, Nat.le_refl _⟩
  exact (q_im (by rw [nv_S]) rfl)
theorem c_X10_fogs {E : EV} {M : MM} {c k t : Int} (h0 : 0 ≤ M 238 19) (c0 : 0 ≤ c) (c1 : c < 5) (hk : M 243 (4 + 5 * c) = k) (hk5 : k = 4 ∨ k = 5) (ht : M 243 (7 + 5 * c) = t) (ht2 : 0 ≤ t ∧ t ≤ 1000) : Cm E mX10_fogs 2 [vr 238, vi c] M (fgV k t) (nvs M (fgL k)) := by
  refine Ct.of [some (vr 238), some (vi c), none, none] rfl rfl rfl (Nat.le_of_ble_eq_true rfl) ?_
  have g1 := nv_0 (x := 14) h0
  have g2 := nv_0 (x := 13) g1
  have g3 := nv_0 (x := 13) h0
  have t1 : nvM (nvM M 14) 13 243 (7 + 5 * c) = t := by rw [nv_S, nv_S]; exact ht
  have t2 : nvM M 13 243 (7 + 5 * c) = t := by rw [nv_S]; exact ht
  rcases hk5 with e | e
  · skip
    refine w_aload_n dX10_fogs_0 rfl ?_
    refine w_iload_n dX10_fogs_1 rfl ?_
    refine w_iconst dX10_fogs_2 ?_
    refine cVm dX10_fogs_3 ok_X10_of lv10_126 (c_X10_of (q := 4 + 5 * c) (by omega) (by omega) (by omega)) rfl (congrArg Prod.fst g0_238) (by decide) (by decide) rfl (by decide) (Nat.le_of_ble_eq_true rfl) (fun r3 => ?_)
    refine w_iconst dX10_fogs_6 ?_
    refine w_icmp_ne (tgt := 14) dX10_fogs_7 (by decide) (by omega) (by omega) (fun h7 => ?_) (fun h7 => ?_)
    · refine w_iconst dX10_fogs_14 ?_
      refine w_istore_n dX10_fogs_15 (by decide) ?_
      refine w_iload_n dX10_fogs_16 rfl ?_
      refine w_if_eq (tgt := 26) dX10_fogs_17 (by decide) (by omega) (fun h17 => ?_) (fun h17 => ?_)
      · refine w_aload_n dX10_fogs_26 rfl ?_
        refine w_bipush dX10_fogs_27 (by decide +kernel) ?_
        refine cVv dX10_fogs_29 ok_X10_begins lv10_233 (c_X10_begins (by omega) (by omega)) rfl (congrArg Prod.fst g0_238) (by decide) (by decide) rfl (by decide) (Nat.le_of_ble_eq_true rfl) ?_
        refine w_aload_n dX10_fogs_32 rfl ?_
        refine w_iload_n dX10_fogs_33 rfl ?_
        refine cVm dX10_fogs_34 ok_X10_lent lv10_239 (c_X10_lent (by omega) (by omega) (by omega)) rfl (congrArg Prod.fst g0_238) (by decide) (by decide) rfl (by decide) (Nat.le_of_ble_eq_true rfl) (fun r34 => ?_)
        refine w_bipush dX10_fogs_37 (by decide +kernel) ?_
        refine w_isub dX10_fogs_39 ?_
        refine w_istore_n dX10_fogs_40 (by decide) ?_
        refine w_iload_n dX10_fogs_41 rfl ?_
        refine w_if_eq (tgt := 51) dX10_fogs_42 (by decide) (by omega) (fun h42 => ?_) (fun h42 => ?_)
        · refine w_iload_n dX10_fogs_51 rfl ?_
          refine w_iret dX10_fogs_52 rfl (by omega) ?_ ⟨Nat.le_refl _, Nat.le_refl _⟩
          exact (q_im (by rw [t2, e]; rfl) (by rw [e]; rfl))
        · exact absurd h42 (by omega)
      · exact absurd h17 (by omega)
    · exact absurd h7 (by omega)
  · skip
    refine w_aload_n dX10_fogs_0 rfl ?_
    refine w_iload_n dX10_fogs_1 rfl ?_
    refine w_iconst dX10_fogs_2 ?_
    refine cVm dX10_fogs_3 ok_X10_of lv10_126 (c_X10_of (q := 4 + 5 * c) (by omega) (by omega) (by omega)) rfl (congrArg Prod.fst g0_238) (by decide) (by decide) rfl (by decide) (Nat.le_of_ble_eq_true rfl) (fun r3 => ?_)
    refine w_iconst dX10_fogs_6 ?_
    refine w_icmp_ne (tgt := 14) dX10_fogs_7 (by decide) (by omega) (by omega) (fun h7 => ?_) (fun h7 => ?_)
    · exact absurd h7 (by omega)
    · refine w_iconst dX10_fogs_10 ?_
      refine w_goto (tgt := 15) dX10_fogs_11 (by decide) ?_
      refine w_istore_n dX10_fogs_15 (by decide) ?_
      refine w_iload_n dX10_fogs_16 rfl ?_
      refine w_if_eq (tgt := 26) dX10_fogs_17 (by decide) (by omega) (fun h17 => ?_) (fun h17 => ?_)
      · exact absurd h17 (by omega)
      · refine w_aload_n dX10_fogs_20 rfl ?_
        refine w_bipush dX10_fogs_21 (by decide +kernel) ?_
        refine cVv dX10_fogs_23 ok_X10_begins lv10_233 (c_X10_begins (by omega) (by omega)) rfl (congrArg Prod.fst g0_238) (by decide) (by decide) rfl (by decide) (Nat.le_of_ble_eq_true rfl) ?_
        refine w_aload_n dX10_fogs_26 rfl ?_
        refine w_bipush dX10_fogs_27 (by decide +kernel) ?_
        refine cVv dX10_fogs_29 ok_X10_begins lv10_233 (c_X10_begins (by omega) (by omega)) rfl (congrArg Prod.fst g0_238) (by decide) (by decide) rfl (by decide) (Nat.le_of_ble_eq_true rfl) ?_
        refine w_aload_n dX10_fogs_32 rfl ?_
        refine w_iload_n dX10_fogs_33 rfl ?_
        refine cVm dX10_fogs_34 ok_X10_lent lv10_239 (c_X10_lent (by omega) (by omega) (by omega)) rfl (congrArg Prod.fst g0_238) (by decide) (by decide) rfl (by decide) (Nat.le_of_ble_eq_true rfl) (fun r34 => ?_)
        refine w_bipush dX10_fogs_37 (by decide +kernel) ?_
        refine w_isub dX10_fogs_39 ?_
        refine w_istore_n dX10_fogs_40 (by decide) ?_
        refine w_iload_n dX10_fogs_41 rfl ?_
        refine w_if_eq (tgt := 51) dX10_fogs_42 (by decide) (by omega) (fun h42 => ?_) (fun h42 => ?_)
        · exact absurd h42 (by omega)
        · refine w_iconst dX10_fogs_45 ?_
          refine w_iload_n dX10_fogs_46 rfl ?_
          refine w_imul dX10_fogs_47 ?_
          refine w_goto (tgt := 52) dX10_fogs_48 (by decide) ?_
          refine w_iret dX10_fogs_52 rfl (by omega) ?_ ⟨Nat.le_refl _, Nat.le_refl _⟩
          exact (q_im (by rw [t1, e]; rfl) (by rw [e]; rfl))
theorem c_X10_marks {E : EV} {M : MM} {c k t v : Int} (h0 : 0 ≤ M 238 19) (c0 : 0 ≤ c) (c1 : c < 5) (hk : M 243 (4 + 5 * c) = k) (hk5 : 1 ≤ k ∧ k ≤ 5) (ht : M 243 (7 + 5 * c) = t) (ht2 : 0 ≤ t ∧ t ≤ 1000) (hv : M 243 (6 + 5 * c) = v) (hv2 : 0 ≤ v ∧ v ≤ 1000) : Cm E mX10_marks 3 [vr 238, vi c] M (akV k 1 c t v) (nvs M (akL k 1)) := by
  refine Ct.of [some (vr 238), some (vi c), none, none] rfl rfl rfl (Nat.le_of_ble_eq_true rfl) ?_
  have g1 := nv_0 (x := 23) h0
  have g2 := nv_0 (x := 20) g1
  have g3 := nv_0 (x := 24) h0
  have g4 := nv_0 (x := 21) g3
  have g5 := nv_0 (x := 22) h0
  have g6 := nv_0 (x := 21) g5
  have g7 := nv_0 (x := 21) h0
  have fr : -100000 ≤ fgV k t ∧ fgV k t ≤ 100000 := by unfold fgV; (repeat' split) <;> omega
  have v1 : nvM (nvM (nvM M 24) 21) 20 243 (6 + 5 * c) = v := by rw [nv_S, nv_S, nv_S]; exact hv
  have v2 : nvM (nvM (nvM M 22) 21) 20 243 (6 + 5 * c) = v := by rw [nv_S, nv_S, nv_S]; exact hv
  have v3 : nvM (nvM M 21) 20 243 (6 + 5 * c) = v := by rw [nv_S, nv_S]; exact hv
  rcases (show k = 1 ∨ k = 2 ∨ k = 3 ∨ (4 ≤ k ∧ k ≤ 5) by omega) with e | e | e | e
  · skip
    refine w_aload_n dX10_marks_0 rfl ?_
    refine w_iload_n dX10_marks_1 rfl ?_
    refine w_iconst dX10_marks_2 ?_
    refine cVm dX10_marks_3 ok_X10_of lv10_126 (c_X10_of (q := 4 + 5 * c) (by omega) (by omega) (by omega)) rfl (congrArg Prod.fst g0_238) (by decide) (by decide) rfl (by decide) (Nat.le_of_ble_eq_true rfl) (fun r3 => ?_)
    refine w_istore_n dX10_marks_6 (by decide) ?_
    refine w_iload_n dX10_marks_7 rfl ?_
    refine w_iconst dX10_marks_8 ?_
    refine w_icmp_le (tgt := 32) dX10_marks_9 (by decide) (by omega) (by omega) (fun h9 => ?_) (fun h9 => ?_)
    · refine w_iload_n dX10_marks_32 rfl ?_
      refine w_iconst dX10_marks_33 ?_
      refine w_icmp_le (tgt := 53) dX10_marks_34 (by decide) (by omega) (by omega) (fun h34 => ?_) (fun h34 => ?_)
      · refine w_aload_n dX10_marks_53 rfl ?_
        refine w_bipush dX10_marks_54 (by decide +kernel) ?_
        refine cVv dX10_marks_56 ok_X10_begins lv10_233 (c_X10_begins (by omega) (by omega)) rfl (congrArg Prod.fst g0_238) (by decide) (by decide) rfl (by decide) (Nat.le_of_ble_eq_true rfl) ?_
        refine w_aload_n dX10_marks_59 rfl ?_
        refine w_bipush dX10_marks_60 (by decide +kernel) ?_
        refine cVv dX10_marks_62 ok_X10_begins lv10_233 (c_X10_begins (by omega) (by omega)) rfl (congrArg Prod.fst g0_238) (by decide) (by decide) rfl (by decide) (Nat.le_of_ble_eq_true rfl) ?_
        refine w_iload_n dX10_marks_65 rfl ?_
        refine w_aload_n dX10_marks_66 rfl ?_
        refine w_iload_n dX10_marks_67 rfl ?_
        refine w_iconst dX10_marks_68 ?_
        refine cVm dX10_marks_69 ok_X10_of lv10_126 (c_X10_of (q := 6 + 5 * c) (by omega) (by omega) (by omega)) rfl (congrArg Prod.fst g0_238) (by decide) (by decide) rfl (by decide) (Nat.le_of_ble_eq_true rfl) (fun r69 => ?_)
        refine w_iadd dX10_marks_72 ?_
        refine w_istore_n dX10_marks_73 (by decide) ?_
        refine w_iload_n dX10_marks_74 rfl ?_
        refine w_iconst dX10_marks_75 ?_
        refine w_icmp_ne (tgt := 85) dX10_marks_76 (by decide) (by omega) (by omega) (fun h76 => ?_) (fun h76 => ?_)
        · refine w_iload_n dX10_marks_85 rfl ?_
          refine w_iconst dX10_marks_86 ?_
          refine w_icmp_ne (tgt := 98) dX10_marks_87 (by decide) (by omega) (by omega) (fun h87 => ?_) (fun h87 => ?_)
          · refine w_iload_n dX10_marks_98 rfl ?_
            refine w_iret dX10_marks_99 rfl (by omega) ?_ ⟨Nat.le_refl _, Nat.le_refl _⟩
            exact (q_im (by rw [v3, e]; rfl) (by rw [e]; rfl))
          · exact absurd h87 (by omega)
        · exact absurd h76 (by omega)
      · exact absurd h34 (by omega)
    · exact absurd h9 (by omega)
  · skip
    refine w_aload_n dX10_marks_0 rfl ?_
    refine w_iload_n dX10_marks_1 rfl ?_
    refine w_iconst dX10_marks_2 ?_
    refine cVm dX10_marks_3 ok_X10_of lv10_126 (c_X10_of (q := 4 + 5 * c) (by omega) (by omega) (by omega)) rfl (congrArg Prod.fst g0_238) (by decide) (by decide) rfl (by decide) (Nat.le_of_ble_eq_true rfl) (fun r3 => ?_)
    refine w_istore_n dX10_marks_6 (by decide) ?_
    refine w_iload_n dX10_marks_7 rfl ?_
    refine w_iconst dX10_marks_8 ?_
    refine w_icmp_le (tgt := 32) dX10_marks_9 (by decide) (by omega) (by omega) (fun h9 => ?_) (fun h9 => ?_)
    · refine w_iload_n dX10_marks_32 rfl ?_
      refine w_iconst dX10_marks_33 ?_
      refine w_icmp_le (tgt := 53) dX10_marks_34 (by decide) (by omega) (by omega) (fun h34 => ?_) (fun h34 => ?_)
      · exact absurd h34 (by omega)
      · refine w_aload_n dX10_marks_37 rfl ?_
        refine w_iload_n dX10_marks_38 rfl ?_
        refine w_iconst dX10_marks_39 ?_
        refine w_icmp_ne (tgt := 48) dX10_marks_40 (by decide) (by omega) (by omega) (fun h40 => ?_) (fun h40 => ?_)
        · exact absurd h40 (by omega)
        · refine w_bipush dX10_marks_43 (by decide +kernel) ?_
          refine w_goto (tgt := 50) dX10_marks_45 (by decide) ?_
          refine cVv dX10_marks_50 ok_X10_begins lv10_233 (c_X10_begins (by omega) (by omega)) rfl (congrArg Prod.fst g0_238) (by decide) (by decide) rfl (by decide) (Nat.le_of_ble_eq_true rfl) ?_
          refine w_aload_n dX10_marks_53 rfl ?_
          refine w_bipush dX10_marks_54 (by decide +kernel) ?_
          refine cVv dX10_marks_56 ok_X10_begins lv10_233 (c_X10_begins (by omega) (by omega)) rfl (congrArg Prod.fst g0_238) (by decide) (by decide) rfl (by decide) (Nat.le_of_ble_eq_true rfl) ?_
          refine w_aload_n dX10_marks_59 rfl ?_
          refine w_bipush dX10_marks_60 (by decide +kernel) ?_
          refine cVv dX10_marks_62 ok_X10_begins lv10_233 (c_X10_begins (by omega) (by omega)) rfl (congrArg Prod.fst g0_238) (by decide) (by decide) rfl (by decide) (Nat.le_of_ble_eq_true rfl) ?_
          refine w_iload_n dX10_marks_65 rfl ?_
          refine w_aload_n dX10_marks_66 rfl ?_
          refine w_iload_n dX10_marks_67 rfl ?_
          refine w_iconst dX10_marks_68 ?_
          refine cVm dX10_marks_69 ok_X10_of lv10_126 (c_X10_of (q := 6 + 5 * c) (by omega) (by omega) (by omega)) rfl (congrArg Prod.fst g0_238) (by decide) (by decide) rfl (by decide) (Nat.le_of_ble_eq_true rfl) (fun r69 => ?_)
          refine w_iadd dX10_marks_72 ?_
          refine w_istore_n dX10_marks_73 (by decide) ?_
          refine w_iload_n dX10_marks_74 rfl ?_
          refine w_iconst dX10_marks_75 ?_
          refine w_icmp_ne (tgt := 85) dX10_marks_76 (by decide) (by omega) (by omega) (fun h76 => ?_) (fun h76 => ?_)
          · exact absurd h76 (by omega)
          · refine w_iconst dX10_marks_79 ?_
            refine w_iload_n dX10_marks_80 rfl ?_
            refine w_imul dX10_marks_81 ?_
            refine w_goto (tgt := 99) dX10_marks_82 (by decide) ?_
            refine w_iret dX10_marks_99 rfl (by omega) ?_ ⟨Nat.le_refl _, Nat.le_refl _⟩
            exact (q_im (by rw [v1, e]; rfl) (by rw [e]; rfl))
    · exact absurd h9 (by omega)
  · skip
    refine w_aload_n dX10_marks_0 rfl ?_
    refine w_iload_n dX10_marks_1 rfl ?_
    refine w_iconst dX10_marks_2 ?_
    refine cVm dX10_marks_3 ok_X10_of lv10_126 (c_X10_of (q := 4 + 5 * c) (by omega) (by omega) (by omega)) rfl (congrArg Prod.fst g0_238) (by decide) (by decide) rfl (by decide) (Nat.le_of_ble_eq_true rfl) (fun r3 => ?_)
    refine w_istore_n dX10_marks_6 (by decide) ?_
    refine w_iload_n dX10_marks_7 rfl ?_
    refine w_iconst dX10_marks_8 ?_
    refine w_icmp_le (tgt := 32) dX10_marks_9 (by decide) (by omega) (by omega) (fun h9 => ?_) (fun h9 => ?_)
    · refine w_iload_n dX10_marks_32 rfl ?_
      refine w_iconst dX10_marks_33 ?_
      refine w_icmp_le (tgt := 53) dX10_marks_34 (by decide) (by omega) (by omega) (fun h34 => ?_) (fun h34 => ?_)
      · exact absurd h34 (by omega)
      · refine w_aload_n dX10_marks_37 rfl ?_
        refine w_iload_n dX10_marks_38 rfl ?_
        refine w_iconst dX10_marks_39 ?_
        refine w_icmp_ne (tgt := 48) dX10_marks_40 (by decide) (by omega) (by omega) (fun h40 => ?_) (fun h40 => ?_)
        · refine w_bipush dX10_marks_48 (by decide +kernel) ?_
          refine cVv dX10_marks_50 ok_X10_begins lv10_233 (c_X10_begins (by omega) (by omega)) rfl (congrArg Prod.fst g0_238) (by decide) (by decide) rfl (by decide) (Nat.le_of_ble_eq_true rfl) ?_
          refine w_aload_n dX10_marks_53 rfl ?_
          refine w_bipush dX10_marks_54 (by decide +kernel) ?_
          refine cVv dX10_marks_56 ok_X10_begins lv10_233 (c_X10_begins (by omega) (by omega)) rfl (congrArg Prod.fst g0_238) (by decide) (by decide) rfl (by decide) (Nat.le_of_ble_eq_true rfl) ?_
          refine w_aload_n dX10_marks_59 rfl ?_
          refine w_bipush dX10_marks_60 (by decide +kernel) ?_
          refine cVv dX10_marks_62 ok_X10_begins lv10_233 (c_X10_begins (by omega) (by omega)) rfl (congrArg Prod.fst g0_238) (by decide) (by decide) rfl (by decide) (Nat.le_of_ble_eq_true rfl) ?_
          refine w_iload_n dX10_marks_65 rfl ?_
          refine w_aload_n dX10_marks_66 rfl ?_
          refine w_iload_n dX10_marks_67 rfl ?_
          refine w_iconst dX10_marks_68 ?_
          refine cVm dX10_marks_69 ok_X10_of lv10_126 (c_X10_of (q := 6 + 5 * c) (by omega) (by omega) (by omega)) rfl (congrArg Prod.fst g0_238) (by decide) (by decide) rfl (by decide) (Nat.le_of_ble_eq_true rfl) (fun r69 => ?_)
          refine w_iadd dX10_marks_72 ?_
          refine w_istore_n dX10_marks_73 (by decide) ?_
          refine w_iload_n dX10_marks_74 rfl ?_
          refine w_iconst dX10_marks_75 ?_
          refine w_icmp_ne (tgt := 85) dX10_marks_76 (by decide) (by omega) (by omega) (fun h76 => ?_) (fun h76 => ?_)
          · refine w_iload_n dX10_marks_85 rfl ?_
            refine w_iconst dX10_marks_86 ?_
            refine w_icmp_ne (tgt := 98) dX10_marks_87 (by decide) (by omega) (by omega) (fun h87 => ?_) (fun h87 => ?_)
            · exact absurd h87 (by omega)
            · refine w_iload_n dX10_marks_90 rfl ?_
              refine w_sipush dX10_marks_91 (by decide +kernel) ?_
              refine w_isub dX10_marks_94 ?_
              refine w_goto (tgt := 99) dX10_marks_95 (by decide) ?_
              refine w_iret dX10_marks_99 rfl (by omega) ?_ ⟨Nat.le_refl _, Nat.le_refl _⟩
              exact (q_im (by rw [v2, e]; rfl) (by rw [e]; rfl))
          · exact absurd h76 (by omega)
        · exact absurd h40 (by omega)
    · exact absurd h9 (by omega)
  · skip
    refine w_aload_n dX10_marks_0 rfl ?_
    refine w_iload_n dX10_marks_1 rfl ?_
    refine w_iconst dX10_marks_2 ?_
    refine cVm dX10_marks_3 ok_X10_of lv10_126 (c_X10_of (q := 4 + 5 * c) (by omega) (by omega) (by omega)) rfl (congrArg Prod.fst g0_238) (by decide) (by decide) rfl (by decide) (Nat.le_of_ble_eq_true rfl) (fun r3 => ?_)
    refine w_istore_n dX10_marks_6 (by decide) ?_
    refine w_iload_n dX10_marks_7 rfl ?_
    refine w_iconst dX10_marks_8 ?_
    refine w_icmp_le (tgt := 32) dX10_marks_9 (by decide) (by omega) (by omega) (fun h9 => ?_) (fun h9 => ?_)
    · exact absurd h9 (by omega)
    · refine w_aload_n dX10_marks_12 rfl ?_
      refine w_bipush dX10_marks_13 (by decide +kernel) ?_
      refine cVv dX10_marks_15 ok_X10_begins lv10_233 (c_X10_begins (by omega) (by omega)) rfl (congrArg Prod.fst g0_238) (by decide) (by decide) rfl (by decide) (Nat.le_of_ble_eq_true rfl) ?_
      refine w_aload_n dX10_marks_18 rfl ?_
      refine w_bipush dX10_marks_19 (by decide +kernel) ?_
      refine cVv dX10_marks_21 ok_X10_begins lv10_233 (c_X10_begins (by omega) (by omega)) rfl (congrArg Prod.fst g0_238) (by decide) (by decide) rfl (by decide) (Nat.le_of_ble_eq_true rfl) ?_
      refine w_iload_n dX10_marks_24 rfl ?_
      refine w_aload_n dX10_marks_25 rfl ?_
      refine w_iload_n dX10_marks_26 rfl ?_
      refine cVm dX10_marks_27 ok_X10_fogs lv10_236 (c_X10_fogs (k := k) (t := t) g2 c0 c1 (by rw [nv_S, nv_S]; exact hk) (by omega) (by rw [nv_S, nv_S]; exact ht) ht2) rfl (congrArg Prod.fst g0_238) (by decide) (by decide) rfl (by decide) (Nat.le_of_ble_eq_true rfl) (fun r27 => ?_)
      refine w_isub dX10_marks_30 ?_
      refine w_iret dX10_marks_31 rfl (by omega) ?_ ⟨Nat.le_refl _, Nat.le_refl _⟩
      exact (q_im (by unfold akV; rw [if_neg (by omega), if_pos (by omega)]) (by unfold akL; rw [if_neg (by omega), if_pos (by omega)]; rfl))
theorem c_X10_sizeOf {E : EV} {M : MM} {c k t v : Int} (h0 : 0 ≤ M 238 19) (c0 : 0 ≤ c) (c1 : c < 5) (hk : M 243 (4 + 5 * c) = k) (hk5 : 1 ≤ k ∧ k ≤ 5) (ht : M 243 (7 + 5 * c) = t) (ht2 : 0 ≤ t ∧ t ≤ 1000) (hv : M 243 (6 + 5 * c) = v) (hv2 : 0 ≤ v ∧ v ≤ 1000) : Cm E mX10_sizeOf 4 [vr 238, vi c] M (akV k 0 c t v) (nvs M (akL k 0)) := by
  refine Ct.of [some (vr 238), some (vi c), none, none] rfl rfl rfl (Nat.le_of_ble_eq_true rfl) ?_
  have g1 := nv_0 (x := 12) h0
  have g2 := nv_0 (x := 11) g1
  have g3 := nv_0 (x := 10) g2
  have g4 := nv_0 (x := 11) h0
  have g5 := nv_0 (x := 10) g4
  have t1 : nvM (nvM M 12) 11 243 (7 + 5 * c) = t := by rw [nv_S, nv_S]; exact ht
  have t2 : nvM M 11 243 (7 + 5 * c) = t := by rw [nv_S]; exact ht
  have mr : k ≤ 3 → -50000 ≤ mkV k c v ∧ mkV k c v ≤ 50000 := fun _ => by unfold mkV; (repeat' split) <;> omega
  have ea : k ≤ 3 → akV k 1 c t v = mkV k c v := fun _ => by unfold akV; rw [if_neg (by decide), if_neg (by omega)]
  have el : k ≤ 3 → akL k 1 = mkL k := fun _ => by unfold akL; rw [if_neg (by decide), if_neg (by omega)]
  have fr : -100000 ≤ fgV k t ∧ fgV k t ≤ 100000 := by unfold fgV; (repeat' split) <;> omega
  by_cases h2 : k = 2
  · skip
    refine w_aload_n dX10_sizeOf_0 rfl ?_
    refine w_iload_n dX10_sizeOf_1 rfl ?_
    refine w_iconst dX10_sizeOf_2 ?_
    refine cVm dX10_sizeOf_3 ok_X10_of lv10_126 (c_X10_of (q := 4 + 5 * c) (by omega) (by omega) (by omega)) rfl (congrArg Prod.fst g0_238) (by decide) (by decide) rfl (by decide) (Nat.le_of_ble_eq_true rfl) (fun r3 => ?_)
    refine w_istore_n dX10_sizeOf_6 (by decide) ?_
    refine w_iload_n dX10_sizeOf_7 rfl ?_
    refine w_iconst dX10_sizeOf_8 ?_
    refine w_icmp_le (tgt := 18) dX10_sizeOf_9 (by decide) (by omega) (by omega) (fun h9 => ?_) (fun h9 => ?_)
    · refine w_iload_n dX10_sizeOf_18 rfl ?_
      refine w_iconst dX10_sizeOf_19 ?_
      refine w_icmp_ne (tgt := 29) dX10_sizeOf_20 (by decide) (by omega) (by omega) (fun h20 => ?_) (fun h20 => ?_)
      · exact absurd h20 (by omega)
      · refine w_aload_n dX10_sizeOf_23 rfl ?_
        refine w_bipush dX10_sizeOf_24 (by decide +kernel) ?_
        refine cVv dX10_sizeOf_26 ok_X10_begins lv10_233 (c_X10_begins (by omega) (by omega)) rfl (congrArg Prod.fst g0_238) (by decide) (by decide) rfl (by decide) (Nat.le_of_ble_eq_true rfl) ?_
        refine w_aload_n dX10_sizeOf_29 rfl ?_
        refine w_bipush dX10_sizeOf_30 (by decide +kernel) ?_
        refine cVv dX10_sizeOf_32 ok_X10_begins lv10_233 (c_X10_begins (by omega) (by omega)) rfl (congrArg Prod.fst g0_238) (by decide) (by decide) rfl (by decide) (Nat.le_of_ble_eq_true rfl) ?_
        refine w_aload_n dX10_sizeOf_35 rfl ?_
        refine w_iload_n dX10_sizeOf_36 rfl ?_
        refine cVm dX10_sizeOf_37 ok_X10_lent lv10_239 (c_X10_lent (by omega) (by omega) (by omega)) rfl (congrArg Prod.fst g0_238) (by decide) (by decide) rfl (by decide) (Nat.le_of_ble_eq_true rfl) (fun r37 => ?_)
        refine w_istore_n dX10_sizeOf_40 (by decide) ?_
        refine w_iload_n dX10_sizeOf_41 rfl ?_
        refine w_aload_n dX10_sizeOf_42 rfl ?_
        refine w_iload_n dX10_sizeOf_43 rfl ?_
        have mr := mr (by omega)
        have ea := ea (by omega)
        have el := el (by omega)
        refine cVm dX10_sizeOf_44 ok_X10_marks lv10_242 (c_X10_marks (k := k) (t := t) (v := v) g3 c0 c1 (by rw [nv_S, nv_S, nv_S]; exact hk) hk5 (by rw [nv_S, nv_S, nv_S]; exact ht) ht2 (by rw [nv_S, nv_S, nv_S]; exact hv) hv2) rfl (congrArg Prod.fst g0_238) (by decide) (by decide) rfl (by decide) (Nat.le_of_ble_eq_true rfl) (fun r44 => ?_)
        refine w_iadd dX10_sizeOf_47 ?_
        refine w_istore_n dX10_sizeOf_48 (by decide) ?_
        refine w_iload_n dX10_sizeOf_49 rfl ?_
        refine w_iconst dX10_sizeOf_50 ?_
        refine w_icmp_ne (tgt := 59) dX10_sizeOf_51 (by decide) (by omega) (by omega) (fun h51 => ?_) (fun h51 => ?_)
        · exact absurd h51 (by omega)
        · refine w_iload_n dX10_sizeOf_54 rfl ?_
          refine w_ineg dX10_sizeOf_55 ?_
          refine w_goto (tgt := 60) dX10_sizeOf_56 (by decide) ?_
          refine w_iret dX10_sizeOf_60 rfl (by omega) ?_ ⟨Nat.le_refl _, Nat.le_refl _⟩
          exact (q_im (by rw [t1, ea]; unfold akV; rw [if_pos rfl, if_pos h2]) (by rw [el]; unfold akL; rw [if_pos rfl, if_pos h2]; rfl))
    · exact absurd h9 (by omega)
  · skip
    refine w_aload_n dX10_sizeOf_0 rfl ?_
    refine w_iload_n dX10_sizeOf_1 rfl ?_
    refine w_iconst dX10_sizeOf_2 ?_
    refine cVm dX10_sizeOf_3 ok_X10_of lv10_126 (c_X10_of (q := 4 + 5 * c) (by omega) (by omega) (by omega)) rfl (congrArg Prod.fst g0_238) (by decide) (by decide) rfl (by decide) (Nat.le_of_ble_eq_true rfl) (fun r3 => ?_)
    refine w_istore_n dX10_sizeOf_6 (by decide) ?_
    refine w_iload_n dX10_sizeOf_7 rfl ?_
    refine w_iconst dX10_sizeOf_8 ?_
    refine w_icmp_le (tgt := 18) dX10_sizeOf_9 (by decide) (by omega) (by omega) (fun h9 => ?_) (fun h9 => ?_)
    · refine w_iload_n dX10_sizeOf_18 rfl ?_
      refine w_iconst dX10_sizeOf_19 ?_
      refine w_icmp_ne (tgt := 29) dX10_sizeOf_20 (by decide) (by omega) (by omega) (fun h20 => ?_) (fun h20 => ?_)
      · refine w_aload_n dX10_sizeOf_29 rfl ?_
        refine w_bipush dX10_sizeOf_30 (by decide +kernel) ?_
        refine cVv dX10_sizeOf_32 ok_X10_begins lv10_233 (c_X10_begins (by omega) (by omega)) rfl (congrArg Prod.fst g0_238) (by decide) (by decide) rfl (by decide) (Nat.le_of_ble_eq_true rfl) ?_
        refine w_aload_n dX10_sizeOf_35 rfl ?_
        refine w_iload_n dX10_sizeOf_36 rfl ?_
        refine cVm dX10_sizeOf_37 ok_X10_lent lv10_239 (c_X10_lent (by omega) (by omega) (by omega)) rfl (congrArg Prod.fst g0_238) (by decide) (by decide) rfl (by decide) (Nat.le_of_ble_eq_true rfl) (fun r37 => ?_)
        refine w_istore_n dX10_sizeOf_40 (by decide) ?_
        refine w_iload_n dX10_sizeOf_41 rfl ?_
        refine w_aload_n dX10_sizeOf_42 rfl ?_
        refine w_iload_n dX10_sizeOf_43 rfl ?_
        have mr := mr (by omega)
        have ea := ea (by omega)
        have el := el (by omega)
        refine cVm dX10_sizeOf_44 ok_X10_marks lv10_242 (c_X10_marks (k := k) (t := t) (v := v) g5 c0 c1 (by rw [nv_S, nv_S]; exact hk) hk5 (by rw [nv_S, nv_S]; exact ht) ht2 (by rw [nv_S, nv_S]; exact hv) hv2) rfl (congrArg Prod.fst g0_238) (by decide) (by decide) rfl (by decide) (Nat.le_of_ble_eq_true rfl) (fun r44 => ?_)
        refine w_iadd dX10_sizeOf_47 ?_
        refine w_istore_n dX10_sizeOf_48 (by decide) ?_
        refine w_iload_n dX10_sizeOf_49 rfl ?_
        refine w_iconst dX10_sizeOf_50 ?_
        refine w_icmp_ne (tgt := 59) dX10_sizeOf_51 (by decide) (by omega) (by omega) (fun h51 => ?_) (fun h51 => ?_)
        · refine w_iload_n dX10_sizeOf_59 rfl ?_
          refine w_iret dX10_sizeOf_60 rfl (by omega) ?_ ⟨Nat.le_refl _, Nat.le_refl _⟩
          exact (q_im (by rw [t2, ea]; unfold akV; rw [if_pos rfl, if_neg h2, if_neg (by omega)]) (by rw [el]; unfold akL; rw [if_pos rfl, if_neg h2, if_neg (by omega)]; rfl))
        · exact absurd h51 (by omega)
      · exact absurd h20 (by omega)
    · refine w_aload_n dX10_sizeOf_12 rfl ?_
      refine w_iload_n dX10_sizeOf_13 rfl ?_
      refine cVm dX10_sizeOf_14 ok_X10_fogs lv10_236 (c_X10_fogs (k := k) (t := t) h0 c0 c1 hk (by omega) ht ht2) rfl (congrArg Prod.fst g0_238) (by decide) (by decide) rfl (by decide) (Nat.le_of_ble_eq_true rfl) (fun r14 => ?_)
      refine w_iret dX10_sizeOf_17 rfl (by omega) ?_ ⟨Nat.le_refl _, Nat.le_refl _⟩
      exact (q_im (by unfold akV; rw [if_pos rfl, if_neg h2, if_pos (by omega)]) (by unfold akL; rw [if_pos rfl, if_neg h2, if_pos (by omega)]))
theorem MI.nv {M : MM} {p : PS} {x : Int} (h : MI M p) : MI (nvM M x) (lvP p x) := by
  unfold nvM lvP
  rw [h.tr]
  by_cases e : p.tr < 16
  · rw [if_pos e, if_pos e]
    refine h.asks (fun i a b c d e => by rw [upM_cell (by omega), upM_cell b]) (fun k _ hk => by rw [upM_ne (fun w => hk w.2), upM_cell (by omega)]) (by rw [upM_same]) ?_
    rw [upM_cell (by omega)]
    funext q
    rw [upS_at]
    by_cases e2 : q = p.tr
    · rw [e2, upM_same, if_pos rfl]
    · rw [upM_ne (fun w => e2 w.2), if_neg e2, h.tb]
  · rw [if_neg e, if_neg e]; exact h
theorem MI.nvs : ∀ (l : List Int) {M : MM} {p : PS}, MI M p → MI (nvs M l) (lvsP p l)
  | [], _, _, h => h
  | _ :: l, _, _, h => MI.nvs l h.nv
theorem nvs_lo : ∀ (l : List Int) (M : MM), Lo M (nvs M l)
  | [], M => Lo.refl M
  | x :: l, M => by
    refine Lo.trans (m := nvM M x) ?_ (nvs_lo l _)
    unfold nvM
    split
    · exact ((Lo.refl M).up (by omega)).up (by omega)
    · exact Lo.refl M
theorem c_X10_ask {E : EV} {M : MM} {p : PS} {c w : Int} (hI : MI M p) (hP : POK p) (hc : R32 c) (hw : R32 w) : Cx E mX10_ask 9 [vr 238, vi c, vi w] M (KM M (askR p c w)) := by
  refine Ct.of [some (vr 238), some (vi c), some (vi w)] rfl rfl rfl (Nat.le_of_ble_eq_true rfl) ?_
  have hn := hP.hs.n
  have e0 := hI.sq 0
  have k1 := hI.sq (4 + 5 * c)
  have k2 := hI.sq (7 + 5 * c)
  have k3 := hI.sq (6 + 5 * c)
  have key : ∀ l, MI (nvs (upM M 238 19 0) l) (lvsP (⟨p.ln, p.sz, p.it, p.tn, p.tp, p.S, p.u, p.U, p.fl, p.I, p.lf, p.fd, 0, p.tb⟩ : PS) l) ∧ Lo M (nvs (upM M 238 19 0) l) := fun l => by
    refine ⟨MI.nvs l (hI.asks (fun i a b c d e => by rw [upM_cell (by omega)]) (fun k _ hk => by rw [upM_ne (fun w => hk w.2)]) (by rw [upM_same]) (by rw [upM_cell (by omega)]; exact hI.tb)), ((Lo.refl M).up (by omega)).trans (nvs_lo l _)⟩
  refine w_aload_n dX10_ask_0 rfl ?_
  refine w_iload_n dX10_ask_1 rfl ?_
  refine cVm dX10_ask_2 ok_X10_isCloud lv10_156 (c_X10_isCloud (by omega) (by omega)) rfl (congrArg Prod.fst g0_238) (by decide) (by decide) rfl (by decide) (Nat.le_of_ble_eq_true rfl) (fun r2 => ?_)
  refine w_ifB_eq (tgt := 18) dX10_ask_5 (by decide) (fun h5 => ?_) (fun h5 => ?_)
  · (first | replace h5 := of_decide_eq_true h5 | replace h5 := of_decide_eq_false h5 | skip)
    refine w_ldc dX10_ask_18 co10_60 ?_
    refine w_iret dX10_ask_20 rfl (by omega) ?_ ⟨Nat.le_refl _, Nat.le_refl _⟩
    exact (q_x (KM.stay hI (by unfold askR; ((repeat (first | rw [if_pos (by omega)] | rw [if_neg (by omega)])) <;> rfl))))
  · (first | replace h5 := of_decide_eq_true h5 | replace h5 := of_decide_eq_false h5 | skip)
    refine w_iload_n dX10_ask_8 rfl ?_
    refine w_i2l dX10_ask_9 (by omega) ?_
    refine w_lconst0 dX10_ask_10 ?_
    refine w_lconst1 dX10_ask_11 ?_
    refine cSm dX10_ask_12 ok_X10_in (Or.inl ls10_50) (c_X10_in (by omega) (by omega) (by omega)) rfl  rfl (by decide) (Nat.le_of_ble_eq_true rfl) (fun r12 => ?_)
    refine w_ifB_ne (tgt := 21) dX10_ask_15 (by decide) (fun h15 => ?_) (fun h15 => ?_)
    · (first | replace h15 := of_decide_eq_true h15 | replace h15 := of_decide_eq_false h15 | skip)
      refine w_aload_n dX10_ask_21 rfl ?_
      refine w_iconst dX10_ask_22 ?_
      refine r_putI (q := 19) dX10_ask_23 fl10_226 g0_238 (by decide) rfl (by decide) (by omega) rfl (by decide +kernel) rfl ?_
      have kb := hP.hs.2.1.cl (c := c) (by omega) (by omega)
      refine w_iload_n dX10_ask_26 rfl ?_
      refine w_if_ne (tgt := 38) dX10_ask_27 (by decide) (by omega) (fun h27 => ?_) (fun h27 => ?_)
      · refine w_aload_n dX10_ask_38 rfl ?_
        refine w_iload_n dX10_ask_39 rfl ?_
        refine cVm dX10_ask_40 ok_X10_marks lv10_242 (c_X10_marks (k := p.S (4 + 5 * c)) (t := p.S (7 + 5 * c)) (v := p.S (6 + 5 * c)) (by rw [upM_same]; omega) (by omega) (by omega) (by rw [upM_cell (by omega)]; exact k1) (by omega) (by rw [upM_cell (by omega)]; exact k2) (by omega) (by rw [upM_cell (by omega)]; exact k3) (by omega)) rfl (congrArg Prod.fst g0_238) (by decide) (by decide) rfl (by decide) (Nat.le_of_ble_eq_true rfl) (fun r40 => ?_)
        refine w_iret dX10_ask_43 rfl (by omega) ?_ ⟨Nat.le_refl _, Nat.le_refl _⟩
        first | (obtain rfl : w = 0 := (by omega); exact q_x (by unfold askR; rw [if_pos (by omega)]; exact ⟨rfl, key _⟩)) | (obtain rfl : w = 1 := (by omega); exact q_x (by unfold askR; rw [if_pos (by omega)]; exact ⟨rfl, key _⟩))
      · refine w_aload_n dX10_ask_30 rfl ?_
        refine w_iload_n dX10_ask_31 rfl ?_
        refine cVm dX10_ask_32 ok_X10_sizeOf lv10_245 (c_X10_sizeOf (k := p.S (4 + 5 * c)) (t := p.S (7 + 5 * c)) (v := p.S (6 + 5 * c)) (by rw [upM_same]; omega) (by omega) (by omega) (by rw [upM_cell (by omega)]; exact k1) (by omega) (by rw [upM_cell (by omega)]; exact k2) (by omega) (by rw [upM_cell (by omega)]; exact k3) (by omega)) rfl (congrArg Prod.fst g0_238) (by decide) (by decide) rfl (by decide) (Nat.le_of_ble_eq_true rfl) (fun r32 => ?_)
        refine w_goto (tgt := 43) dX10_ask_35 (by decide) ?_
        refine w_iret dX10_ask_43 rfl (by omega) ?_ ⟨Nat.le_refl _, Nat.le_refl _⟩
        first | (obtain rfl : w = 0 := (by omega); exact q_x (by unfold askR; rw [if_pos (by omega)]; exact ⟨rfl, key _⟩)) | (obtain rfl : w = 1 := (by omega); exact q_x (by unfold askR; rw [if_pos (by omega)]; exact ⟨rfl, key _⟩))
    · (first | replace h15 := of_decide_eq_true h15 | replace h15 := of_decide_eq_false h15 | skip)
      refine w_ldc dX10_ask_18 co10_60 ?_
      refine w_iret dX10_ask_20 rfl (by omega) ?_ ⟨Nat.le_refl _, Nat.le_refl _⟩
      exact (q_x (KM.stay hI (by unfold askR; ((repeat (first | rw [if_pos (by omega)] | rw [if_neg (by omega)])) <;> rfl))))
theorem c_X10_trace {E : EV} {M : MM} {p : PS} {i : Int} (hI : MI M p) (hP : POK p) (hi : R32 i) : Cx E mX10_trace 9 [vr 238, vi i] M (KM M (traceR p i)) := by
  refine Ct.of [some (vr 238), some (vi i)] rfl rfl rfl (Nat.le_of_ble_eq_true rfl) ?_
  have h1 := hP.hr
  have e0 := hI.tr
  have k1 : M 249 i = p.tb i := by rw [hI.tb]
  refine w_iload_n dX10_trace_0 rfl ?_
  refine w_i2l dX10_trace_1 (by omega) ?_
  refine w_lconst0 dX10_trace_2 ?_
  refine w_aload_n dX10_trace_3 rfl ?_
  refine r_getI (q := 19) dX10_trace_4 fl10_226 g0_238 (by decide) rfl (by decide) rfl (fun r4 => ?_)
  refine w_iconst dX10_trace_7 ?_
  refine w_isub dX10_trace_8 ?_
  refine w_i2l dX10_trace_9 (by omega) ?_
  refine cSm dX10_trace_10 ok_X10_in (Or.inl ls10_50) (c_X10_in (by omega) (by omega) (by omega)) rfl  rfl (by decide) (Nat.le_of_ble_eq_true rfl) (fun r10 => ?_)
  refine w_ifB_eq (tgt := 25) dX10_trace_13 (by decide) (fun h13 => ?_) (fun h13 => ?_)
  · (first | replace h13 := of_decide_eq_true h13 | replace h13 := of_decide_eq_false h13 | skip)
    refine w_ldc dX10_trace_25 co10_177 ?_
    refine w_iret dX10_trace_27 rfl (by omega) ?_ ⟨Nat.le_refl _, Nat.le_refl _⟩
    first | (refine q_x (KM.stay hI ?_); unfold traceR; ((repeat (first | rw [if_pos (by omega)] | rw [if_neg (by omega)])) <;> rfl)) | (refine q_x (KM.stay' hI k1 ?_); unfold traceR; ((repeat (first | rw [if_pos (by omega)] | rw [if_neg (by omega)])) <;> rfl))
  · (first | replace h13 := of_decide_eq_true h13 | replace h13 := of_decide_eq_false h13 | skip)
    refine w_aload_n dX10_trace_16 rfl ?_
    refine w_getR (r := 249) dX10_trace_17 fl10_40 g0_238 (by decide) rfl ?_
    refine w_iload_n dX10_trace_20 rfl ?_
    refine r_ild dX10_trace_21 g0_249 (by decide) (by omega) (by omega) (by decide) (fun r21 => ?_)
    refine w_goto (tgt := 27) dX10_trace_22 (by decide) ?_
    refine w_iret dX10_trace_27 rfl (by omega) ?_ ⟨Nat.le_refl _, Nat.le_refl _⟩
    first | (refine q_x (KM.stay hI ?_); unfold traceR; ((repeat (first | rw [if_pos (by omega)] | rw [if_neg (by omega)])) <;> rfl)) | (refine q_x (KM.stay' hI k1 ?_); unfold traceR; ((repeat (first | rw [if_pos (by omega)] | rw [if_neg (by omega)])) <;> rfl))
theorem c_X10_status {E : EV} {M : MM} {p : PS} (hI : MI M p) : Cx E mX10_status 9 [vr 238] M (KM M (p.fd, p)) := by
  refine Ct.of [some (vr 238)] rfl rfl rfl (Nat.le_of_ble_eq_true rfl) ?_
  refine w_aload_n dX10_status_0 rfl ?_
  refine r_getI (q := 4) dX10_status_1 fl10_43 g0_238 (by decide) rfl (by decide) rfl (fun r1 => ?_)
  refine w_iret dX10_status_4 rfl (by omega) ?_ ⟨Nat.le_refl _, Nat.le_refl _⟩
  exact (q_x (KM.stay hI (by rw [hI.fd])))
theorem c_X10_fault {E : EV} {M : MM} {p : PS} (hI : MI M p) : Cx E mX10_fault 9 [vr 238] M (KM M (p.lf, p)) := by
  refine Ct.of [some (vr 238)] rfl rfl rfl (Nat.le_of_ble_eq_true rfl) ?_
  refine w_aload_n dX10_fault_0 rfl ?_
  refine r_getI (q := 12) dX10_fault_1 fl10_113 g0_238 (by decide) rfl (by decide) rfl (fun r1 => ?_)
  refine w_iret dX10_fault_4 rfl (by omega) ?_ ⟨Nat.le_refl _, Nat.le_refl _⟩
  exact (q_x (KM.stay hI (by rw [hI.lf])))
