/-! ===== THE REFERENCE: what it shares ===== -/
section ToolsQ
variable {E : EV} {X : MD} {k : KK} {pc : Nat} {ls : LV} {st : List AV} {n : Nat} {G : GG} {M : MM} {Q : PP}
theorem r_ildq {a : Nat} {z q N : Int} (hd : decode (mB X) pc = .ok (.iaload, 1)) (hg : G a = (0, [N])) (ha : a < n) (hq : z = q) (h0 : 0 ≤ q) (h1 : q < N) (hN : N < 2147483648) (h : R32 (M a q) → Wp E X k (pc + 1) ls (vi (M a q) :: st) n G M Q) : Wp E X k pc ls (vi z :: vr a :: st) n G M Q := by subst hq; exact w_iald hd hg ha h0 h1 hN h
theorem r_istq {a : Nat} {z q v N : Int} (hd : decode (mB X) pc = .ok (.iastore, 1)) (hg : G a = (0, [N])) (ha : a < n) (hq : z = q) (h0 : 0 ≤ q) (h1 : q < N) (hv : R32 v) (hN : N < 2147483648) (h : Wp E X k (pc + 1) ls st n G (upM M a q v) Q) : Wp E X k pc ls (vi v :: vi z :: vr a :: st) n G M Q := by subst hq; exact w_iast hd hg ha h0 h1 hv hN h
end ToolsQ
theorem cp_step {M : MM} {a b : Nat} {sp dp z : Int} (hab : a ≠ b) (hz : 0 ≤ z) : upM (cpM M a b sp dp z) b (dp + z) (M a (sp + z)) = cpM M a b sp dp (z + 1) := by
  funext i q
  unfold upM cpM
  by_cases h1 : i = b ∧ q = dp + z
  · rw [if_pos h1, if_pos ⟨h1.1, by omega, by omega⟩]
    congr 1
    omega
  · rw [if_neg h1]
    by_cases h2 : i = b ∧ dp ≤ q ∧ q < dp + z
    · rw [if_pos h2, if_pos ⟨h2.1, h2.2.1, by omega⟩]
    · rw [if_neg h2, if_neg (fun w => by
        by_cases e : q = dp + z
        · exact h1 ⟨w.1, e⟩
        · exact h2 ⟨w.1, w.2.1, by omega⟩)]
theorem cp_none (M : MM) (a b : Nat) (sp dp : Int) : cpM M a b sp dp 0 = M := by
  funext i q
  unfold cpM
  rw [if_neg (by omega)]
theorem c_X10_in {E : EV} {M : MM} {z l u : Int} (hz : R64 z) (hl : R64 l) (hu : R64 u) : Cm E mX10_in 0 [vl z, vl l, vl u] M (bi (decide (l ≤ z ∧ z ≤ u))) M := by
  refine Ct.of [some (vl z), none, some (vl l), none, some (vl u), none] rfl rfl rfl (Nat.le_of_ble_eq_true rfl) ?_
  refine w_lload_n dX10_in_0 rfl ?_
  refine w_lload_n dX10_in_1 rfl ?_
  refine w_lcmp dX10_in_2 (by omega) (by omega) ?_
  refine w_ifL_lt (tgt := 17) dX10_in_3 (by decide) (fun h3 => ?_) (fun h3 => ?_)
  · refine w_iconst dX10_in_17 ?_
    refine w_zret (b := false) dX10_in_18 rfl ?_ ⟨Nat.le_refl _, Nat.le_refl _⟩
    exact (q_b (decide_eq_false (by omega)).symm)
  · refine w_lload_n dX10_in_6 rfl ?_
    refine w_lload dX10_in_7 rfl ?_
    refine w_lcmp dX10_in_9 (by omega) (by omega) ?_
    refine w_ifL_gt (tgt := 17) dX10_in_10 (by decide) (fun h10 => ?_) (fun h10 => ?_)
    · refine w_iconst dX10_in_17 ?_
      refine w_zret (b := false) dX10_in_18 rfl ?_ ⟨Nat.le_refl _, Nat.le_refl _⟩
      exact (q_b (decide_eq_false (by omega)).symm)
    · refine w_iconst dX10_in_13 ?_
      refine w_goto (tgt := 18) dX10_in_14 (by decide) ?_
      refine w_zret (b := true) dX10_in_18 rfl ?_ ⟨Nat.le_refl _, Nat.le_refl _⟩
      exact (q_b (decide_eq_true (by omega)).symm)
theorem c_X10_finds {E : EV} {M : MM} {z : Int} (hz : 0 ≤ z ∧ z ≤ 100) : Cm E mX10_finds 0 [vr 238, vi z] M (-1000010 - z) (upM M 238 4 z) := by
  refine Ct.of [some (vr 238), some (vi z)] rfl rfl rfl (Nat.le_of_ble_eq_true rfl) ?_
  refine w_aload_n dX10_finds_0 rfl ?_
  refine w_iload_n dX10_finds_1 rfl ?_
  refine r_putI (q := 4) dX10_finds_2 fl10_43 g0_238 (by decide) rfl (by decide) (by omega) rfl (by decide +kernel) rfl ?_
  refine w_ldc dX10_finds_5 co10_47 ?_
  refine w_iload_n dX10_finds_7 rfl ?_
  refine w_isub dX10_finds_8 ?_
  refine w_iret dX10_finds_9 rfl (by omega) ?_ ⟨Nat.le_refl _, Nat.le_refl _⟩
  exact ⟨rfl, rfl, rfl, rfl⟩
theorem c_X10_well {E : EV} {M : MM} {z : Int} (hz : R32 z) : Cm E mX10_well 0 [vr 238, vi z] M z (upM M 238 4 0) := by
  refine Ct.of [some (vr 238), some (vi z)] rfl rfl rfl (Nat.le_of_ble_eq_true rfl) ?_
  refine w_aload_n dX10_well_0 rfl ?_
  refine w_iconst dX10_well_1 ?_
  refine r_putI (q := 4) dX10_well_2 fl10_43 g0_238 (by decide) rfl (by decide) (by omega) rfl (by decide +kernel) rfl ?_
  refine w_iload_n dX10_well_5 rfl ?_
  refine w_iret dX10_well_6 rfl (by omega) ?_ ⟨Nat.le_refl _, Nat.le_refl _⟩
  exact ⟨rfl, rfl, rfl, rfl⟩
theorem c_X10_isRow {E : EV} {M : MM} {z : Int} (hz : R32 z) : Cm E mX10_isRow 1 [vi z] M (bi (decide (0 ≤ z ∧ z ≤ 7))) M := by
  refine Ct.of [some (vi z)] rfl rfl rfl (Nat.le_of_ble_eq_true rfl) ?_
  refine w_iload_n dX10_isRow_0 rfl ?_
  refine w_i2l dX10_isRow_1 (by omega) ?_
  refine w_lconst0 dX10_isRow_2 ?_
  refine w_ldc2 dX10_isRow_3 cl10_48 ?_
  refine cSm dX10_isRow_6 ok_X10_in (Or.inl ls10_50) (c_X10_in (by omega) (by omega) (by omega)) rfl  rfl (by decide) (Nat.le_of_ble_eq_true rfl) (fun r6 => ?_)
  refine w_zret dX10_isRow_9 rfl ?_ ⟨Nat.le_refl _, Nat.le_refl _⟩
  exact ⟨rfl, rfl, rfl, rfl⟩
theorem c_X10_isField {E : EV} {M : MM} {z : Int} (hz : R32 z) : Cm E mX10_isField 1 [vi z] M (bi (decide (0 ≤ z ∧ z ≤ 15))) M := by
  refine Ct.of [some (vi z)] rfl rfl rfl (Nat.le_of_ble_eq_true rfl) ?_
  refine w_iload_n dX10_isField_0 rfl ?_
  refine w_i2l dX10_isField_1 (by omega) ?_
  refine w_lconst0 dX10_isField_2 ?_
  refine w_ldc2 dX10_isField_3 cl10_124 ?_
  refine cSm dX10_isField_6 ok_X10_in (Or.inl ls10_50) (c_X10_in (by omega) (by omega) (by omega)) rfl  rfl (by decide) (Nat.le_of_ble_eq_true rfl) (fun r6 => ?_)
  refine w_zret dX10_isField_9 rfl ?_ ⟨Nat.le_refl _, Nat.le_refl _⟩
  exact ⟨rfl, rfl, rfl, rfl⟩
theorem c_X10_isCloud {E : EV} {M : MM} {z : Int} (hz : R32 z) (hn : 0 ≤ M 243 0 ∧ M 243 0 ≤ 5) : Cm E mX10_isCloud 1 [vr 238, vi z] M (bi (decide (0 ≤ z ∧ z ≤ M 243 0 - 1))) M := by
  refine Ct.of [some (vr 238), some (vi z)] rfl rfl rfl (Nat.le_of_ble_eq_true rfl) ?_
  refine w_iload_n dX10_isCloud_0 rfl ?_
  refine w_i2l dX10_isCloud_1 (by omega) ?_
  refine w_lconst0 dX10_isCloud_2 ?_
  refine w_aload_n dX10_isCloud_3 rfl ?_
  refine w_getR (r := 243) dX10_isCloud_4 fl10_22 g0_238 (by decide) rfl ?_
  refine w_iconst dX10_isCloud_7 ?_
  refine r_ild dX10_isCloud_8 g0_243 (by decide) (by omega) (by omega) (by decide) (fun r8 => ?_)
  refine w_iconst dX10_isCloud_9 ?_
  refine w_isub dX10_isCloud_10 ?_
  refine w_i2l dX10_isCloud_11 (by omega) ?_
  refine cSm dX10_isCloud_12 ok_X10_in (Or.inl ls10_50) (c_X10_in (by omega) (by omega) (by omega)) rfl  rfl (by decide) (Nat.le_of_ble_eq_true rfl) (fun r12 => ?_)
  refine w_zret dX10_isCloud_15 rfl ?_ ⟨Nat.le_refl _, Nat.le_refl _⟩
  exact ⟨rfl, rfl, rfl, rfl⟩
theorem c_X10_isPart {E : EV} {M : MM} {r i n : Int} (h0 : 0 ≤ r) (h1 : r < 8) (hi : R32 i) (hn : R32 n) : Cm E mX10_isPart 0 [vr 238, vi r, vi i, vi n] M (bi (decide (0 ≤ i ∧ 0 ≤ n ∧ i + n ≤ M 240 r))) M := by
  refine Ct.of [some (vr 238), some (vi r), some (vi i), some (vi n)] rfl rfl rfl (Nat.le_of_ble_eq_true rfl) ?_
  refine w_iload_n dX10_isPart_0 rfl ?_
  refine w_if_lt (tgt := 28) dX10_isPart_1 (by decide) (by omega) (fun h1 => ?_) (fun h1 => ?_)
  · refine w_iconst dX10_isPart_28 ?_
    refine w_zret (b := false) dX10_isPart_29 rfl ?_ ⟨Nat.le_refl _, Nat.le_refl _⟩
    exact (q_b (decide_eq_false (by omega)).symm)
  · refine w_iload_n dX10_isPart_4 rfl ?_
    refine w_if_lt (tgt := 28) dX10_isPart_5 (by decide) (by omega) (fun h5 => ?_) (fun h5 => ?_)
    · refine w_iconst dX10_isPart_28 ?_
      refine w_zret (b := false) dX10_isPart_29 rfl ?_ ⟨Nat.le_refl _, Nat.le_refl _⟩
      exact (q_b (decide_eq_false (by omega)).symm)
    · refine w_iload_n dX10_isPart_8 rfl ?_
      refine w_i2l dX10_isPart_9 (by omega) ?_
      refine w_iload_n dX10_isPart_10 rfl ?_
      refine w_i2l dX10_isPart_11 (by omega) ?_
      refine w_ladd dX10_isPart_12 ?_
      refine w_aload_n dX10_isPart_13 rfl ?_
      refine w_getR (r := 240) dX10_isPart_14 fl10_13 g0_238 (by decide) rfl ?_
      refine w_iload_n dX10_isPart_17 rfl ?_
      refine r_ild dX10_isPart_18 g0_240 (by decide) (by omega) (by omega) (by decide) (fun r18 => ?_)
      refine w_i2l dX10_isPart_19 (by omega) ?_
      refine w_lcmp dX10_isPart_20 (by omega) (by omega) ?_
      refine w_ifL_gt (tgt := 28) dX10_isPart_21 (by decide) (fun h21 => ?_) (fun h21 => ?_)
      · refine w_iconst dX10_isPart_28 ?_
        refine w_zret (b := false) dX10_isPart_29 rfl ?_ ⟨Nat.le_refl _, Nat.le_refl _⟩
        exact (q_b (decide_eq_false (by omega)).symm)
      · refine w_iconst dX10_isPart_24 ?_
        refine w_goto (tgt := 29) dX10_isPart_25 (by decide) ?_
        refine w_zret (b := true) dX10_isPart_29 rfl ?_ ⟨Nat.le_refl _, Nat.le_refl _⟩
        exact (q_b (decide_eq_true (by omega)).symm)
theorem c_X10_partOf {E : EV} {M : MM} {r i n : Int} (h0 : 0 ≤ r) (h1 : r < 8) (hi : R32 i) (hn : R32 n) : Cm E mX10_partOf 1 [vr 238, vi r, vi i, vi n] M (if M 239 r < 0 then 1 else if 0 ≤ i ∧ 0 ≤ n ∧ i + n ≤ M 240 r then 0 else 2) M := by
  refine Ct.of [some (vr 238), some (vi r), some (vi i), some (vi n)] rfl rfl rfl (Nat.le_of_ble_eq_true rfl) ?_
  refine w_aload_n dX10_partOf_0 rfl ?_
  refine w_getR (r := 239) dX10_partOf_1 fl10_7 g0_238 (by decide) rfl ?_
  refine w_iload_n dX10_partOf_4 rfl ?_
  refine r_ild dX10_partOf_5 g0_239 (by decide) (by omega) (by omega) (by decide) (fun r5 => ?_)
  refine w_if_ge (tgt := 13) dX10_partOf_6 (by decide) (by omega) (fun h6 => ?_) (fun h6 => ?_)
  · refine w_aload_n dX10_partOf_13 rfl ?_
    refine w_iload_n dX10_partOf_14 rfl ?_
    refine w_iload_n dX10_partOf_15 rfl ?_
    refine w_iload_n dX10_partOf_16 rfl ?_
    refine cVm dX10_partOf_17 ok_X10_isPart lv10_68 (c_X10_isPart (by omega) (by omega) (by omega) (by omega)) rfl (congrArg Prod.fst g0_238) (by decide) (by decide) rfl (by decide) (Nat.le_of_ble_eq_true rfl) (fun r17 => ?_)
    refine w_ifB_eq (tgt := 27) dX10_partOf_20 (by decide) (fun h20 => ?_) (fun h20 => ?_)
    · have h20 := of_decide_eq_false h20
      refine w_iconst dX10_partOf_27 ?_
      refine w_iret dX10_partOf_28 rfl (by omega) ?_ ⟨Nat.le_refl _, Nat.le_refl _⟩
      first | exact q_i (by rw [if_pos (by omega)]) | exact q_i (by rw [if_neg (by omega), if_pos (by omega)]) | exact q_i (by rw [if_neg (by omega), if_neg (by omega)])
    · have h20 := of_decide_eq_true h20
      refine w_iconst dX10_partOf_23 ?_
      refine w_goto (tgt := 28) dX10_partOf_24 (by decide) ?_
      refine w_iret dX10_partOf_28 rfl (by omega) ?_ ⟨Nat.le_refl _, Nat.le_refl _⟩
      first | exact q_i (by rw [if_pos (by omega)]) | exact q_i (by rw [if_neg (by omega), if_pos (by omega)]) | exact q_i (by rw [if_neg (by omega), if_neg (by omega)])
  · refine w_iconst dX10_partOf_9 ?_
    refine w_goto (tgt := 28) dX10_partOf_10 (by decide) ?_
    refine w_iret dX10_partOf_28 rfl (by omega) ?_ ⟨Nat.le_refl _, Nat.le_refl _⟩
    first | exact q_i (by rw [if_pos (by omega)]) | exact q_i (by rw [if_neg (by omega), if_pos (by omega)]) | exact q_i (by rw [if_neg (by omega), if_neg (by omega)])
theorem c_X10_of {E : EV} {M : MM} {c w q : Int} (hq : 4 + 5 * c + w = q) (q0 : 0 ≤ q) (q1 : q < 45) : Cm E mX10_of 0 [vr 238, vi c, vi w] M (M 243 q) M := by
  refine Ct.of [some (vr 238), some (vi c), some (vi w)] rfl rfl rfl (Nat.le_of_ble_eq_true rfl) ?_
  refine w_aload_n dX10_of_0 rfl ?_
  refine w_getR (r := 243) dX10_of_1 fl10_22 g0_238 (by decide) rfl ?_
  refine w_iconst dX10_of_4 ?_
  refine w_iconst dX10_of_5 ?_
  refine w_iload_n dX10_of_6 rfl ?_
  refine w_imul dX10_of_7 ?_
  refine w_iadd dX10_of_8 ?_
  refine w_iload_n dX10_of_9 rfl ?_
  refine w_iadd dX10_of_10 ?_
  refine r_ildq (q := q) dX10_of_11 g0_243 (by decide) (by omega) (by omega) (by omega) (by decide) (fun r11 => ?_)
  refine w_iret dX10_of_12 rfl (by omega) ?_ ⟨Nat.le_refl _, Nat.le_refl _⟩
  exact ⟨rfl, rfl, rfl, rfl⟩
theorem c_X10_isGone {E : EV} {M : MM} {c : Int} (h0 : 0 ≤ c) (h1 : c < 5) : Cm E mX10_isGone 1 [vr 238, vi c] M (bi (decide (M 243 (7 + 5 * c) = 0))) M := by
  refine Ct.of [some (vr 238), some (vi c)] rfl rfl rfl (Nat.le_of_ble_eq_true rfl) ?_
  refine w_aload_n dX10_isGone_0 rfl ?_
  refine w_iload_n dX10_isGone_1 rfl ?_
  refine w_iconst dX10_isGone_2 ?_
  refine cVm dX10_isGone_3 ok_X10_of lv10_126 (c_X10_of (q := 7 + 5 * c) (by omega) (by omega) (by omega)) rfl (congrArg Prod.fst g0_238) (by decide) (by decide) rfl (by decide) (Nat.le_of_ble_eq_true rfl) (fun r3 => ?_)
  refine w_if_ne (tgt := 13) dX10_isGone_6 (by decide) (by omega) (fun h6 => ?_) (fun h6 => ?_)
  · refine w_iconst dX10_isGone_13 ?_
    refine w_zret (b := false) dX10_isGone_14 rfl ?_ ⟨Nat.le_refl _, Nat.le_refl _⟩
    exact (q_b (decide_eq_false (by omega)).symm)
  · refine w_iconst dX10_isGone_9 ?_
    refine w_goto (tgt := 14) dX10_isGone_10 (by decide) ?_
    refine w_zret (b := true) dX10_isGone_14 rfl ?_ ⟨Nat.le_refl _, Nat.le_refl _⟩
    exact (q_b (decide_eq_true (by omega)).symm)
theorem c_X10_rains {E : EV} {M : MM} {c d : Int} (h0 : 0 ≤ c) (h1 : c < 5) (hk : 1 ≤ M 243 (4 + 5 * c) ∧ M 243 (4 + 5 * c) ≤ 5) (hd : 0 ≤ d ∧ d ≤ 100000) : Cm E mX10_rains 1 [vr 238, vi c, vi d] M (rainF (M 243 (4 + 5 * c)) d) M := by
  refine Ct.of [some (vr 238), some (vi c), some (vi d), none] rfl rfl rfl (Nat.le_of_ble_eq_true rfl) ?_
  refine w_aload_n dX10_rains_0 rfl ?_
  refine w_iload_n dX10_rains_1 rfl ?_
  refine w_iconst dX10_rains_2 ?_
  refine cVm dX10_rains_3 ok_X10_of lv10_126 (c_X10_of (q := 4 + 5 * c) (by omega) (by omega) (by omega)) rfl (congrArg Prod.fst g0_238) (by decide) (by decide) rfl (by decide) (Nat.le_of_ble_eq_true rfl) (fun r3 => ?_)
  refine w_istore_n dX10_rains_6 (by decide) ?_
  refine w_iload_n dX10_rains_7 rfl ?_
  refine w_iconst dX10_rains_8 ?_
  refine w_icmp_ne (tgt := 16) dX10_rains_9 (by decide) (by omega) (by omega) (fun h9 => ?_) (fun h9 => ?_)
  · refine w_iload_n dX10_rains_16 rfl ?_
    refine w_iconst dX10_rains_17 ?_
    refine w_icmp_eq (tgt := 32) dX10_rains_18 (by decide) (by omega) (by omega) (fun h18 => ?_) (fun h18 => ?_)
    · refine w_iconst dX10_rains_32 ?_
      refine w_goto (tgt := 37) dX10_rains_33 (by decide) ?_
      refine w_iret dX10_rains_37 rfl (by omega) ?_ ⟨Nat.le_refl _, Nat.le_refl _⟩
      exact (q_i (by unfold rainF; (repeat' split) <;> omega))
    · refine w_iload_n dX10_rains_21 rfl ?_
      refine w_iconst dX10_rains_22 ?_
      refine w_icmp_ne (tgt := 36) dX10_rains_23 (by decide) (by omega) (by omega) (fun h23 => ?_) (fun h23 => ?_)
      · refine w_iconst dX10_rains_36 ?_
        refine w_iret dX10_rains_37 rfl (by omega) ?_ ⟨Nat.le_refl _, Nat.le_refl _⟩
        exact (q_i (by unfold rainF; (repeat' split) <;> omega))
      · refine w_iload_n dX10_rains_26 rfl ?_
        refine w_iconst dX10_rains_27 ?_
        refine w_irem dX10_rains_28 (by omega) (by omega) (by omega) (by omega) ?_
        refine w_if_ne (tgt := 36) dX10_rains_29 (by decide) (by omega) (fun h29 => ?_) (fun h29 => ?_)
        · refine w_iconst dX10_rains_36 ?_
          refine w_iret dX10_rains_37 rfl (by omega) ?_ ⟨Nat.le_refl _, Nat.le_refl _⟩
          exact (q_i (by unfold rainF; (repeat' split) <;> omega))
        · refine w_iconst dX10_rains_32 ?_
          refine w_goto (tgt := 37) dX10_rains_33 (by decide) ?_
          refine w_iret dX10_rains_37 rfl (by omega) ?_ ⟨Nat.le_refl _, Nat.le_refl _⟩
          exact (q_i (by unfold rainF; (repeat' split) <;> omega))
  · refine w_iconst dX10_rains_12 ?_
    refine w_goto (tgt := 37) dX10_rains_13 (by decide) ?_
    refine w_iret dX10_rains_37 rfl (by omega) ?_ ⟨Nat.le_refl _, Nat.le_refl _⟩
    exact (q_i (by unfold rainF; (repeat' split) <;> omega))
theorem span_step : ∀ p : Nat, p < 16 → ∀ k : Nat, k < 8 → spanF (p : Int) ((k + 1 : Nat) : Int) = (spanF (p : Int) (k : Int) ||| 2 ^ ((p + k) % 16)) := by decide +kernel
theorem span_0 : ∀ p : Nat, p < 16 → spanF (p : Int) 0 = 0 := by decide +kernel
theorem l_X10_fields {E : EV} {M : MM} {c : Int} {p : Nat} (h0 : 0 ≤ c) (h1 : c < 5) (hp : M 243 (5 + 5 * c) = (p : Int)) (hp2 : p < 16) (hw : 0 ≤ M 243 (6 + 5 * c) ∧ M 243 (6 + 5 * c) ≤ 8) :
    ∀ (k j : Nat) (z s : Int), z = j → s = ((spanF (p : Int) (j : Int) : Nat) : Int) → (j : Int) ≤ M 243 (6 + 5 * c) → (M 243 (6 + 5 * c)).toNat - j < k → (M 243 (7 + 5 * c) = 0 → j = 0) → Wp E mX10_fields (kd 2) 4 [some (vr 238), some (vi c), some (vi s), some (vi z)] [] N0 G0 M (Pm ((shF (M 243) c : Nat) : Int) M) := by
  intro k
  induction k with
  | zero => intro j z s hz hs hj hk; exact absurd hk (by omega)
  | succ k ih =>
    intro j z s hz hs hj hk hg
    subst hz
    subst hs
    have hsl := spanF_lt (p : Int) (j : Int)
    have finA : M 243 (7 + 5 * c) = 0 → ((spanF (p : Int) (j : Int) : Nat) : Int) = ((shF (M 243) c : Nat) : Int) := fun h => by
      have e0 : j = 0 := hg h
      subst e0
      unfold shF shadeF
      rw [if_pos h, show ((0 : Nat) : Int) = 0 from rfl, span_0 p hp2]
      rfl
    have finB : M 243 (6 + 5 * c) = (j : Int) → ((spanF (p : Int) (j : Int) : Nat) : Int) = ((shF (M 243) c : Nat) : Int) := fun h => by
      by_cases e : M 243 (7 + 5 * c) = 0
      · exact finA e
      · unfold shF shadeF
        rw [if_neg e, hp, h]
    refine w_iload_n dX10_fields_4 rfl ?_
    refine w_aload_n dX10_fields_5 rfl ?_
    refine w_iload_n dX10_fields_6 rfl ?_
    refine w_iconst dX10_fields_7 ?_
    refine cVm dX10_fields_8 ok_X10_of lv10_126 (c_X10_of (q := 6 + 5 * c) (by omega) (by omega) (by omega)) rfl (congrArg Prod.fst g0_238) (by decide) (by decide) rfl (by decide) (Nat.le_of_ble_eq_true rfl) (fun r8 => ?_)
    refine w_icmp_ge (tgt := 44) dX10_fields_11 (by decide) (by omega) (by omega) (fun h11 => ?_) (fun h11 => ?_)
    · try have h19 := of_decide_eq_true h19
      refine w_iload_n dX10_fields_44 rfl ?_
      refine w_iret dX10_fields_45 rfl (by omega) ?_ ⟨Nat.le_refl _, Nat.le_refl _⟩
      first | exact q_i (finA h19) | exact q_i (finB (by omega))
    · refine w_aload_n dX10_fields_14 rfl ?_
      refine w_iload_n dX10_fields_15 rfl ?_
      refine cVm dX10_fields_16 ok_X10_isGone lv10_129 (c_X10_isGone (by omega) (by omega)) rfl (congrArg Prod.fst g0_238) (by decide) (by decide) rfl (by decide) (Nat.le_of_ble_eq_true rfl) (fun r16 => ?_)
      refine w_ifB_ne (tgt := 44) dX10_fields_19 (by decide) (fun h19 => ?_) (fun h19 => ?_)
      · try have h19 := of_decide_eq_true h19
        refine w_iload_n dX10_fields_44 rfl ?_
        refine w_iret dX10_fields_45 rfl (by omega) ?_ ⟨Nat.le_refl _, Nat.le_refl _⟩
        first | exact q_i (finA h19) | exact q_i (finB (by omega))
      · have h19 := of_decide_eq_false h19
        refine w_iload_n dX10_fields_22 rfl ?_
        refine w_iconst dX10_fields_23 ?_
        refine w_aload_n dX10_fields_24 rfl ?_
        refine w_iload_n dX10_fields_25 rfl ?_
        refine w_iconst dX10_fields_26 ?_
        refine cVm dX10_fields_27 ok_X10_of lv10_126 (c_X10_of (q := 5 + 5 * c) (by omega) (by omega) (by omega)) rfl (congrArg Prod.fst g0_238) (by decide) (by decide) rfl (by decide) (Nat.le_of_ble_eq_true rfl) (fun r27 => ?_)
        rw [hp]
        refine w_iload_n dX10_fields_30 rfl ?_
        refine w_iadd dX10_fields_31 ?_
        refine w_bipush dX10_fields_32 (by decide +kernel) ?_
        refine w_irem dX10_fields_34 (by omega) (by omega) (by omega) (by omega) ?_
        refine w_ibin (r := ((2 ^ ((p + j) % 16) : Nat) : Int)) dX10_fields_35 (Or.inr <| Or.inr <| Or.inr <| Or.inl ⟨rfl, by rw [show ((p : Int) + (j : Int)) % 16 = (((p + j) % 16 : Nat) : Int) by omega]; exact b_1shlN (by omega)⟩) ?_
        refine w_ibin (r := ((spanF (p : Int) (j : Int) ||| 2 ^ ((p + j) % 16) : Nat) : Int)) dX10_fields_36 (Or.inr <| Or.inl ⟨rfl, b_or _ _⟩) ?_
        refine w_istore_n dX10_fields_37 (by decide) ?_
        refine w_iinc dX10_fields_38 rfl (by decide) ?_
        refine w_goto (tgt := 4) dX10_fields_41 (by decide) ?_
        exact ih (j + 1) _ _ (by omega) (by rw [span_step p hp2 j (by omega)]) (by omega) (by omega) (fun h => absurd h h19)
theorem c_X10_fields {E : EV} {M : MM} {c : Int} (h0 : 0 ≤ c) (h1 : c < 5) (hp : 0 ≤ M 243 (5 + 5 * c) ∧ M 243 (5 + 5 * c) ≤ 15) (hw : 0 ≤ M 243 (6 + 5 * c) ∧ M 243 (6 + 5 * c) ≤ 8) : Cm E mX10_fields 2 [vr 238, vi c] M ((shF (M 243) c : Nat) : Int) M := by
  refine Ct.of [some (vr 238), some (vi c), none, none] rfl rfl rfl (Nat.le_of_ble_eq_true rfl) ?_
  refine w_iconst dX10_fields_0 ?_
  refine w_istore_n dX10_fields_1 (by decide) ?_
  refine w_iconst dX10_fields_2 ?_
  refine w_istore_n dX10_fields_3 (by decide) ?_
  exact l_X10_fields (p := (M 243 (5 + 5 * c)).toNat) h0 h1 (by omega) (by omega) hw ((M 243 (6 + 5 * c)).toNat + 1) 0 _ _ rfl (by rw [show ((0 : Nat) : Int) = 0 from rfl, span_0 _ (by omega)]; rfl) (by omega) (by omega) (fun _ => rfl)
theorem l_X10_clouds {E : EV} {M : MM} {B : Int} {f : Nat} (hO : SOK B (M 243)) (hf : f < 16) :
    ∀ (k : Nat) (c : Nat) (z s : Int), z = c → s = ((setN c (fun c => (shF (M 243) (c : Int)).testBit f) : Nat) : Int) → (c : Int) ≤ M 243 0 → (M 243 0).toNat - c < k → Wp E mX10_clouds (kd 3) 4 [some (vr 238), some (vi (f : Int)), some (vi s), some (vi z)] [] N0 G0 M (Pm ((overF (M 243) f : Nat) : Int) M) := by
  intro k
  induction k with
  | zero => intro c z s hz hs hc hk; exact absurd hk (by omega)
  | succ k ih =>
    intro c z s hz hs hc hk
    subst hz
    subst hs
    have hn := hO.1
    have hr := setN_r (P := fun c => (shF (M 243) (c : Int)).testBit f) (n := c) (by omega)
    have hsh := shF_lt (M 243) (c : Int)
    have hp5 : 2 ^ c ≤ 2 ^ 5 := Nat.pow_le_pow_right (by decide) (by omega)
    have hb := b_bit (shF (M 243) (c : Int)) f
    have em : ((shF (M 243) (c : Int) / 2 ^ f : Nat) : Int) % 2 = ((shF (M 243) (c : Int) / 2 ^ f % 2 : Nat) : Int) := by omega
    have hx : (shF (M 243) (c : Int) / 2 ^ f % 2) * 2 ^ c ≤ 2 ^ 5 := by
      have : shF (M 243) (c : Int) / 2 ^ f % 2 ≤ 1 := by omega
      calc _ ≤ 1 * 2 ^ c := Nat.mul_le_mul_right _ this
        _ ≤ 2 ^ 5 := by omega
    have key : setN (c + 1) (fun c => (shF (M 243) (c : Int)).testBit f) = (setN c (fun c => (shF (M 243) (c : Int)).testBit f) ||| (shF (M 243) (c : Int) / 2 ^ f % 2) * 2 ^ c) := by
      rw [hb]
      by_cases q : (shF (M 243) (c : Int)).testBit f = true
      · rw [setN_t (P := fun c => (shF (M 243) (c : Int)).testBit f) q, if_pos q, Nat.one_mul]
      · rw [setN_f (P := fun c => (shF (M 243) (c : Int)).testBit f) (Bool.eq_false_iff.mpr q), if_neg q, Nat.zero_mul, Nat.or_zero]
    refine w_iload_n dX10_clouds_4 rfl ?_
    refine w_aload_n dX10_clouds_5 rfl ?_
    refine w_getR (r := 243) dX10_clouds_6 fl10_22 g0_238 (by decide) rfl ?_
    refine w_iconst dX10_clouds_9 ?_
    refine r_ild dX10_clouds_10 g0_243 (by decide) (by omega) (by omega) (by decide) (fun r10 => ?_)
    refine w_icmp_ge (tgt := 34) dX10_clouds_11 (by decide) (by omega) (by omega) (fun hc => ?_) (fun hc => ?_)
    · have ec : (M 243 0).toNat = c := by omega
      refine w_iload_n dX10_clouds_34 rfl ?_
      refine w_iret dX10_clouds_35 rfl (by omega) ?_ ⟨Nat.le_refl _, Nat.le_refl _⟩
      exact (q_i (by unfold overF; rw [ec]))
    · have hcl := hO.cl (c := (c : Int)) (by omega) (by omega)
      refine w_iload_n dX10_clouds_14 rfl ?_
      refine w_aload_n dX10_clouds_15 rfl ?_
      refine w_iload_n dX10_clouds_16 rfl ?_
      refine cVm dX10_clouds_17 ok_X10_fields lv10_132 (c_X10_fields (by omega) (by omega) (by omega) (by omega)) rfl (congrArg Prod.fst g0_238) (by decide) (by decide) rfl (by decide) (Nat.le_of_ble_eq_true rfl) (fun r17 => ?_)
      refine w_iload_n dX10_clouds_20 rfl ?_
      refine w_ibin (r := ((shF (M 243) (c : Int) / 2 ^ f : Nat) : Int)) dX10_clouds_21 (Or.inr <| Or.inr <| Or.inr <| Or.inr <| Or.inl ⟨rfl, b_shr (by omega) (by omega)⟩) ?_
      refine w_iconst dX10_clouds_22 ?_
      refine w_ibin (r := ((shF (M 243) (c : Int) / 2 ^ f % 2 : Nat) : Int)) dX10_clouds_23 (Or.inl ⟨rfl, by rw [← em]; exact b_m1 _⟩) ?_
      refine w_iload_n dX10_clouds_24 rfl ?_
      refine w_ibin (r := (((shF (M 243) (c : Int) / 2 ^ f % 2) * 2 ^ c : Nat) : Int)) dX10_clouds_25 (Or.inr <| Or.inr <| Or.inr <| Or.inl ⟨rfl, b_shl _ (by omega) (by omega)⟩) ?_
      refine w_ibin (r := ((setN c (fun c => (shF (M 243) (c : Int)).testBit f) ||| (shF (M 243) (c : Int) / 2 ^ f % 2) * 2 ^ c : Nat) : Int)) dX10_clouds_26 (Or.inr <| Or.inl ⟨rfl, b_or _ _⟩) ?_
      refine w_istore_n dX10_clouds_27 (by decide) ?_
      refine w_iinc dX10_clouds_28 rfl (by decide) ?_
      refine w_goto (tgt := 4) dX10_clouds_31 (by decide) ?_
      exact ih (c + 1) _ _ (by omega) (by rw [key]) (by omega) (by omega)
theorem c_X10_clouds {E : EV} {M : MM} {B f : Int} (hO : SOK B (M 243)) (f0 : 0 ≤ f) (f1 : f ≤ 15) : Cm E mX10_clouds 3 [vr 238, vi f] M ((overF (M 243) f.toNat : Nat) : Int) M := by
  refine Ct.of [some (vr 238), some (vi f), none, none] rfl rfl rfl (Nat.le_of_ble_eq_true rfl) ?_
  have hn := hO.1
  obtain ⟨g, rfl⟩ : ∃ g : Nat, f = g := ⟨f.toNat, by omega⟩
  refine w_iconst dX10_clouds_0 ?_
  refine w_istore_n dX10_clouds_1 (by decide) ?_
  refine w_iconst dX10_clouds_2 ?_
  refine w_istore_n dX10_clouds_3 (by decide) ?_
  exact l_X10_clouds hO (by omega) ((M 243 0).toNat + 1) 0 _ _ rfl rfl (by omega) (by omega)
theorem l_X10_notGone {E : EV} {M : MM} {B : Int} (hO : SOK B (M 243)) :
    ∀ (k : Nat) (c : Nat) (z s : Int), z = c → s = ((setN c (fun c => decide (M 243 (7 + 5 * (c : Int)) ≠ 0)) : Nat) : Int) → (c : Int) ≤ M 243 0 → (M 243 0).toNat - c < k → Wp E mX10_notGone (kd 2) 4 [some (vr 238), some (vi s), some (vi z)] [] N0 G0 M (Pm ((aliveF (M 243) : Nat) : Int) M) := by
  intro k
  induction k with
  | zero => intro c z s hz hs hc hk; exact absurd hk (by omega)
  | succ k ih =>
    intro c z s hz hs hc hk
    subst hz
    subst hs
    have hn := hO.1
    have hr := setN_r (P := fun c => decide (M 243 (7 + 5 * (c : Int)) ≠ 0)) (n := c) (by omega)
    refine w_iload_n dX10_notGone_4 rfl ?_
    refine w_aload_n dX10_notGone_5 rfl ?_
    refine w_getR (r := 243) dX10_notGone_6 fl10_22 g0_238 (by decide) rfl ?_
    refine w_iconst dX10_notGone_9 ?_
    refine r_ild dX10_notGone_10 g0_243 (by decide) (by omega) (by omega) (by decide) (fun r10 => ?_)
    refine w_icmp_ge (tgt := 38) dX10_notGone_11 (by decide) (by omega) (by omega) (fun hc => ?_) (fun hc => ?_)
    · have ec : (M 243 0).toNat = c := by omega
      refine w_iload_n dX10_notGone_38 rfl ?_
      refine w_iret dX10_notGone_39 rfl (by omega) ?_ ⟨Nat.le_refl _, Nat.le_refl _⟩
      exact (q_i (by unfold aliveF; rw [ec]))
    · refine w_iload_n dX10_notGone_14 rfl ?_
      refine w_aload_n dX10_notGone_15 rfl ?_
      refine w_iload_n dX10_notGone_16 rfl ?_
      refine cVm dX10_notGone_17 ok_X10_isGone lv10_129 (c_X10_isGone (by omega) (by omega)) rfl (congrArg Prod.fst g0_238) (by decide) (by decide) rfl (by decide) (Nat.le_of_ble_eq_true rfl) (fun r17 => ?_)
      refine w_ifB_eq (tgt := 27) dX10_notGone_20 (by decide) (fun h20 => ?_) (fun h20 => ?_)
      · refine w_iconst dX10_notGone_27 ?_
        refine w_iload_n dX10_notGone_28 rfl ?_
        refine w_ibin (r := ((2 ^ c : Nat) : Int)) dX10_notGone_29 (Or.inr <| Or.inr <| Or.inr <| Or.inl ⟨rfl, b_1shlN (by omega)⟩) ?_
        first | (refine w_ibin (r := ((setN c (fun c => decide (M 243 (7 + 5 * (c : Int)) ≠ 0)) ||| 0 : Nat) : Int)) dX10_notGone_30 (Or.inr <| Or.inl ⟨rfl, b_or _ 0⟩) ?_; refine w_istore_n dX10_notGone_31 (by decide) ?_; refine w_iinc dX10_notGone_32 rfl (by decide) ?_; refine w_goto (tgt := 4) dX10_notGone_35 (by decide) ?_; exact ih (c + 1) _ _ (by omega) (by rw [Nat.or_zero, setN_f (decide_eq_false (fun q => q (of_decide_eq_true h20)))]) (by omega) (by omega)) | (refine w_ibin (r := ((setN c (fun c => decide (M 243 (7 + 5 * (c : Int)) ≠ 0)) ||| 2 ^ c : Nat) : Int)) dX10_notGone_30 (Or.inr <| Or.inl ⟨rfl, b_or _ _⟩) ?_; refine w_istore_n dX10_notGone_31 (by decide) ?_; refine w_iinc dX10_notGone_32 rfl (by decide) ?_; refine w_goto (tgt := 4) dX10_notGone_35 (by decide) ?_; exact ih (c + 1) _ _ (by omega) (by rw [setN_t (decide_eq_true (of_decide_eq_false h20))]) (by omega) (by omega))
      · refine w_iconst dX10_notGone_23 ?_
        refine w_goto (tgt := 30) dX10_notGone_24 (by decide) ?_
        first | (refine w_ibin (r := ((setN c (fun c => decide (M 243 (7 + 5 * (c : Int)) ≠ 0)) ||| 0 : Nat) : Int)) dX10_notGone_30 (Or.inr <| Or.inl ⟨rfl, b_or _ 0⟩) ?_; refine w_istore_n dX10_notGone_31 (by decide) ?_; refine w_iinc dX10_notGone_32 rfl (by decide) ?_; refine w_goto (tgt := 4) dX10_notGone_35 (by decide) ?_; exact ih (c + 1) _ _ (by omega) (by rw [Nat.or_zero, setN_f (decide_eq_false (fun q => q (of_decide_eq_true h20)))]) (by omega) (by omega)) | (refine w_ibin (r := ((setN c (fun c => decide (M 243 (7 + 5 * (c : Int)) ≠ 0)) ||| 2 ^ c : Nat) : Int)) dX10_notGone_30 (Or.inr <| Or.inl ⟨rfl, b_or _ _⟩) ?_; refine w_istore_n dX10_notGone_31 (by decide) ?_; refine w_iinc dX10_notGone_32 rfl (by decide) ?_; refine w_goto (tgt := 4) dX10_notGone_35 (by decide) ?_; exact ih (c + 1) _ _ (by omega) (by rw [setN_t (decide_eq_true (of_decide_eq_false h20))]) (by omega) (by omega))
theorem c_X10_notGone {E : EV} {M : MM} {B : Int} (hO : SOK B (M 243)) : Cm E mX10_notGone 2 [vr 238] M ((aliveF (M 243) : Nat) : Int) M := by
  refine Ct.of [some (vr 238), none, none] rfl rfl rfl (Nat.le_of_ble_eq_true rfl) ?_
  have hn := hO.1
  refine w_iconst dX10_notGone_0 ?_
  refine w_istore_n dX10_notGone_1 (by decide) ?_
  refine w_iconst dX10_notGone_2 ?_
  refine w_istore_n dX10_notGone_3 (by decide) ?_
  exact l_X10_notGone hO ((M 243 0).toNat + 1) 0 _ _ rfl rfl (by omega) (by omega)
theorem l_X10_fell {E : EV} {M : MM} {B : Int} (hO : SOK B (M 243)) (hB : B ≤ 100000) :
    ∀ (k : Nat) (c : Nat) (z s : Int), z = c → s = sumI c (fun f => M 243 (29 + (f : Int))) → c ≤ 16 → 16 - c < k → Wp E mX10_fell (kd 0) 4 [some (vr 238), some (vi s), some (vi z)] [] N0 G0 M (Pm (fellS (M 243)) M) := by
  intro k
  induction k with
  | zero => intro c z s hz hs hc hk; exact absurd hk (by omega)
  | succ k ih =>
    intro c z s hz hs hc hk
    subst hz
    subst hs
    have hle := sumI_le (n := c) (g := fun f => M 243 (29 + (f : Int))) (B := 100000) (fun i hi => by have := hO.2.2.2.2.2 (i : Int) (by omega) (by omega); omega)
    refine w_iload_n dX10_fell_4 rfl ?_
    refine w_bipush dX10_fell_5 (by decide +kernel) ?_
    refine w_icmp_ge (tgt := 28) dX10_fell_7 (by decide) (by omega) (by omega) (fun h7 => ?_) (fun h7 => ?_)
    · have ec : c = 16 := by omega
      subst ec
      refine w_iload_n dX10_fell_28 rfl ?_
      refine w_iret dX10_fell_29 rfl (by omega) ?_ ⟨Nat.le_refl _, Nat.le_refl _⟩
      exact (q_i rfl)
    · refine w_iload_n dX10_fell_10 rfl ?_
      refine w_aload_n dX10_fell_11 rfl ?_
      refine w_getR (r := 243) dX10_fell_12 fl10_22 g0_238 (by decide) rfl ?_
      refine w_bipush dX10_fell_15 (by decide +kernel) ?_
      refine w_iload_n dX10_fell_17 rfl ?_
      refine w_iadd dX10_fell_18 ?_
      refine r_ild dX10_fell_19 g0_243 (by decide) (by omega) (by omega) (by decide) (fun r19 => ?_)
      refine w_iadd dX10_fell_20 ?_
      refine w_istore_n dX10_fell_21 (by decide) ?_
      refine w_iinc dX10_fell_22 rfl (by decide) ?_
      refine w_goto (tgt := 4) dX10_fell_25 (by decide) ?_
      exact ih (c + 1) _ _ (by omega) (by rw [sumI]) (by omega) (by omega)
theorem c_X10_fell {E : EV} {M : MM} {B : Int} (hO : SOK B (M 243)) (hB : B ≤ 100000) : Cm E mX10_fell 0 [vr 238] M (fellS (M 243)) M := by
  refine Ct.of [some (vr 238), none, none] rfl rfl rfl (Nat.le_of_ble_eq_true rfl) ?_
  refine w_iconst dX10_fell_0 ?_
  refine w_istore_n dX10_fell_1 (by decide) ?_
  refine w_iconst dX10_fell_2 ?_
  refine w_istore_n dX10_fell_3 (by decide) ?_
  exact l_X10_fell hO hB 17 0 _ _ rfl rfl (by omega) (by omega)
/-! the reference's copies -/
theorem l_X10_asides {E : EV} {M : MM} :
    ∀ (k c : Nat) (z : Int) (m : MM), z = c → m = cpM M 243 247 0 0 (c : Int) → c ≤ 45 → 45 - c < k → Wp E mX10_asides (kd 0) 2 [some (vr 238), some (vi z)] [] N0 G0 m (Pv (cpM M 243 247 0 0 45)) := by
  intro k
  induction k with
  | zero => intro c z m hz hm hc hk; exact absurd hk (by omega)
  | succ k ih =>
    intro c z m hz hm hc hk
    subst hz
    subst hm
    have er : cpM M 243 247 0 0 (c : Int) 243 (c : Int) = M 243 (0 + (c : Int)) := by rw [cpM_cell (by omega), Int.zero_add]
    refine w_iload_n dX10_asides_2 rfl ?_
    refine w_bipush dX10_asides_3 (by decide +kernel) ?_
    refine w_icmp_ge (tgt := 26) dX10_asides_5 (by decide) (by omega) (by omega) (fun h5 => ?_) (fun h5 => ?_)
    · have ec : c = 45 := by omega
      subst ec
      refine w_vret dX10_asides_26 rfl ?_ ⟨Nat.le_refl _, Nat.le_refl _⟩
      exact (q_v rfl)
    · refine w_aload_n dX10_asides_8 rfl ?_
      refine w_getR (r := 247) dX10_asides_9 fl10_34 g0_238 (by decide) rfl ?_
      refine w_iload_n dX10_asides_12 rfl ?_
      refine w_aload_n dX10_asides_13 rfl ?_
      refine w_getR (r := 243) dX10_asides_14 fl10_22 g0_238 (by decide) rfl ?_
      refine w_iload_n dX10_asides_17 rfl ?_
      refine r_ild dX10_asides_18 g0_243 (by decide) (by omega) (by omega) (by decide) (fun r18 => ?_)
      refine r_ist dX10_asides_19 g0_247 (by decide) (by omega) (by omega) (by omega) (by decide) ?_
      refine w_iinc dX10_asides_20 rfl (by decide) ?_
      refine w_goto (tgt := 2) dX10_asides_23 (by decide) ?_
      exact ih (c + 1) _ _ (by omega) (by rw [er, show ((c + 1 : Nat) : Int) = (c : Int) + 1 by omega, ← cp_step (by decide) (by omega), Int.zero_add]) (by omega) (by omega)
theorem c_X10_asides {E : EV} {M : MM} : Cv E mX10_asides 0 [vr 238] M (cpM M 243 247 0 0 45) := by
  refine Ct.of [some (vr 238), none] rfl rfl rfl (Nat.le_of_ble_eq_true rfl) ?_
  refine w_iconst dX10_asides_0 ?_
  refine w_istore_n dX10_asides_1 (by decide) ?_
  exact l_X10_asides 46 0 _ _ rfl (cp_none _ _ _ _ _).symm (by omega) (by omega)
theorem l_X10_backs {E : EV} {M : MM} :
    ∀ (k c : Nat) (z : Int) (m : MM), z = c → m = cpM M 247 243 0 0 (c : Int) → c ≤ 45 → 45 - c < k → Wp E mX10_backs (kd 0) 2 [some (vr 238), some (vi z)] [] N0 G0 m (Pv (cpM M 247 243 0 0 45)) := by
  intro k
  induction k with
  | zero => intro c z m hz hm hc hk; exact absurd hk (by omega)
  | succ k ih =>
    intro c z m hz hm hc hk
    subst hz
    subst hm
    have er : cpM M 247 243 0 0 (c : Int) 247 (c : Int) = M 247 (0 + (c : Int)) := by rw [cpM_cell (by omega), Int.zero_add]
    refine w_iload_n dX10_backs_2 rfl ?_
    refine w_bipush dX10_backs_3 (by decide +kernel) ?_
    refine w_icmp_ge (tgt := 26) dX10_backs_5 (by decide) (by omega) (by omega) (fun h5 => ?_) (fun h5 => ?_)
    · have ec : c = 45 := by omega
      subst ec
      refine w_vret dX10_backs_26 rfl ?_ ⟨Nat.le_refl _, Nat.le_refl _⟩
      exact (q_v rfl)
    · refine w_aload_n dX10_backs_8 rfl ?_
      refine w_getR (r := 243) dX10_backs_9 fl10_22 g0_238 (by decide) rfl ?_
      refine w_iload_n dX10_backs_12 rfl ?_
      refine w_aload_n dX10_backs_13 rfl ?_
      refine w_getR (r := 247) dX10_backs_14 fl10_34 g0_238 (by decide) rfl ?_
      refine w_iload_n dX10_backs_17 rfl ?_
      refine r_ild dX10_backs_18 g0_247 (by decide) (by omega) (by omega) (by decide) (fun r18 => ?_)
      refine r_ist dX10_backs_19 g0_243 (by decide) (by omega) (by omega) (by omega) (by decide) ?_
      refine w_iinc dX10_backs_20 rfl (by decide) ?_
      refine w_goto (tgt := 2) dX10_backs_23 (by decide) ?_
      exact ih (c + 1) _ _ (by omega) (by rw [er, show ((c + 1 : Nat) : Int) = (c : Int) + 1 by omega, ← cp_step (by decide) (by omega), Int.zero_add]) (by omega) (by omega)
theorem c_X10_backs {E : EV} {M : MM} : Cv E mX10_backs 0 [vr 238] M (cpM M 247 243 0 0 45) := by
  refine Ct.of [some (vr 238), none] rfl rfl rfl (Nat.le_of_ble_eq_true rfl) ?_
  refine w_iconst dX10_backs_0 ?_
  refine w_istore_n dX10_backs_1 (by decide) ?_
  exact l_X10_backs 46 0 _ _ rfl (cp_none _ _ _ _ _).symm (by omega) (by omega)
