/-! ===== Asks; kinds ===== -/
theorem zV_r : ∀ z, z < 3 → ∀ j, j < 6 → -1 ≤ zV z j ∧ zV z j ≤ 24 := by decide +kernel
def bfF (w : Int) : Nat → Int → Int
  | 0, _ => 0
  | k + 1, v => if v < 0 ∨ 5 < v then 0 else if (if w = 0 then zV 1 v.toNat else zV 2 v.toNat) ≠ 0 then (if w = 0 then zV 1 v.toNat else zV 2 v.toNat) else bfF w k (zV 0 v.toNat)
theorem l_X1_bodyFor {E : EV} {M : MM} {v0 w : Int} (hw : R32 w) :
    ∀ (k s : Nat) (z v : Int) (x4 : Option AV), z = s → s + k = 6 → R32 v → Wp E mX1_bodyFor (kd 0) 4 [some (vi v0), some (vi w), some (vi v), some (vi z), x4] [] N0 G0 M (Pm (bfF w k v) M) := by
  intro k
  induction k with
  | zero =>
    intro s z v x4 hz hs hv
    subst hz
    refine w_iload_n dX1_bodyFor_4 rfl ?_
    refine w_iconst dX1_bodyFor_5 ?_
    refine w_icmp_gt (tgt := 57) dX1_bodyFor_6 (by decide) (by omega) (by omega) (fun h6 => ?_) (fun h6 => ?_)
    · refine w_iconst dX1_bodyFor_57 ?_
      refine w_iret dX1_bodyFor_58 rfl (by omega) ?_ ⟨Nat.le_refl _, Nat.le_refl _⟩
      exact (q_i rfl)
    · exact absurd h6 (by omega)
  | succ k ih =>
    intro s z v x4 hz hs hv
    subst hz
    have z0 : 0 ≤ v → v ≤ 5 → -1 ≤ zV 0 v.toNat ∧ zV 0 v.toNat ≤ 24 := fun a b => zV_r 0 (by decide) _ (by omega)
    have z1 : 0 ≤ v → v ≤ 5 → -1 ≤ zV 1 v.toNat ∧ zV 1 v.toNat ≤ 24 := fun a b => zV_r 1 (by decide) _ (by omega)
    have z2 : 0 ≤ v → v ≤ 5 → -1 ≤ zV 2 v.toNat ∧ zV 2 v.toNat ≤ 24 := fun a b => zV_r 2 (by decide) _ (by omega)
    refine w_iload_n dX1_bodyFor_4 rfl ?_
    refine w_iconst dX1_bodyFor_5 ?_
    refine w_icmp_gt (tgt := 57) dX1_bodyFor_6 (by decide) (by omega) (by omega) (fun h6 => ?_) (fun h6 => ?_)
    · refine w_iconst dX1_bodyFor_57 ?_
      refine w_iret dX1_bodyFor_58 rfl (by omega) ?_ ⟨Nat.le_refl _, Nat.le_refl _⟩
      exact (q_i (by rw [bfF, if_pos (by omega)]))
    · refine w_iload_n dX1_bodyFor_9 rfl ?_
      refine w_if_lt (tgt := 57) dX1_bodyFor_10 (by decide) (by omega) (fun h10 => ?_) (fun h10 => ?_)
      · refine w_iconst dX1_bodyFor_57 ?_
        refine w_iret dX1_bodyFor_58 rfl (by omega) ?_ ⟨Nat.le_refl _, Nat.le_refl _⟩
        exact (q_i (by rw [bfF, if_pos (by omega)]))
      · refine w_iload_n dX1_bodyFor_13 rfl ?_
        refine w_iconst dX1_bodyFor_14 ?_
        refine w_icmp_gt (tgt := 57) dX1_bodyFor_15 (by decide) (by omega) (by omega) (fun h15 => ?_) (fun h15 => ?_)
        · refine w_iconst dX1_bodyFor_57 ?_
          refine w_iret dX1_bodyFor_58 rfl (by omega) ?_ ⟨Nat.le_refl _, Nat.le_refl _⟩
          exact (q_i (by rw [bfF, if_pos (by omega)]))
        · have z0 := z0 (by omega) (by omega)
          have z1 := z1 (by omega) (by omega)
          have z2 := z2 (by omega) (by omega)
          refine w_iload_n dX1_bodyFor_18 rfl ?_
          refine w_if_ne (tgt := 30) dX1_bodyFor_19 (by decide) (by omega) (fun h19 => ?_) (fun h19 => ?_)
          · refine w_gets dX1_bodyFor_30 (by decide) gs1_42 ?_
            refine w_iload_n dX1_bodyFor_33 rfl ?_
            refine w_zald dX1_bodyFor_34 (by decide) (by omega) (by omega) ?_
            refine w_istore dX1_bodyFor_35 (by decide) ?_
            refine w_iload dX1_bodyFor_37 rfl ?_
            refine w_if_eq (tgt := 45) dX1_bodyFor_39 (by decide) (by omega) (fun h39 => ?_) (fun h39 => ?_)
            · refine w_getsN dX1_bodyFor_45 rfl ?_
              refine w_iload_n dX1_bodyFor_48 rfl ?_
              refine w_zald dX1_bodyFor_49 (by decide) (by omega) (by omega) ?_
              refine w_istore_n dX1_bodyFor_50 (by decide) ?_
              refine w_iinc dX1_bodyFor_51 rfl (by decide) ?_
              refine w_goto (tgt := 4) dX1_bodyFor_54 (by decide) ?_
              first | (rw [show bfF w (k + 1) v = bfF w k (zV 0 v.toNat) from by rw [bfF, if_neg (by omega), if_pos (show w = 0 by omega), if_neg (by omega)]]; exact ih (s + 1) _ _ _ (by omega) (by omega) (by omega)) | (rw [show bfF w (k + 1) v = bfF w k (zV 0 v.toNat) from by rw [bfF, if_neg (by omega), if_neg (show ¬ w = 0 by omega), if_neg (by omega)]]; exact ih (s + 1) _ _ _ (by omega) (by omega) (by omega))
            · refine w_iload dX1_bodyFor_42 rfl ?_
              refine w_iret dX1_bodyFor_44 rfl (by omega) ?_ ⟨Nat.le_refl _, Nat.le_refl _⟩
              first | exact q_i (by rw [bfF, if_neg (by omega), if_pos (show w = 0 by omega), if_pos (by omega)]) | exact q_i (by rw [bfF, if_neg (by omega), if_neg (show ¬ w = 0 by omega), if_pos (by omega)])
          · refine w_gets dX1_bodyFor_22 (by decide) gs1_39 ?_
            refine w_iload_n dX1_bodyFor_25 rfl ?_
            refine w_zald dX1_bodyFor_26 (by decide) (by omega) (by omega) ?_
            refine w_goto (tgt := 35) dX1_bodyFor_27 (by decide) ?_
            refine w_istore dX1_bodyFor_35 (by decide) ?_
            refine w_iload dX1_bodyFor_37 rfl ?_
            refine w_if_eq (tgt := 45) dX1_bodyFor_39 (by decide) (by omega) (fun h39 => ?_) (fun h39 => ?_)
            · refine w_getsN dX1_bodyFor_45 rfl ?_
              refine w_iload_n dX1_bodyFor_48 rfl ?_
              refine w_zald dX1_bodyFor_49 (by decide) (by omega) (by omega) ?_
              refine w_istore_n dX1_bodyFor_50 (by decide) ?_
              refine w_iinc dX1_bodyFor_51 rfl (by decide) ?_
              refine w_goto (tgt := 4) dX1_bodyFor_54 (by decide) ?_
              first | (rw [show bfF w (k + 1) v = bfF w k (zV 0 v.toNat) from by rw [bfF, if_neg (by omega), if_pos (show w = 0 by omega), if_neg (by omega)]]; exact ih (s + 1) _ _ _ (by omega) (by omega) (by omega)) | (rw [show bfF w (k + 1) v = bfF w k (zV 0 v.toNat) from by rw [bfF, if_neg (by omega), if_neg (show ¬ w = 0 by omega), if_neg (by omega)]]; exact ih (s + 1) _ _ _ (by omega) (by omega) (by omega))
            · refine w_iload dX1_bodyFor_42 rfl ?_
              refine w_iret dX1_bodyFor_44 rfl (by omega) ?_ ⟨Nat.le_refl _, Nat.le_refl _⟩
              first | exact q_i (by rw [bfF, if_neg (by omega), if_pos (show w = 0 by omega), if_pos (by omega)]) | exact q_i (by rw [bfF, if_neg (by omega), if_neg (show ¬ w = 0 by omega), if_pos (by omega)])
theorem c_X1_bodyFor {E : EV} {M : MM} {v w : Int} (hv : R32 v) (hw : R32 w) : Cm E mX1_bodyFor 0 [vi v, vi w] M (bfF w 6 v) M := by
  refine Ct.of [some (vi v), some (vi w), none, none, none] rfl rfl rfl (Nat.le_of_ble_eq_true rfl) ?_
  refine w_iload_n dX1_bodyFor_0 rfl ?_
  refine w_istore_n dX1_bodyFor_1 (by decide) ?_
  refine w_iconst dX1_bodyFor_2 ?_
  refine w_istore_n dX1_bodyFor_3 (by decide) ?_
  exact l_X1_bodyFor hw 6 0 _ _ _ rfl (by omega) hv
def iokF (w : Int) : Nat → Int → Bool
  | 0, _ => false
  | k + 1, v => if v < 0 ∨ 5 < v then false else if v = w then true else iokF w k (zV 0 v.toNat)
theorem l_X9_isOfKind {E : EV} {M : MM} {v0 w : Int} (hw : R32 w) :
    ∀ (k s : Nat) (z v : Int), z = s → s + k = 6 → R32 v → Wp E mX9_isOfKind (kd 0) 4 [some (vi v0), some (vi w), some (vi v), some (vi z)] [] N0 G0 M (Pm (bi (iokF w k v)) M) := by
  intro k
  induction k with
  | zero =>
    intro s z v hz hs hv
    subst hz
    refine w_iload_n dX9_isOfKind_4 rfl ?_
    refine w_iconst dX9_isOfKind_5 ?_
    refine w_icmp_gt (tgt := 37) dX9_isOfKind_6 (by decide) (by omega) (by omega) (fun h6 => ?_) (fun h6 => ?_)
    · refine w_iconst dX9_isOfKind_37 ?_
      refine w_zret (b := false) dX9_isOfKind_38 rfl ?_ ⟨Nat.le_refl _, Nat.le_refl _⟩
      exact (q_b rfl)
    · exact absurd h6 (by omega)
  | succ k ih =>
    intro s z v hz hs hv
    subst hz
    have z0 : 0 ≤ v → v ≤ 5 → -1 ≤ zV 0 v.toNat ∧ zV 0 v.toNat ≤ 24 := fun a b => zV_r 0 (by decide) _ (by omega)
    refine w_iload_n dX9_isOfKind_4 rfl ?_
    refine w_iconst dX9_isOfKind_5 ?_
    refine w_icmp_gt (tgt := 37) dX9_isOfKind_6 (by decide) (by omega) (by omega) (fun h6 => ?_) (fun h6 => ?_)
    · refine w_iconst dX9_isOfKind_37 ?_
      refine w_zret (b := false) dX9_isOfKind_38 rfl ?_ ⟨Nat.le_refl _, Nat.le_refl _⟩
      exact (q_b (by rw [iokF, if_pos (by omega)]))
    · refine w_iload_n dX9_isOfKind_9 rfl ?_
      refine w_if_lt (tgt := 37) dX9_isOfKind_10 (by decide) (by omega) (fun h10 => ?_) (fun h10 => ?_)
      · refine w_iconst dX9_isOfKind_37 ?_
        refine w_zret (b := false) dX9_isOfKind_38 rfl ?_ ⟨Nat.le_refl _, Nat.le_refl _⟩
        exact (q_b (by rw [iokF, if_pos (by omega)]))
      · refine w_iload_n dX9_isOfKind_13 rfl ?_
        refine w_iconst dX9_isOfKind_14 ?_
        refine w_icmp_gt (tgt := 37) dX9_isOfKind_15 (by decide) (by omega) (by omega) (fun h15 => ?_) (fun h15 => ?_)
        · refine w_iconst dX9_isOfKind_37 ?_
          refine w_zret (b := false) dX9_isOfKind_38 rfl ?_ ⟨Nat.le_refl _, Nat.le_refl _⟩
          exact (q_b (by rw [iokF, if_pos (by omega)]))
        · have z0 := z0 (by omega) (by omega)
          refine w_iload_n dX9_isOfKind_18 rfl ?_
          refine w_iload_n dX9_isOfKind_19 rfl ?_
          refine w_icmp_ne (tgt := 25) dX9_isOfKind_20 (by decide) (by omega) (by omega) (fun h20 => ?_) (fun h20 => ?_)
          · refine w_gets dX9_isOfKind_25 (by decide) gs9_349 ?_
            refine w_iload_n dX9_isOfKind_28 rfl ?_
            refine w_zald dX9_isOfKind_29 (by decide) (by omega) (by omega) ?_
            refine w_istore_n dX9_isOfKind_30 (by decide) ?_
            refine w_iinc dX9_isOfKind_31 rfl (by decide) ?_
            refine w_goto (tgt := 4) dX9_isOfKind_34 (by decide) ?_
            rw [show iokF w (k + 1) v = iokF w k (zV 0 v.toNat) from by rw [iokF, if_neg (by omega), if_neg (by omega)]]
            exact ih (s + 1) _ _ (by omega) (by omega) (by omega)
          · refine w_iconst dX9_isOfKind_23 ?_
            refine w_zret (b := true) dX9_isOfKind_24 rfl ?_ ⟨Nat.le_refl _, Nat.le_refl _⟩
            exact (q_b (by rw [iokF, if_neg (by omega), if_pos (by omega)]))
theorem c_X9_isOfKind {E : EV} {M : MM} {v w : Int} (hv : R32 v) (hw : R32 w) : Cm E mX9_isOfKind 0 [vi v, vi w] M (bi (iokF w 6 v)) M := by
  refine Ct.of [some (vi v), some (vi w), none, none] rfl rfl rfl (Nat.le_of_ble_eq_true rfl) ?_
  refine w_iload_n dX9_isOfKind_0 rfl ?_
  refine w_istore_n dX9_isOfKind_1 (by decide) ?_
  refine w_iconst dX9_isOfKind_2 ?_
  refine w_istore_n dX9_isOfKind_3 (by decide) ?_
  exact l_X9_isOfKind hw 6 0 _ _ rfl (by omega) hv
/-- a body leaves its number -/
def lvM (M : MM) (x : Int) : MM := if M 222 0 < 16 then upM (upM M 223 (M 222 0) x) 222 0 (M 222 0 + 1) else M
theorem lv_cell {M : MM} {x : Int} {i : Nat} (h1 : i ≠ 222) (h2 : i ≠ 223) : lvM M x i = M i := by
  unfold lvM
  split
  · rw [upM_cell h1, upM_cell h2]
  · rfl
theorem lv_0 {M : MM} {x : Int} (h : 0 ≤ M 222 0) : 0 ≤ lvM M x 222 0 := by
  unfold lvM
  split
  · rw [upM_same]; omega
  · exact h
theorem c_X1_leave {E : EV} {M : MM} {x : Int} (h0 : 0 ≤ M 222 0) (hx : R32 x) : Cv E mX1_leave 0 [vr 222, vi x] M (lvM M x) := by
  refine Ct.of [some (vr 222), some (vi x)] rfl rfl rfl (Nat.le_of_ble_eq_true rfl) ?_
  have e : upM M 223 (M 222 0) x 222 0 = M 222 0 := by rw [upM_cell (by omega)]
  refine w_aload_n dX1_leave_0 rfl ?_
  refine r_getI (q := 0) dX1_leave_1 fl1_19 g0_222 (by decide) rfl (by decide) rfl (fun r1 => ?_)
  refine w_bipush dX1_leave_4 (by decide +kernel) ?_
  refine w_icmp_ge (tgt := 29) dX1_leave_6 (by decide) (by omega) (by omega) (fun h6 => ?_) (fun h6 => ?_)
  · refine w_vret dX1_leave_29 rfl ?_ ⟨Nat.le_refl _, Nat.le_refl _⟩
    first | exact q_v (by unfold lvM; rw [if_pos (by omega), e]) | exact q_v (by unfold lvM; rw [if_neg (by omega)])
  · refine w_aload_n dX1_leave_9 rfl ?_
    refine w_getR (r := 223) dX1_leave_10 fl1_11 g0_222 (by decide) rfl ?_
    refine w_aload_n dX1_leave_13 rfl ?_
    refine r_getI (q := 0) dX1_leave_14 fl1_19 g0_222 (by decide) rfl (by decide) rfl (fun r14 => ?_)
    refine w_iload_n dX1_leave_17 rfl ?_
    refine r_ist dX1_leave_18 g0_223 (by decide) (by omega) (by omega) (by omega) (by decide) ?_
    refine w_aload_n dX1_leave_19 rfl ?_
    refine w_dup dX1_leave_20 rfl ?_
    refine r_getI (q := 0) dX1_leave_21 fl1_19 g0_222 (by decide) rfl (by decide) rfl (fun r21 => ?_)
    refine w_iconst dX1_leave_24 ?_
    refine w_iadd dX1_leave_25 ?_
    refine r_putI (q := 0) dX1_leave_26 fl1_19 g0_222 (by decide) rfl (by decide) (by omega) rfl (by decide +kernel) rfl ?_
    refine w_vret dX1_leave_29 rfl ?_ ⟨Nat.le_refl _, Nat.le_refl _⟩
    first | exact q_v (by unfold lvM; rw [if_pos (by omega), e]) | exact q_v (by unfold lvM; rw [if_neg (by omega)])
theorem c_b10 {E : EV} {M : MM} {c dp : Int} (h0 : 0 ≤ M 222 0) (c0 : 0 ≤ c) (c1 : c < 5) (hd : R32 dp) (hd2 : dp ≤ 20) : Cm E mX1_body 1 [vr 222, vi 10, vi c, vi dp] M (M (23 + 4) c) (lvM M 10) := by
  refine Ct.of [some (vr 222), some (vi 10), some (vi c), some (vi dp), none] rfl rfl rfl (Nat.le_of_ble_eq_true rfl) ?_
  refine w_iload_n dX1_body_0 rfl ?_
  refine w_bipush dX1_body_1 (by decide +kernel) ?_
  refine w_icmp_le (tgt := 8) dX1_body_3 (by decide) (by omega) (by omega) (fun h3 => ?_) (fun h3 => ?_)
  · refine w_aload_n dX1_body_8 rfl ?_
    refine w_iload_n dX1_body_9 rfl ?_
    refine cVv dX1_body_10 ok_X1_leave lv1_48 (c_X1_leave (by omega) (by omega)) rfl (congrArg Prod.fst g0_222) (by decide) (by decide) rfl (by decide) (Nat.le_of_ble_eq_true rfl) ?_
    refine w_iload_n dX1_body_13 rfl ?_
    refine w_iconst dX1_body_14 ?_
    refine w_iadd dX1_body_15 ?_
    refine w_istore dX1_body_16 (by decide) ?_
    refine w_iload_n dX1_body_18 rfl ?_
    refine w_tabIn (tgt := 92) dX1_body_19 (by omega) (by decide) (by decide) rfl (by decide) ?_
    refine w_aload_n dX1_body_92 rfl ?_
    refine w_getR (r := 23) dX1_body_93 fl1_15 g0_222 (by decide) rfl ?_
    refine w_getR (r := (23 + 4)) dX1_body_96 fl1_52 (sk_g0 sk_23) (sk_n0 sk_23) rfl ?_
    refine w_iload_n dX1_body_99 rfl ?_
    refine r_ild dX1_body_100 (sk_g4 sk_23) (sk_n4 sk_23) (by omega) (by omega) (by decide) (fun r100 => ?_)
    refine w_iret dX1_body_101 rfl (by omega) ?_ ⟨Nat.le_refl _, Nat.le_refl _⟩
    exact (q_im (by rw [lv_cell (by omega) (by omega)]) rfl)
  · exact absurd h3 (by omega)
theorem c_b20 {E : EV} {M : MM} {c dp : Int} (h0 : 0 ≤ M 222 0) (c0 : 0 ≤ c) (c1 : c < 5) (hd : R32 dp) (hd2 : dp ≤ 20) : Cm E mX1_body 1 [vr 222, vi 20, vi c, vi dp] M c (lvM M 20) := by
  refine Ct.of [some (vr 222), some (vi 20), some (vi c), some (vi dp), none] rfl rfl rfl (Nat.le_of_ble_eq_true rfl) ?_
  refine w_iload_n dX1_body_0 rfl ?_
  refine w_bipush dX1_body_1 (by decide +kernel) ?_
  refine w_icmp_le (tgt := 8) dX1_body_3 (by decide) (by omega) (by omega) (fun h3 => ?_) (fun h3 => ?_)
  · refine w_aload_n dX1_body_8 rfl ?_
    refine w_iload_n dX1_body_9 rfl ?_
    refine cVv dX1_body_10 ok_X1_leave lv1_48 (c_X1_leave (by omega) (by omega)) rfl (congrArg Prod.fst g0_222) (by decide) (by decide) rfl (by decide) (Nat.le_of_ble_eq_true rfl) ?_
    refine w_iload_n dX1_body_13 rfl ?_
    refine w_iconst dX1_body_14 ?_
    refine w_iadd dX1_body_15 ?_
    refine w_istore dX1_body_16 (by decide) ?_
    refine w_iload_n dX1_body_18 rfl ?_
    refine w_tabIn (tgt := 157) dX1_body_19 (by omega) (by decide) (by decide) rfl (by decide) ?_
    refine w_iload_n dX1_body_157 rfl ?_
    refine w_iret dX1_body_158 rfl (by omega) ?_ ⟨Nat.le_refl _, Nat.le_refl _⟩
    exact ⟨rfl, rfl, rfl, rfl⟩
  · exact absurd h3 (by omega)
theorem c_b21 {E : EV} {M : MM} {c dp : Int} (h0 : 0 ≤ M 222 0) (c0 : 0 ≤ c) (c1 : c < 5) (hd : R32 dp) (hd2 : dp ≤ 19) (hw : 0 ≤ M (23 + 3) c ∧ M (23 + 3) c ≤ 1000) : Cm E mX1_body 2 [vr 222, vi 21, vi c, vi dp] M (c + M (23 + 3) c) (lvM (lvM M 21) 20) := by
  refine Ct.of [some (vr 222), some (vi 21), some (vi c), some (vi dp), none] rfl rfl rfl (Nat.le_of_ble_eq_true rfl) ?_
  have e : lvM (lvM M 21) 20 (23 + 3) c = M (23 + 3) c := by rw [lv_cell (by omega) (by omega), lv_cell (by omega) (by omega)]
  refine w_iload_n dX1_body_0 rfl ?_
  refine w_bipush dX1_body_1 (by decide +kernel) ?_
  refine w_icmp_le (tgt := 8) dX1_body_3 (by decide) (by omega) (by omega) (fun h3 => ?_) (fun h3 => ?_)
  · refine w_aload_n dX1_body_8 rfl ?_
    refine w_iload_n dX1_body_9 rfl ?_
    refine cVv dX1_body_10 ok_X1_leave lv1_48 (c_X1_leave (by omega) (by omega)) rfl (congrArg Prod.fst g0_222) (by decide) (by decide) rfl (by decide) (Nat.le_of_ble_eq_true rfl) ?_
    refine w_iload_n dX1_body_13 rfl ?_
    refine w_iconst dX1_body_14 ?_
    refine w_iadd dX1_body_15 ?_
    refine w_istore dX1_body_16 (by decide) ?_
    refine w_iload_n dX1_body_18 rfl ?_
    refine w_tabIn (tgt := 159) dX1_body_19 (by omega) (by decide) (by decide) rfl (by decide) ?_
    refine w_aload_n dX1_body_159 rfl ?_
    refine w_bipush dX1_body_160 (by decide +kernel) ?_
    refine w_iload_n dX1_body_162 rfl ?_
    refine w_iload dX1_body_163 rfl ?_
    refine cVm dX1_body_165 ok_X1_body lv1_36 (c_b20 (lv_0 h0) c0 c1 (by omega) (by omega)) rfl (congrArg Prod.fst g0_222) (by decide) (by decide) rfl (by decide) (Nat.le_of_ble_eq_true rfl) (fun r165 => ?_)
    refine w_aload_n dX1_body_168 rfl ?_
    refine w_getR (r := 23) dX1_body_169 fl1_15 g0_222 (by decide) rfl ?_
    refine w_getR (r := (23 + 3)) dX1_body_172 fl1_55 (sk_g0 sk_23) (sk_n0 sk_23) rfl ?_
    refine w_iload_n dX1_body_175 rfl ?_
    refine r_ild dX1_body_176 (sk_g3 sk_23) (sk_n3 sk_23) (by omega) (by omega) (by decide) (fun r176 => ?_)
    refine w_iadd dX1_body_177 ?_
    refine w_iret dX1_body_178 rfl (by omega) ?_ ⟨Nat.le_refl _, Nat.le_refl _⟩
    exact (q_im (by rw [e]) rfl)
  · exact absurd h3 (by omega)
theorem c_b22 {E : EV} {M : MM} {c dp : Int} (h0 : 0 ≤ M 222 0) (c0 : 0 ≤ c) (c1 : c < 5) (hd : R32 dp) (hd2 : dp ≤ 18) (hw : 0 ≤ M (23 + 3) c ∧ M (23 + 3) c ≤ 1000) : Cm E mX1_body 3 [vr 222, vi 22, vi c, vi dp] M (c + M (23 + 3) c - 1000) (lvM (lvM (lvM M 22) 21) 20) := by
  refine Ct.of [some (vr 222), some (vi 22), some (vi c), some (vi dp), none] rfl rfl rfl (Nat.le_of_ble_eq_true rfl) ?_
  have e : lvM M 22 (23 + 3) c = M (23 + 3) c := by rw [lv_cell (by omega) (by omega)]
  refine w_iload_n dX1_body_0 rfl ?_
  refine w_bipush dX1_body_1 (by decide +kernel) ?_
  refine w_icmp_le (tgt := 8) dX1_body_3 (by decide) (by omega) (by omega) (fun h3 => ?_) (fun h3 => ?_)
  · refine w_aload_n dX1_body_8 rfl ?_
    refine w_iload_n dX1_body_9 rfl ?_
    refine cVv dX1_body_10 ok_X1_leave lv1_48 (c_X1_leave (by omega) (by omega)) rfl (congrArg Prod.fst g0_222) (by decide) (by decide) rfl (by decide) (Nat.le_of_ble_eq_true rfl) ?_
    refine w_iload_n dX1_body_13 rfl ?_
    refine w_iconst dX1_body_14 ?_
    refine w_iadd dX1_body_15 ?_
    refine w_istore dX1_body_16 (by decide) ?_
    refine w_iload_n dX1_body_18 rfl ?_
    refine w_tabIn (tgt := 179) dX1_body_19 (by omega) (by decide) (by decide) rfl (by decide) ?_
    refine w_aload_n dX1_body_179 rfl ?_
    refine w_bipush dX1_body_180 (by decide +kernel) ?_
    refine w_iload_n dX1_body_182 rfl ?_
    refine w_iload dX1_body_183 rfl ?_
    refine cVm dX1_body_185 ok_X1_body lv1_36 (c_b21 (lv_0 h0) c0 c1 (by omega) (by omega) (by rw [e]; exact hw)) rfl (congrArg Prod.fst g0_222) (by decide) (by decide) rfl (by decide) (Nat.le_of_ble_eq_true rfl) (fun r185 => ?_)
    rw [e] at r185 ⊢
    refine w_sipush dX1_body_188 (by decide +kernel) ?_
    refine w_isub dX1_body_191 ?_
    refine w_iret dX1_body_192 rfl (by omega) ?_ ⟨Nat.le_refl _, Nat.le_refl _⟩
    exact ⟨rfl, rfl, rfl, rfl⟩
  · exact absurd h3 (by omega)
theorem c_b24 {E : EV} {M : MM} {c dp : Int} (h0 : 0 ≤ M 222 0) (c0 : 0 ≤ c) (c1 : c < 5) (hd : R32 dp) (hd2 : dp ≤ 18) (hw : 0 ≤ M (23 + 3) c ∧ M (23 + 3) c ≤ 1000) : Cm E mX1_body 3 [vr 222, vi 24, vi c, vi dp] M (2 * (c + M (23 + 3) c)) (lvM (lvM (lvM M 24) 21) 20) := by
  refine Ct.of [some (vr 222), some (vi 24), some (vi c), some (vi dp), none] rfl rfl rfl (Nat.le_of_ble_eq_true rfl) ?_
  have e : lvM M 24 (23 + 3) c = M (23 + 3) c := by rw [lv_cell (by omega) (by omega)]
  refine w_iload_n dX1_body_0 rfl ?_
  refine w_bipush dX1_body_1 (by decide +kernel) ?_
  refine w_icmp_le (tgt := 8) dX1_body_3 (by decide) (by omega) (by omega) (fun h3 => ?_) (fun h3 => ?_)
  · refine w_aload_n dX1_body_8 rfl ?_
    refine w_iload_n dX1_body_9 rfl ?_
    refine cVv dX1_body_10 ok_X1_leave lv1_48 (c_X1_leave (by omega) (by omega)) rfl (congrArg Prod.fst g0_222) (by decide) (by decide) rfl (by decide) (Nat.le_of_ble_eq_true rfl) ?_
    refine w_iload_n dX1_body_13 rfl ?_
    refine w_iconst dX1_body_14 ?_
    refine w_iadd dX1_body_15 ?_
    refine w_istore dX1_body_16 (by decide) ?_
    refine w_iload_n dX1_body_18 rfl ?_
    refine w_tabIn (tgt := 212) dX1_body_19 (by omega) (by decide) (by decide) rfl (by decide) ?_
    refine w_iconst dX1_body_212 ?_
    refine w_aload_n dX1_body_213 rfl ?_
    refine w_bipush dX1_body_214 (by decide +kernel) ?_
    refine w_iload_n dX1_body_216 rfl ?_
    refine w_iload dX1_body_217 rfl ?_
    refine cVm dX1_body_219 ok_X1_body lv1_36 (c_b21 (lv_0 h0) c0 c1 (by omega) (by omega) (by rw [e]; exact hw)) rfl (congrArg Prod.fst g0_222) (by decide) (by decide) rfl (by decide) (Nat.le_of_ble_eq_true rfl) (fun r219 => ?_)
    rw [e] at r219 ⊢
    refine w_imul dX1_body_222 ?_
    refine w_iret dX1_body_223 rfl (by omega) ?_ ⟨Nat.le_refl _, Nat.le_refl _⟩
    exact ⟨rfl, rfl, rfl, rfl⟩
  · exact absurd h3 (by omega)
theorem c_b13 {E : EV} {M : MM} {c dp : Int} (h0 : 0 ≤ M 222 0) (c0 : 0 ≤ c) (c1 : c < 5) (hd : R32 dp) (hd2 : dp ≤ 19) (hw : 0 ≤ M (23 + 4) c ∧ M (23 + 4) c ≤ 1000) : Cm E mX1_body 2 [vr 222, vi 13, vi c, vi dp] M (M (23 + 4) c - 100) (lvM (lvM M 13) 10) := by
  refine Ct.of [some (vr 222), some (vi 13), some (vi c), some (vi dp), none] rfl rfl rfl (Nat.le_of_ble_eq_true rfl) ?_
  have e : lvM M 13 (23 + 4) c = M (23 + 4) c := by rw [lv_cell (by omega) (by omega)]
  refine w_iload_n dX1_body_0 rfl ?_
  refine w_bipush dX1_body_1 (by decide +kernel) ?_
  refine w_icmp_le (tgt := 8) dX1_body_3 (by decide) (by omega) (by omega) (fun h3 => ?_) (fun h3 => ?_)
  · refine w_aload_n dX1_body_8 rfl ?_
    refine w_iload_n dX1_body_9 rfl ?_
    refine cVv dX1_body_10 ok_X1_leave lv1_48 (c_X1_leave (by omega) (by omega)) rfl (congrArg Prod.fst g0_222) (by decide) (by decide) rfl (by decide) (Nat.le_of_ble_eq_true rfl) ?_
    refine w_iload_n dX1_body_13 rfl ?_
    refine w_iconst dX1_body_14 ?_
    refine w_iadd dX1_body_15 ?_
    refine w_istore dX1_body_16 (by decide) ?_
    refine w_iload_n dX1_body_18 rfl ?_
    refine w_tabIn (tgt := 132) dX1_body_19 (by omega) (by decide) (by decide) rfl (by decide) ?_
    refine w_aload_n dX1_body_132 rfl ?_
    refine w_bipush dX1_body_133 (by decide +kernel) ?_
    refine w_iload_n dX1_body_135 rfl ?_
    refine w_iload dX1_body_136 rfl ?_
    refine cVm dX1_body_138 ok_X1_body lv1_36 (c_b10 (lv_0 h0) c0 c1 (by omega) (by omega)) rfl (congrArg Prod.fst g0_222) (by decide) (by decide) rfl (by decide) (Nat.le_of_ble_eq_true rfl) (fun r138 => ?_)
    rw [e] at r138 ⊢
    refine w_bipush dX1_body_141 (by decide +kernel) ?_
    refine w_isub dX1_body_143 ?_
    refine w_iret dX1_body_144 rfl (by omega) ?_ ⟨Nat.le_refl _, Nat.le_refl _⟩
    exact ⟨rfl, rfl, rfl, rfl⟩
  · exact absurd h3 (by omega)
theorem c_b14 {E : EV} {M : MM} {c dp : Int} (h0 : 0 ≤ M 222 0) (c0 : 0 ≤ c) (c1 : c < 5) (hd : R32 dp) (hd2 : dp ≤ 18) (hw : 0 ≤ M (23 + 4) c ∧ M (23 + 4) c ≤ 1000) : Cm E mX1_body 3 [vr 222, vi 14, vi c, vi dp] M (2 * (M (23 + 4) c - 100)) (lvM (lvM (lvM M 14) 13) 10) := by
  refine Ct.of [some (vr 222), some (vi 14), some (vi c), some (vi dp), none] rfl rfl rfl (Nat.le_of_ble_eq_true rfl) ?_
  have e : lvM M 14 (23 + 4) c = M (23 + 4) c := by rw [lv_cell (by omega) (by omega)]
  refine w_iload_n dX1_body_0 rfl ?_
  refine w_bipush dX1_body_1 (by decide +kernel) ?_
  refine w_icmp_le (tgt := 8) dX1_body_3 (by decide) (by omega) (by omega) (fun h3 => ?_) (fun h3 => ?_)
  · refine w_aload_n dX1_body_8 rfl ?_
    refine w_iload_n dX1_body_9 rfl ?_
    refine cVv dX1_body_10 ok_X1_leave lv1_48 (c_X1_leave (by omega) (by omega)) rfl (congrArg Prod.fst g0_222) (by decide) (by decide) rfl (by decide) (Nat.le_of_ble_eq_true rfl) ?_
    refine w_iload_n dX1_body_13 rfl ?_
    refine w_iconst dX1_body_14 ?_
    refine w_iadd dX1_body_15 ?_
    refine w_istore dX1_body_16 (by decide) ?_
    refine w_iload_n dX1_body_18 rfl ?_
    refine w_tabIn (tgt := 145) dX1_body_19 (by omega) (by decide) (by decide) rfl (by decide) ?_
    refine w_iconst dX1_body_145 ?_
    refine w_aload_n dX1_body_146 rfl ?_
    refine w_bipush dX1_body_147 (by decide +kernel) ?_
    refine w_iload_n dX1_body_149 rfl ?_
    refine w_iload dX1_body_150 rfl ?_
    refine cVm dX1_body_152 ok_X1_body lv1_36 (c_b13 (lv_0 h0) c0 c1 (by omega) (by omega) (by rw [e]; exact hw)) rfl (congrArg Prod.fst g0_222) (by decide) (by decide) rfl (by decide) (Nat.le_of_ble_eq_true rfl) (fun r152 => ?_)
    rw [e] at r152 ⊢
    refine w_imul dX1_body_155 ?_
    refine w_iret dX1_body_156 rfl (by omega) ?_ ⟨Nat.le_refl _, Nat.le_refl _⟩
    exact ⟨rfl, rfl, rfl, rfl⟩
  · exact absurd h3 (by omega)
theorem c_X1_answer {E : EV} {M M' : MM} {c w dp z k : Int} {d : Nat} (c0 : 0 ≤ c) (c1 : c < 5) (hw : R32 w) (hd0 : R32 dp) (hd : dp < 100) (hk : M (23 + 1) c = k) (hb : Cm E mX1_body d [vr 222, vi (bfF w 6 k), vi c, vi (dp + 1)] M z M') : Cm E mX1_answer (d + 1) [vr 222, vi c, vi w, vi dp] M z M' := by
  refine Ct.of [some (vr 222), some (vi c), some (vi w), some (vi dp)] rfl rfl rfl (Nat.le_of_ble_eq_true rfl) ?_
  refine w_aload_n dX1_answer_0 rfl ?_
  refine w_aload_n dX1_answer_1 rfl ?_
  refine w_getR (r := 23) dX1_answer_2 fl1_15 g0_222 (by decide) rfl ?_
  refine w_getR (r := (23 + 1)) dX1_answer_5 fl1_27 (sk_g0 sk_23) (sk_n0 sk_23) rfl ?_
  refine w_iload_n dX1_answer_8 rfl ?_
  refine r_ild dX1_answer_9 (sk_g1 sk_23) (sk_n1 sk_23) (by omega) (by omega) (by decide) (fun r9 => ?_)
  refine w_iload_n dX1_answer_10 rfl ?_
  refine cSm dX1_answer_11 ok_X1_bodyFor (Or.inl ls1_32) (c_X1_bodyFor (by omega) (by omega)) rfl  rfl (by omega) (Nat.le_of_ble_eq_true rfl) (fun r11 => ?_)
  rw [hk]
  refine w_iload_n dX1_answer_14 rfl ?_
  refine w_iload_n dX1_answer_15 rfl ?_
  refine w_iconst dX1_answer_16 ?_
  refine w_iadd dX1_answer_17 ?_
  refine cVm dX1_answer_18 ok_X1_body lv1_36 hb rfl (congrArg Prod.fst g0_222) (by decide) (by decide) rfl (by omega) (Nat.le_of_ble_eq_true rfl) (fun r18 => ?_)
  refine w_iret dX1_answer_21 rfl (by omega) ?_ ⟨Nat.le_refl _, Nat.le_refl _⟩
  exact ⟨rfl, rfl, rfl, rfl⟩
theorem bf_1 : bfF 1 6 1 = 21 ∧ bfF 1 6 2 = 24 ∧ bfF 1 6 3 = 22 ∧ bfF 1 6 4 = 23 ∧ bfF 1 6 5 = 23 := by decide +kernel
theorem bf_0 : bfF 0 6 1 = 11 ∧ bfF 0 6 2 = 12 ∧ bfF 0 6 3 = 11 ∧ bfF 0 6 4 = 13 ∧ bfF 0 6 5 = 14 := by decide +kernel
theorem c_b11 {E : EV} {M M' : MM} {c dp z : Int} {d : Nat} (h0 : 0 ≤ M 222 0) (c0 : 0 ≤ c) (c1 : c < 5) (hd : R32 dp) (hd2 : dp ≤ 15) (hw : 0 ≤ M (23 + 4) c ∧ M (23 + 4) c ≤ 1000) (hz : -50000 ≤ z ∧ z ≤ 50000) (hdd : d < 5) (ha : Cm E mX1_answer d [vr 222, vi c, vi 1, vi (dp + 1)] (lvM (lvM M 11) 10) z M') : Cm E mX1_body 5 [vr 222, vi 11, vi c, vi dp] M (M (23 + 4) c + z) M' := by
  refine Ct.of [some (vr 222), some (vi 11), some (vi c), some (vi dp), none] rfl rfl rfl (Nat.le_of_ble_eq_true rfl) ?_
  have e : lvM M 11 (23 + 4) c = M (23 + 4) c := by rw [lv_cell (by omega) (by omega)]
  refine w_iload_n dX1_body_0 rfl ?_
  refine w_bipush dX1_body_1 (by decide +kernel) ?_
  refine w_icmp_le (tgt := 8) dX1_body_3 (by decide) (by omega) (by omega) (fun h3 => ?_) (fun h3 => ?_)
  · refine w_aload_n dX1_body_8 rfl ?_
    refine w_iload_n dX1_body_9 rfl ?_
    refine cVv dX1_body_10 ok_X1_leave lv1_48 (c_X1_leave (by omega) (by omega)) rfl (congrArg Prod.fst g0_222) (by decide) (by decide) rfl (by omega) (Nat.le_of_ble_eq_true rfl) ?_
    refine w_iload_n dX1_body_13 rfl ?_
    refine w_iconst dX1_body_14 ?_
    refine w_iadd dX1_body_15 ?_
    refine w_istore dX1_body_16 (by decide) ?_
    refine w_iload_n dX1_body_18 rfl ?_
    refine w_tabIn (tgt := 102) dX1_body_19 (by omega) (by decide) (by decide) rfl (by decide) ?_
    refine w_aload_n dX1_body_102 rfl ?_
    refine w_bipush dX1_body_103 (by decide +kernel) ?_
    refine w_iload_n dX1_body_105 rfl ?_
    refine w_iload dX1_body_106 rfl ?_
    refine cVm dX1_body_108 ok_X1_body lv1_36 (c_b10 (lv_0 h0) c0 c1 (by omega) (by omega)) rfl (congrArg Prod.fst g0_222) (by decide) (by decide) rfl (by omega) (Nat.le_of_ble_eq_true rfl) (fun r108 => ?_)
    rw [e] at r108 ⊢
    refine w_aload_n dX1_body_111 rfl ?_
    refine w_iload_n dX1_body_112 rfl ?_
    refine w_iconst dX1_body_113 ?_
    refine w_iload dX1_body_114 rfl ?_
    refine cVm dX1_body_116 ok_X1_answer lv1_23 ha rfl (congrArg Prod.fst g0_222) (by decide) (by decide) rfl (by omega) (Nat.le_of_ble_eq_true rfl) (fun r116 => ?_)
    refine w_iadd dX1_body_119 ?_
    refine w_iret dX1_body_120 rfl (by omega) ?_ ⟨Nat.le_refl _, Nat.le_refl _⟩
    exact ⟨rfl, rfl, rfl, rfl⟩
  · exact absurd h3 (by omega)
theorem c_b12 {E : EV} {M M' : MM} {c dp z : Int} {d : Nat} (h0 : 0 ≤ M 222 0) (c0 : 0 ≤ c) (c1 : c < 5) (hd : R32 dp) (hd2 : dp ≤ 15) (hz : -100000 ≤ z ∧ z ≤ 100000) (hdd : d < 6) (ha : Cm E mX1_body d [vr 222, vi 11, vi c, vi (dp + 1)] (lvM M 12) z M') : Cm E mX1_body 6 [vr 222, vi 12, vi c, vi dp] M (-z) M' := by
  refine Ct.of [some (vr 222), some (vi 12), some (vi c), some (vi dp), none] rfl rfl rfl (Nat.le_of_ble_eq_true rfl) ?_
  refine w_iload_n dX1_body_0 rfl ?_
  refine w_bipush dX1_body_1 (by decide +kernel) ?_
  refine w_icmp_le (tgt := 8) dX1_body_3 (by decide) (by omega) (by omega) (fun h3 => ?_) (fun h3 => ?_)
  · refine w_aload_n dX1_body_8 rfl ?_
    refine w_iload_n dX1_body_9 rfl ?_
    refine cVv dX1_body_10 ok_X1_leave lv1_48 (c_X1_leave (by omega) (by omega)) rfl (congrArg Prod.fst g0_222) (by decide) (by decide) rfl (by omega) (Nat.le_of_ble_eq_true rfl) ?_
    refine w_iload_n dX1_body_13 rfl ?_
    refine w_iconst dX1_body_14 ?_
    refine w_iadd dX1_body_15 ?_
    refine w_istore dX1_body_16 (by decide) ?_
    refine w_iload_n dX1_body_18 rfl ?_
    refine w_tabIn (tgt := 121) dX1_body_19 (by omega) (by decide) (by decide) rfl (by decide) ?_
    refine w_aload_n dX1_body_121 rfl ?_
    refine w_bipush dX1_body_122 (by decide +kernel) ?_
    refine w_iload_n dX1_body_124 rfl ?_
    refine w_iload dX1_body_125 rfl ?_
    refine cVm dX1_body_127 ok_X1_body lv1_36 ha rfl (congrArg Prod.fst g0_222) (by decide) (by decide) rfl (by omega) (Nat.le_of_ble_eq_true rfl) (fun r127 => ?_)
    refine w_ineg dX1_body_130 ?_
    refine w_iret dX1_body_131 rfl (by omega) ?_ ⟨Nat.le_refl _, Nat.le_refl _⟩
    exact ⟨rfl, rfl, rfl, rfl⟩
  · exact absurd h3 (by omega)
theorem c_b23 {E : EV} {M M' : MM} {c dp z : Int} {d : Nat} (h0 : 0 ≤ M 222 0) (c0 : 0 ≤ c) (c1 : c < 5) (hd : R32 dp) (hd2 : dp ≤ 15) (hz : -100000 ≤ z ∧ z ≤ 100000) (hdd : d < 5) (ha : Cm E mX1_answer d [vr 222, vi c, vi 0, vi (dp + 1)] (lvM (lvM M 23) 20) z M') : Cm E mX1_body 5 [vr 222, vi 23, vi c, vi dp] M (c - z) M' := by
  refine Ct.of [some (vr 222), some (vi 23), some (vi c), some (vi dp), none] rfl rfl rfl (Nat.le_of_ble_eq_true rfl) ?_
  refine w_iload_n dX1_body_0 rfl ?_
  refine w_bipush dX1_body_1 (by decide +kernel) ?_
  refine w_icmp_le (tgt := 8) dX1_body_3 (by decide) (by omega) (by omega) (fun h3 => ?_) (fun h3 => ?_)
  · refine w_aload_n dX1_body_8 rfl ?_
    refine w_iload_n dX1_body_9 rfl ?_
    refine cVv dX1_body_10 ok_X1_leave lv1_48 (c_X1_leave (by omega) (by omega)) rfl (congrArg Prod.fst g0_222) (by decide) (by decide) rfl (by omega) (Nat.le_of_ble_eq_true rfl) ?_
    refine w_iload_n dX1_body_13 rfl ?_
    refine w_iconst dX1_body_14 ?_
    refine w_iadd dX1_body_15 ?_
    refine w_istore dX1_body_16 (by decide) ?_
    refine w_iload_n dX1_body_18 rfl ?_
    refine w_tabIn (tgt := 193) dX1_body_19 (by omega) (by decide) (by decide) rfl (by decide) ?_
    refine w_aload_n dX1_body_193 rfl ?_
    refine w_bipush dX1_body_194 (by decide +kernel) ?_
    refine w_iload_n dX1_body_196 rfl ?_
    refine w_iload dX1_body_197 rfl ?_
    refine cVm dX1_body_199 ok_X1_body lv1_36 (c_b20 (lv_0 h0) c0 c1 (by omega) (by omega)) rfl (congrArg Prod.fst g0_222) (by decide) (by decide) rfl (by omega) (Nat.le_of_ble_eq_true rfl) (fun r199 => ?_)
    refine w_aload_n dX1_body_202 rfl ?_
    refine w_iload_n dX1_body_203 rfl ?_
    refine w_iconst dX1_body_204 ?_
    refine w_iload dX1_body_205 rfl ?_
    refine cVm dX1_body_207 ok_X1_answer lv1_23 ha rfl (congrArg Prod.fst g0_222) (by decide) (by decide) rfl (by omega) (Nat.le_of_ble_eq_true rfl) (fun r207 => ?_)
    refine w_isub dX1_body_210 ?_
    refine w_iret dX1_body_211 rfl (by omega) ?_ ⟨Nat.le_refl _, Nat.le_refl _⟩
    exact ⟨rfl, rfl, rfl, rfl⟩
  · exact absurd h3 (by omega)
theorem c_X1_begin {E : EV} {M M' : MM} {c w z : Int} {d : Nat} (hdd : d < 8) (ha : Cm E mX1_answer d [vr 222, vi c, vi w, vi 0] (upM M 222 0 0) z M') : Cm E mX1_begin 8 [vr 222, vi c, vi w] M z M' := by
  refine Ct.of [some (vr 222), some (vi c), some (vi w)] rfl rfl rfl (Nat.le_of_ble_eq_true rfl) ?_
  refine w_aload_n dX1_begin_0 rfl ?_
  refine w_iconst dX1_begin_1 ?_
  refine r_putI (q := 0) dX1_begin_2 fl1_19 g0_222 (by decide) rfl (by decide) (by omega) rfl (by decide +kernel) rfl ?_
  refine w_aload_n dX1_begin_5 rfl ?_
  refine w_iload_n dX1_begin_6 rfl ?_
  refine w_iload_n dX1_begin_7 rfl ?_
  refine w_iconst dX1_begin_8 ?_
  refine cVm dX1_begin_9 ok_X1_answer lv1_23 ha rfl (congrArg Prod.fst g0_222) (by decide) (by decide) rfl (by omega) (Nat.le_of_ble_eq_true rfl) (fun r9 => ?_)
  refine w_iret dX1_begin_12 rfl (by omega) ?_ ⟨Nat.le_refl _, Nat.le_refl _⟩
  exact ⟨rfl, rfl, rfl, rfl⟩
/-- what an ask answers, what it leaves: by kind k and ask w of cloud c, wet t, wide v -/
def mkV (k c v : Int) : Int := if k = 1 then c + v else if k = 2 then 2 * (c + v) else c + v - 1000
def fgV (k t : Int) : Int := if k = 5 then 2 * (t - 100) else t - 100
def akV (k w c t v : Int) : Int := if w = 0 then (if k = 2 then -(t + mkV k c v) else if k = 4 ∨ k = 5 then fgV k t else t + mkV k c v) else (if k = 4 ∨ k = 5 then c - fgV k t else mkV k c v)
def mkL (k : Int) : List Int := if k = 1 then [21, 20] else if k = 2 then [24, 21, 20] else [22, 21, 20]
def fgL (k : Int) : List Int := if k = 5 then [14, 13, 10] else [13, 10]
def akL (k w : Int) : List Int := if w = 0 then (if k = 2 then 12 :: 11 :: 10 :: mkL k else if k = 4 ∨ k = 5 then fgL k else 11 :: 10 :: mkL k) else (if k = 4 ∨ k = 5 then 23 :: 20 :: fgL k else mkL k)
def lvs (M : MM) (l : List Int) : MM := l.foldl lvM M
theorem lv_k {M : MM} {x : Int} {c k : Int} (h : M (23 + 1) c = k) : lvM M x (23 + 1) c = k := by rw [lv_cell (by omega) (by omega)]; exact h
theorem lv_w {M : MM} {x : Int} {c k : Int} (h : M (23 + 3) c = k) : lvM M x (23 + 3) c = k := by rw [lv_cell (by omega) (by omega)]; exact h
theorem lv_t {M : MM} {x : Int} {c k : Int} (h : M (23 + 4) c = k) : lvM M x (23 + 4) c = k := by rw [lv_cell (by omega) (by omega)]; exact h
theorem c_aM {E : EV} {M : MM} {c dp k v : Int} (h0 : 0 ≤ M 222 0) (c0 : 0 ≤ c) (c1 : c < 5) (hd : R32 dp) (hd2 : 0 ≤ dp ∧ dp ≤ 15) (hk : M (23 + 1) c = k) (hk3 : k = 1 ∨ k = 2 ∨ k = 3) (hv : M (23 + 3) c = v) (hv2 : 0 ≤ v ∧ v ≤ 1000) : ∃ d, d < 5 ∧ Cm E mX1_answer d [vr 222, vi c, vi 1, vi dp] M (mkV k c v) (lvs M (mkL k)) := by
  subst hv
  rcases hk3 with rfl | rfl | rfl
  · exact ⟨3, by decide, c_X1_answer c0 c1 (by omega) hd (by omega) hk (by rw [bf_1.1]; exact c_b21 h0 c0 c1 (by omega) (by omega) hv2)⟩
  · exact ⟨4, by decide, c_X1_answer c0 c1 (by omega) hd (by omega) hk (by rw [bf_1.2.1]; exact c_b24 h0 c0 c1 (by omega) (by omega) hv2)⟩
  · exact ⟨4, by decide, c_X1_answer c0 c1 (by omega) hd (by omega) hk (by rw [bf_1.2.2.1]; exact c_b22 h0 c0 c1 (by omega) (by omega) hv2)⟩
theorem c_aF {E : EV} {M : MM} {c dp k t : Int} (h0 : 0 ≤ M 222 0) (c0 : 0 ≤ c) (c1 : c < 5) (hd : R32 dp) (hd2 : 0 ≤ dp ∧ dp ≤ 15) (hk : M (23 + 1) c = k) (hk3 : k = 4 ∨ k = 5) (ht : M (23 + 4) c = t) (ht2 : 0 ≤ t ∧ t ≤ 1000) : ∃ d, d < 5 ∧ Cm E mX1_answer d [vr 222, vi c, vi 0, vi dp] M (fgV k t) (lvs M (fgL k)) := by
  subst ht
  rcases hk3 with rfl | rfl
  · exact ⟨3, by decide, c_X1_answer c0 c1 (by omega) hd (by omega) hk (by rw [bf_0.2.2.2.1]; exact c_b13 h0 c0 c1 (by omega) (by omega) ht2)⟩
  · exact ⟨4, by decide, c_X1_answer c0 c1 (by omega) hd (by omega) hk (by rw [bf_0.2.2.2.2]; exact c_b14 h0 c0 c1 (by omega) (by omega) ht2)⟩
theorem c_aA {E : EV} {M : MM} {c k w t v : Int} (h0 : 0 ≤ M 222 0) (c0 : 0 ≤ c) (c1 : c < 5) (hk : M (23 + 1) c = k) (hk5 : 1 ≤ k ∧ k ≤ 5) (ht : M (23 + 4) c = t) (ht2 : 0 ≤ t ∧ t ≤ 1000) (hv : M (23 + 3) c = v) (hv2 : 0 ≤ v ∧ v ≤ 1000) (hw : w = 0 ∨ w = 1) : ∃ d, d < 8 ∧ Cm E mX1_answer d [vr 222, vi c, vi w, vi 0] M (akV k w c t v) (lvs M (akL k w)) := by
  have mkr : -50000 ≤ mkV k c v ∧ mkV k c v ≤ 50000 := by unfold mkV; (repeat' split) <;> omega
  have fgr : -100000 ≤ fgV k t ∧ fgV k t ≤ 100000 := by unfold fgV; (repeat' split) <;> omega
  rcases hw with rfl | rfl
  · by_cases h45 : k = 4 ∨ k = 5
    · obtain ⟨d, d1, d2⟩ := c_aF (E := E) (dp := 0) h0 c0 c1 (by omega) (by omega) hk h45 ht ht2
      refine ⟨d, by omega, ?_⟩
      have e1 : akV k 0 c t v = fgV k t := by unfold akV; rw [if_pos rfl, if_neg (by omega), if_pos h45]
      have e2 : akL k 0 = fgL k := by unfold akL; rw [if_pos rfl, if_neg (by omega), if_pos h45]
      rw [e1, e2]
      exact d2
    · by_cases h2 : k = 2
      · subst h2
        obtain ⟨d, d1, d2⟩ := c_aM (E := E) (M := lvM (lvM (lvM M 12) 11) 10) (dp := 0 + 1 + 1 + 1) (lv_0 (lv_0 (lv_0 h0))) c0 c1 (by omega) (by omega) (lv_k (lv_k (lv_k hk))) (by omega) (lv_w (lv_w (lv_w hv))) hv2
        refine ⟨7, by decide, c_X1_answer c0 c1 (by omega) (by omega) (by omega) hk ?_⟩
        rw [bf_0.2.1]
        have h11 := c_b11 (E := E) (M := lvM M 12) (dp := 0 + 1 + 1) (lv_0 h0) c0 c1 (by omega) (by omega) (by rw [lv_t ht]; exact ht2) mkr d1 d2
        rw [lv_t ht] at h11
        exact c_b12 h0 c0 c1 (by omega) (by omega) (by omega) (by decide) h11
      · obtain ⟨d, d1, d2⟩ := c_aM (E := E) (M := lvM (lvM M 11) 10) (dp := 0 + 1 + 1) (lv_0 (lv_0 h0)) c0 c1 (by omega) (by omega) (lv_k (lv_k hk)) (by omega) (lv_w (lv_w hv)) hv2
        refine ⟨6, by decide, c_X1_answer c0 c1 (by omega) (by omega) (by omega) hk ?_⟩
        have e0 : bfF 0 6 k = 11 := by rcases (show k = 1 ∨ k = 3 by omega) with rfl | rfl <;> decide +kernel
        have e1 : akV k 0 c t v = t + mkV k c v := by unfold akV; rw [if_pos rfl, if_neg h2, if_neg h45]
        have e2 : akL k 0 = 11 :: 10 :: mkL k := by unfold akL; rw [if_pos rfl, if_neg h2, if_neg h45]
        rw [e0, e1, e2, ← ht]
        exact c_b11 h0 c0 c1 (by omega) (by omega) (by rw [ht]; exact ht2) mkr d1 d2
  · by_cases h45 : k = 4 ∨ k = 5
    · obtain ⟨d, d1, d2⟩ := c_aF (E := E) (M := lvM (lvM M 23) 20) (dp := 0 + 1 + 1) (lv_0 (lv_0 h0)) c0 c1 (by omega) (by omega) (lv_k (lv_k hk)) h45 (lv_t (lv_t ht)) ht2
      refine ⟨6, by decide, c_X1_answer c0 c1 (by omega) (by omega) (by omega) hk ?_⟩
      have e0 : bfF 1 6 k = 23 := by rcases h45 with rfl | rfl <;> decide +kernel
      have e1 : akV k 1 c t v = c - fgV k t := by unfold akV; rw [if_neg (by decide), if_pos h45]
      have e2 : akL k 1 = 23 :: 20 :: fgL k := by unfold akL; rw [if_neg (by decide), if_pos h45]
      rw [e0, e1, e2]
      exact c_b23 h0 c0 c1 (by omega) (by omega) fgr d1 d2
    · obtain ⟨d, d1, d2⟩ := c_aM (E := E) (dp := 0) h0 c0 c1 (by omega) (by omega) hk (by omega) hv hv2
      refine ⟨d, by omega, ?_⟩
      have e1 : akV k 1 c t v = mkV k c v := by unfold akV; rw [if_neg (by decide), if_neg h45]
      have e2 : akL k 1 = mkL k := by unfold akL; rw [if_neg (by decide), if_neg h45]
      rw [e1, e2]
      exact d2
theorem c_ask {E : EV} {M : MM} {c k w t v : Int} (c0 : 0 ≤ c) (c1 : c < 5) (hk : M (23 + 1) c = k) (hk5 : 1 ≤ k ∧ k ≤ 5) (ht : M (23 + 4) c = t) (ht2 : 0 ≤ t ∧ t ≤ 1000) (hv : M (23 + 3) c = v) (hv2 : 0 ≤ v ∧ v ≤ 1000) (hw : w = 0 ∨ w = 1) : Cm E mX1_begin 8 [vr 222, vi c, vi w] M (akV k w c t v) (lvs (upM M 222 0 0) (akL k w)) := by
  obtain ⟨d, d1, d2⟩ := c_aA (E := E) (M := upM M 222 0 0) (by rw [upM_same]; omega) c0 c1 (by rw [upM_cell (by omega)]; exact hk) hk5 (by rw [upM_cell (by omega)]; exact ht) ht2 (by rw [upM_cell (by omega)]; exact hv) hv2 hw
  exact c_X1_begin d1 d2
