/-! ===== Sky: pairs ===== -/
def prB (S : SS) (c o : Nat) : Bool := decide (S (7 + 5 * (c : Int)) ≠ 0 ∧ S (7 + 5 * (o : Int)) ≠ 0 ∧ S (8 + 5 * (c : Int)) ≠ S (8 + 5 * (o : Int)) ∧ S (4 + 5 * (c : Int)) = S (4 + 5 * (o : Int)) ∧ S (6 + 5 * (c : Int)) = S (6 + 5 * (o : Int)))
theorem c_X6_isPair {E : EV} {M : MM} {a : Nat} {S : SS} {c o : Nat} (hS : SK a) (hV : SV M a S) (hn5 : S 0 ≤ 5) (c1 : (c : Int) < S 0) (o1 : (o : Int) < S 0) : Cm E mX6_isPair 1 [vr a, vi (c : Int), vi (o : Int)] M (bi (prB S c o)) M := by
  refine Ct.of [some (vr a), some (vi (c : Int)), some (vi (o : Int))] rfl rfl rfl (Nat.le_of_ble_eq_true rfl) ?_
  have k1 := hV.kind (c := (c : Int)) (by omega) c1
  have k3 := hV.wide (c := (c : Int)) (by omega) c1
  have k4 := hV.wet (c := (c : Int)) (by omega) c1
  have k5 := hV.hand (c := (c : Int)) (by omega) c1
  have q1 := hV.kind (c := (o : Int)) (by omega) o1
  have q3 := hV.wide (c := (o : Int)) (by omega) o1
  have q4 := hV.wet (c := (o : Int)) (by omega) o1
  have q5 := hV.hand (c := (o : Int)) (by omega) o1
  have fa : ¬ (S (7 + 5 * (c : Int)) ≠ 0 ∧ S (7 + 5 * (o : Int)) ≠ 0 ∧ S (8 + 5 * (c : Int)) ≠ S (8 + 5 * (o : Int)) ∧ S (4 + 5 * (c : Int)) = S (4 + 5 * (o : Int)) ∧ S (6 + 5 * (c : Int)) = S (6 + 5 * (o : Int))) → false = prB S c o := fun h => (decide_eq_false h).symm
  refine w_aload_n dX6_isPair_0 rfl ?_
  refine w_iload_n dX6_isPair_1 rfl ?_
  refine cVm dX6_isPair_2 ok_X6_isGone lv6_49 (c_X6_isGone hS (by omega) (by omega)) rfl (sk_k hS) (sk_n0 hS) (by decide) rfl (by decide) (Nat.le_of_ble_eq_true rfl) (fun r2 => ?_)
  refine w_ifB_ne (tgt := 65) dX6_isPair_5 (by decide) (fun h5 => ?_) (fun h5 => ?_)
  · try have h5' := of_decide_eq_true h5
    try have h13' := of_decide_eq_true h13
    refine w_iconst dX6_isPair_65 ?_
    refine w_zret (b := false) dX6_isPair_66 rfl ?_ ⟨Nat.le_refl _, Nat.le_refl _⟩
    first | exact q_b (fa (by omega)) | exact q_b (decide_eq_true (by omega)).symm
  · have h5 := of_decide_eq_false h5
    refine w_aload_n dX6_isPair_8 rfl ?_
    refine w_iload_n dX6_isPair_9 rfl ?_
    refine cVm dX6_isPair_10 ok_X6_isGone lv6_49 (c_X6_isGone hS (by omega) (by omega)) rfl (sk_k hS) (sk_n0 hS) (by decide) rfl (by decide) (Nat.le_of_ble_eq_true rfl) (fun r10 => ?_)
    refine w_ifB_ne (tgt := 65) dX6_isPair_13 (by decide) (fun h13 => ?_) (fun h13 => ?_)
    · try have h5' := of_decide_eq_true h5
      try have h13' := of_decide_eq_true h13
      refine w_iconst dX6_isPair_65 ?_
      refine w_zret (b := false) dX6_isPair_66 rfl ?_ ⟨Nat.le_refl _, Nat.le_refl _⟩
      first | exact q_b (fa (by omega)) | exact q_b (decide_eq_true (by omega)).symm
    · have h13 := of_decide_eq_false h13
      refine w_aload_n dX6_isPair_16 rfl ?_
      refine w_getR (r := (a + 5)) dX6_isPair_17 fl6_24 (sk_g0 hS) (sk_n0 hS) rfl ?_
      refine w_iload_n dX6_isPair_20 rfl ?_
      refine r_ild dX6_isPair_21 (sk_g5 hS) (sk_n5 hS) (by omega) (by omega) (by decide) (fun r21 => ?_)
      refine w_aload_n dX6_isPair_22 rfl ?_
      refine w_getR (r := (a + 5)) dX6_isPair_23 fl6_24 (sk_g0 hS) (sk_n0 hS) rfl ?_
      refine w_iload_n dX6_isPair_26 rfl ?_
      refine r_ild dX6_isPair_27 (sk_g5 hS) (sk_n5 hS) (by omega) (by omega) (by decide) (fun r27 => ?_)
      refine w_icmp_eq (tgt := 65) dX6_isPair_28 (by decide) (by omega) (by omega) (fun h28 => ?_) (fun h28 => ?_)
      · try have h5' := of_decide_eq_true h5
        try have h13' := of_decide_eq_true h13
        refine w_iconst dX6_isPair_65 ?_
        refine w_zret (b := false) dX6_isPair_66 rfl ?_ ⟨Nat.le_refl _, Nat.le_refl _⟩
        first | exact q_b (fa (by omega)) | exact q_b (decide_eq_true (by omega)).symm
      · refine w_aload_n dX6_isPair_31 rfl ?_
        refine w_getR (r := (a + 1)) dX6_isPair_32 fl6_9 (sk_g0 hS) (sk_n0 hS) rfl ?_
        refine w_iload_n dX6_isPair_35 rfl ?_
        refine r_ild dX6_isPair_36 (sk_g1 hS) (sk_n1 hS) (by omega) (by omega) (by decide) (fun r36 => ?_)
        refine w_aload_n dX6_isPair_37 rfl ?_
        refine w_getR (r := (a + 1)) dX6_isPair_38 fl6_9 (sk_g0 hS) (sk_n0 hS) rfl ?_
        refine w_iload_n dX6_isPair_41 rfl ?_
        refine r_ild dX6_isPair_42 (sk_g1 hS) (sk_n1 hS) (by omega) (by omega) (by decide) (fun r42 => ?_)
        refine w_icmp_ne (tgt := 65) dX6_isPair_43 (by decide) (by omega) (by omega) (fun h43 => ?_) (fun h43 => ?_)
        · try have h5' := of_decide_eq_true h5
          try have h13' := of_decide_eq_true h13
          refine w_iconst dX6_isPair_65 ?_
          refine w_zret (b := false) dX6_isPair_66 rfl ?_ ⟨Nat.le_refl _, Nat.le_refl _⟩
          first | exact q_b (fa (by omega)) | exact q_b (decide_eq_true (by omega)).symm
        · refine w_aload_n dX6_isPair_46 rfl ?_
          refine w_getR (r := (a + 3)) dX6_isPair_47 fl6_18 (sk_g0 hS) (sk_n0 hS) rfl ?_
          refine w_iload_n dX6_isPair_50 rfl ?_
          refine r_ild dX6_isPair_51 (sk_g3 hS) (sk_n3 hS) (by omega) (by omega) (by decide) (fun r51 => ?_)
          refine w_aload_n dX6_isPair_52 rfl ?_
          refine w_getR (r := (a + 3)) dX6_isPair_53 fl6_18 (sk_g0 hS) (sk_n0 hS) rfl ?_
          refine w_iload_n dX6_isPair_56 rfl ?_
          refine r_ild dX6_isPair_57 (sk_g3 hS) (sk_n3 hS) (by omega) (by omega) (by decide) (fun r57 => ?_)
          refine w_icmp_ne (tgt := 65) dX6_isPair_58 (by decide) (by omega) (by omega) (fun h58 => ?_) (fun h58 => ?_)
          · try have h5' := of_decide_eq_true h5
            try have h13' := of_decide_eq_true h13
            refine w_iconst dX6_isPair_65 ?_
            refine w_zret (b := false) dX6_isPair_66 rfl ?_ ⟨Nat.le_refl _, Nat.le_refl _⟩
            first | exact q_b (fa (by omega)) | exact q_b (decide_eq_true (by omega)).symm
          · refine w_iconst dX6_isPair_61 ?_
            refine w_goto (tgt := 66) dX6_isPair_62 (by decide) ?_
            refine w_zret (b := true) dX6_isPair_66 rfl ?_ ⟨Nat.le_refl _, Nat.le_refl _⟩
            first | exact q_b (fa (by omega)) | exact q_b (decide_eq_true (by omega)).symm
def inS (S : SS) (c j : Nat) : Int := sumI j (fun i => if prB S c (c + 1 + i) = true then 1 else 0)
def alkF (S : SS) : Int := sumI (S 0).toNat (fun c => inS S c ((S 0).toNat - 1 - c))
theorem inS_r (S : SS) (c j : Nat) : 0 ≤ inS S c j ∧ inS S c j ≤ j := by
  have := sumI_le (n := j) (g := fun i => if prB S c (c + 1 + i) = true then 1 else 0) (B := 1) (fun i hi => by split <;> omega)
  unfold inS
  omega
theorem l_X6_alikeIn {E : EV} {M : MM} {a : Nat} {S : SS} {Q : PP} {s0 : Int} {c : Nat} (hS : SK a) (hV : SV M a S) (hn : 0 ≤ S 0 ∧ S 0 ≤ 5) (hc : (c : Int) < S 0) (hs : 0 ≤ s0 ∧ s0 ≤ 100)
    (hQ : Wp E mX6_alikePairs (kd 2) 42 [some (vr a), some (vi (s0 + inS S c ((S 0).toNat - 1 - c))), some (vi (c : Int)), some (vi (S 0))] [] N0 G0 M Q) :
    ∀ (k j : Nat) (z s : Int), z = (c : Int) + 1 + j → s = s0 + inS S c j → (c : Int) + 1 + j ≤ S 0 → (S 0).toNat - j < k → Wp E mX6_alikePairs (kd 2) 16 [some (vr a), some (vi s), some (vi (c : Int)), some (vi z)] [] N0 G0 M Q := by
  intro k
  induction k with
  | zero => intro j z s hz hs hj hk; exact absurd hk (by omega)
  | succ k ih =>
    intro j z s hz hs2 hj hk
    subst hs2
    obtain rfl : z = ((c + 1 + j : Nat) : Int) := by omega
    have eN := hV.num
    have hr := inS_r S c j
    refine w_iload_n dX6_alikePairs_16 rfl ?_
    refine w_aload_n dX6_alikePairs_17 rfl ?_
    refine r_getI (q := 0) dX6_alikePairs_18 fl6_30 (sk_g0 hS) (sk_n0 hS) rfl (by decide) rfl (fun r18 => ?_)
    refine w_icmp_ge (tgt := 42) dX6_alikePairs_21 (by decide) (by omega) (by omega) (fun h9 => ?_) (fun h9 => ?_)
    · have ej : (S 0).toNat - 1 - c = j := by omega
      rw [ej] at hQ
      rw [show ((c + 1 + j : Nat) : Int) = S 0 by omega]
      exact hQ
    · refine w_aload_n dX6_alikePairs_24 rfl ?_
      refine w_iload_n dX6_alikePairs_25 rfl ?_
      refine w_iload_n dX6_alikePairs_26 rfl ?_
      refine cVm dX6_alikePairs_27 ok_X6_isPair lv6_93 (c_X6_isPair hS hV hn.2 (by omega) (by omega)) rfl (sk_k hS) (sk_n0 hS) (by decide) rfl (by decide) (Nat.le_of_ble_eq_true rfl) (fun r27 => ?_)
      refine w_ifB_eq (tgt := 36) dX6_alikePairs_30 (by decide) (fun h30 => ?_) (fun h30 => ?_)
      · refine w_iinc dX6_alikePairs_36 rfl (by decide) ?_
        refine w_goto (tgt := 16) dX6_alikePairs_39 (by decide) ?_
        first | exact ih (j + 1) _ _ (by omega) (by unfold inS; rw [sumI, if_pos h30]; omega) (by omega) (by omega) | exact ih (j + 1) _ _ (by omega) (by unfold inS; rw [sumI, if_neg (by rw [h30]; decide)]; omega) (by omega) (by omega)
      · refine w_iinc dX6_alikePairs_33 rfl (by decide) ?_
        refine w_iinc dX6_alikePairs_36 rfl (by decide) ?_
        refine w_goto (tgt := 16) dX6_alikePairs_39 (by decide) ?_
        first | exact ih (j + 1) _ _ (by omega) (by unfold inS; rw [sumI, if_pos h30]; omega) (by omega) (by omega) | exact ih (j + 1) _ _ (by omega) (by unfold inS; rw [sumI, if_neg (by rw [h30]; decide)]; omega) (by omega) (by omega)
theorem l_X6_alikePairs {E : EV} {M : MM} {a : Nat} {S : SS} (hS : SK a) (hV : SV M a S) (hn : 0 ≤ S 0 ∧ S 0 ≤ 5) :
    ∀ (k c : Nat) (z s : Int) (x3 : Option AV), z = c → s = sumI c (fun c => inS S c ((S 0).toNat - 1 - c)) → (c : Int) ≤ S 0 → (S 0).toNat - c < k → Wp E mX6_alikePairs (kd 2) 4 [some (vr a), some (vi s), some (vi z), x3] [] N0 G0 M (Pm (alkF S) M) := by
  intro k
  induction k with
  | zero => intro c z s x3 hz hs hc hk; exact absurd hk (by omega)
  | succ k ih =>
    intro c z s x3 hz hs hc hk
    subst hz
    subst hs
    have eN := hV.num
    have hle := sumI_le (n := c) (g := fun c => inS S c ((S 0).toNat - 1 - c)) (B := 4) (fun i hi => by have := inS_r S i ((S 0).toNat - 1 - i); omega)
    refine w_iload_n dX6_alikePairs_4 rfl ?_
    refine w_aload_n dX6_alikePairs_5 rfl ?_
    refine r_getI (q := 0) dX6_alikePairs_6 fl6_30 (sk_g0 hS) (sk_n0 hS) rfl (by decide) rfl (fun r6 => ?_)
    refine w_icmp_ge (tgt := 48) dX6_alikePairs_9 (by decide) (by omega) (by omega) (fun hc => ?_) (fun hc => ?_)
    · have ec : (S 0).toNat = c := by omega
      refine w_iload_n dX6_alikePairs_48 rfl ?_
      refine w_iret dX6_alikePairs_49 rfl (by omega) ?_ ⟨Nat.le_refl _, Nat.le_refl _⟩
      exact (q_i (by unfold alkF; rw [ec]))
    · refine w_iload_n dX6_alikePairs_12 rfl ?_
      refine w_iconst dX6_alikePairs_13 ?_
      refine w_iadd dX6_alikePairs_14 ?_
      refine w_istore_n dX6_alikePairs_15 (by decide) ?_
      refine l_X6_alikeIn (s0 := sumI c (fun c => inS S c ((S 0).toNat - 1 - c))) hS hV hn (by omega) (by omega) ?_ 6 0 _ _ (by omega) (by show _ = _ + (0 : Int); omega) (by omega) (by omega)
      have hr := inS_r S c ((S 0).toNat - 1 - c)
      refine w_iinc dX6_alikePairs_42 rfl (by decide) ?_
      refine w_goto (tgt := 4) dX6_alikePairs_45 (by decide) ?_
      exact ih (c + 1) _ _ _ (by omega) rfl (by omega) (by omega)
theorem c_X6_alikePairs {E : EV} {M : MM} {a : Nat} {S : SS} (hS : SK a) (hV : SV M a S) (hn : 0 ≤ S 0 ∧ S 0 ≤ 5) : Cm E mX6_alikePairs 2 [vr a] M (alkF S) M := by
  refine Ct.of [some (vr a), none, none, none] rfl rfl rfl (Nat.le_of_ble_eq_true rfl) ?_
  refine w_iconst dX6_alikePairs_0 ?_
  refine w_istore_n dX6_alikePairs_1 (by decide) ?_
  refine w_iconst dX6_alikePairs_2 ?_
  refine w_istore_n dX6_alikePairs_3 (by decide) ?_
  exact l_X6_alikePairs hS hV hn ((S 0).toNat + 1) 0 _ _ _ rfl rfl (by omega) (by omega)
/-- the first pair: its two numbers, or none -/
def fpO (S : SS) (c : Nat) : Nat → Nat → Option Int
  | _, 0 => none
  | o, k + 1 => if prB S c o = true then some (10 * (c : Int) + (o : Int)) else fpO S c (o + 1) k
def fpC (S : SS) (n : Nat) : Nat → Nat → Int
  | _, 0 => -1000000
  | c, k + 1 => match fpO S c (c + 1) (n - 1 - c) with
    | some z => z
    | none => fpC S n (c + 1) k
theorem fpO_r {S : SS} {c : Nat} : ∀ (k o : Nat) (z : Int), c + 1 ≤ 5 → o + k ≤ 5 → fpO S c o k = some z → 0 ≤ z ∧ z ≤ 100
  | 0, _, _, _, _, h => by cases h
  | k + 1, o, z, hc, ho, h => by
    rw [fpO] at h
    split at h
    · cases h; omega
    · exact fpO_r k (o + 1) z hc (by omega) h
theorem l_X6_firstIn {E : EV} {M : MM} {a : Nat} {S : SS} {c : Nat} {P : Int → Prop} (hS : SK a) (hV : SV M a S) (hn : 0 ≤ S 0 ∧ S 0 ≤ 5) (hc : (c : Int) < S 0) (hP : ∀ z, fpO S c (c + 1) ((S 0).toNat - 1 - c) = some z → P z)
    (hQ : fpO S c (c + 1) ((S 0).toNat - 1 - c) = none → Wp E mX6_firstAlikePair (kd 2) 44 [some (vr a), some (vi (c : Int)), some (vi (S 0))] [] N0 G0 M (Px (fun z m => P z ∧ m = M))) :
    ∀ (k o : Nat) (z : Int), z = o → c + 1 ≤ o → o + k = (S 0).toNat → fpO S c (c + 1) ((S 0).toNat - 1 - c) = fpO S c o k → Wp E mX6_firstAlikePair (kd 2) 14 [some (vr a), some (vi (c : Int)), some (vi z)] [] N0 G0 M (Px (fun z m => P z ∧ m = M)) := by
  intro k
  have eN := hV.num
  induction k with
  | zero =>
    intro o z hz ho hk he
    subst hz
    refine w_iload_n dX6_firstAlikePair_14 rfl ?_
    refine w_aload_n dX6_firstAlikePair_15 rfl ?_
    refine r_getI (q := 0) dX6_firstAlikePair_16 fl6_30 (sk_g0 hS) (sk_n0 hS) rfl (by decide) rfl (fun r16 => ?_)
    refine w_icmp_ge (tgt := 44) dX6_firstAlikePair_19 (by decide) (by omega) (by omega) (fun h19 => ?_) (fun h19 => ?_)
    · rw [show ((o : Nat) : Int) = S 0 by omega]
      exact hQ he
    · exact absurd h19 (by omega)
  | succ k ih =>
    intro o z hz ho hk he
    subst hz
    refine w_iload_n dX6_firstAlikePair_14 rfl ?_
    refine w_aload_n dX6_firstAlikePair_15 rfl ?_
    refine r_getI (q := 0) dX6_firstAlikePair_16 fl6_30 (sk_g0 hS) (sk_n0 hS) rfl (by decide) rfl (fun r16 => ?_)
    refine w_icmp_ge (tgt := 44) dX6_firstAlikePair_19 (by decide) (by omega) (by omega) (fun h19 => ?_) (fun h19 => ?_)
    · exact absurd h19 (by omega)
    · refine w_aload_n dX6_firstAlikePair_22 rfl ?_
      refine w_iload_n dX6_firstAlikePair_23 rfl ?_
      refine w_iload_n dX6_firstAlikePair_24 rfl ?_
      refine cVm dX6_firstAlikePair_25 ok_X6_isPair lv6_93 (c_X6_isPair hS hV hn.2 (by omega) (by omega)) rfl (sk_k hS) (sk_n0 hS) (by decide) rfl (by decide) (Nat.le_of_ble_eq_true rfl) (fun r25 => ?_)
      refine w_ifB_eq (tgt := 38) dX6_firstAlikePair_28 (by decide) (fun h28 => ?_) (fun h28 => ?_)
      · refine w_iinc dX6_firstAlikePair_38 rfl (by decide) ?_
        refine w_goto (tgt := 14) dX6_firstAlikePair_41 (by decide) ?_
        exact ih (o + 1) _ (by omega) (by omega) (by omega) (by rw [he, fpO, if_neg (by rw [h28]; decide)])
      · refine w_bipush dX6_firstAlikePair_31 (by decide +kernel) ?_
        refine w_iload_n dX6_firstAlikePair_33 rfl ?_
        refine w_imul dX6_firstAlikePair_34 ?_
        refine w_iload_n dX6_firstAlikePair_35 rfl ?_
        refine w_iadd dX6_firstAlikePair_36 ?_
        refine w_iret dX6_firstAlikePair_37 rfl (by omega) ?_ ⟨Nat.le_refl _, Nat.le_refl _⟩
        exact (q_x ⟨hP _ (by rw [he, fpO, if_pos h28]), rfl⟩)
theorem l_X6_firstAlikePair {E : EV} {M : MM} {a : Nat} {S : SS} (hS : SK a) (hV : SV M a S) (hn : 0 ≤ S 0 ∧ S 0 ≤ 5) :
    ∀ (k c : Nat) (z : Int) (x2 : Option AV), z = c → c + k = (S 0).toNat → Wp E mX6_firstAlikePair (kd 2) 2 [some (vr a), some (vi z), x2] [] N0 G0 M (Px (fun z m => z = fpC S (S 0).toNat c k ∧ m = M)) := by
  intro k
  have eN := hV.num
  induction k with
  | zero =>
    intro c z x2 hz hk
    subst hz
    refine w_iload_n dX6_firstAlikePair_2 rfl ?_
    refine w_aload_n dX6_firstAlikePair_3 rfl ?_
    refine r_getI (q := 0) dX6_firstAlikePair_4 fl6_30 (sk_g0 hS) (sk_n0 hS) rfl (by decide) rfl (fun r4 => ?_)
    refine w_icmp_ge (tgt := 50) dX6_firstAlikePair_7 (by decide) (by omega) (by omega) (fun h7 => ?_) (fun h7 => ?_)
    · refine w_ldc dX6_firstAlikePair_50 co6_97 ?_
      refine w_iret dX6_firstAlikePair_52 rfl (by omega) ?_ ⟨Nat.le_refl _, Nat.le_refl _⟩
      exact (q_x ⟨rfl, rfl⟩)
    · exact absurd h7 (by omega)
  | succ k ih =>
    intro c z x2 hz hk
    subst hz
    refine w_iload_n dX6_firstAlikePair_2 rfl ?_
    refine w_aload_n dX6_firstAlikePair_3 rfl ?_
    refine r_getI (q := 0) dX6_firstAlikePair_4 fl6_30 (sk_g0 hS) (sk_n0 hS) rfl (by decide) rfl (fun r4 => ?_)
    refine w_icmp_ge (tgt := 50) dX6_firstAlikePair_7 (by decide) (by omega) (by omega) (fun h7 => ?_) (fun h7 => ?_)
    · exact absurd h7 (by omega)
    · refine w_iload_n dX6_firstAlikePair_10 rfl ?_
      refine w_iconst dX6_firstAlikePair_11 ?_
      refine w_iadd dX6_firstAlikePair_12 ?_
      refine w_istore_n dX6_firstAlikePair_13 (by decide) ?_
      refine l_X6_firstIn (c := c) (P := fun z => z = fpC S (S 0).toNat c (k + 1)) hS hV hn (by omega) (fun z hz => by show z = fpC S _ c (k + 1); rw [fpC, hz]) (fun hz => ?_) ((S 0).toNat - 1 - c) (c + 1) _ (by omega) (by omega) (by omega) rfl
      refine w_iinc dX6_firstAlikePair_44 rfl (by decide) ?_
      refine w_goto (tgt := 2) dX6_firstAlikePair_47 (by decide) ?_
      rw [show fpC S (S 0).toNat c (k + 1) = fpC S (S 0).toNat (c + 1) k from by rw [fpC, hz]]
      exact ih (c + 1) _ _ (by omega) (by omega)
theorem c_X6_firstAlikePair {E : EV} {M : MM} {a : Nat} {S : SS} (hS : SK a) (hV : SV M a S) (hn : 0 ≤ S 0 ∧ S 0 ≤ 5) : Cx E mX6_firstAlikePair 2 [vr a] M (fun z m => z = fpC S (S 0).toNat 0 (S 0).toNat ∧ m = M) := by
  refine Ct.of [some (vr a), none, none] rfl rfl rfl (Nat.le_of_ble_eq_true rfl) ?_
  refine w_iconst dX6_firstAlikePair_0 ?_
  refine w_istore_n dX6_firstAlikePair_1 (by decide) ?_
  exact l_X6_firstAlikePair hS hV hn (S 0).toNat 0 _ _ rfl (by omega)
