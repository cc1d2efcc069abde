theorem setN_t {P : Nat → Bool} {c : Nat} (h : P c = true) : setN (c + 1) P = (setN c P ||| 2 ^ c) := by rw [setN, if_pos h]
theorem setN_f {P : Nat → Bool} {c : Nat} (h : P c = false) : setN (c + 1) P = setN c P := by rw [setN, if_neg (by rw [h]; decide), Nat.or_zero]
theorem b_1shlN {c : Nat} (h : c < 31) : i32 1 <<< (i32 (c : Int) &&& 31) = i32 ((2 ^ c : Nat) : Int) := b_1shl (k := (c : Int)) (by omega) (by omega)
theorem setN_r {P : Nat → Bool} {n : Nat} (h : n ≤ 30) : (0 : Int) ≤ ((setN n P : Nat) : Int) ∧ ((setN n P : Nat) : Int) < 2147483648 := by
  have h1 : setN n P < 2 ^ 30 := setN_pow h
  omega
theorem SOK.cl {B : Int} {S : SS} (h : SOK B S) {c : Int} (h0 : 0 ≤ c) (h1 : c < S 0) : (1 ≤ S (4 + 5 * c) ∧ S (4 + 5 * c) ≤ 5) ∧ (0 ≤ S (5 + 5 * c) ∧ S (5 + 5 * c) ≤ 15) ∧ (1 ≤ S (6 + 5 * c) ∧ S (6 + 5 * c) ≤ 8) ∧ (0 ≤ S (7 + 5 * c) ∧ S (7 + 5 * c) ≤ 99) ∧ 0 ≤ S (8 + 5 * c) ∧ S (8 + 5 * c) ≤ 9 := h.2.2.2.2.1 c h0 h1
theorem mvF_ne {S : SS} {c q : Int} (h1 : q ≠ 5 + 5 * c) (h2 : q ≠ 6 + 5 * c) (h3 : q ≠ 7 + 5 * c) : mvF S c q = S q := by
  rw [mvF_at]
  by_cases ht : S (7 + 5 * c) = 0
  · rw [if_pos ht]
  · rw [if_neg ht, if_neg h1, if_neg h2, if_neg h3]
theorem cpM_cell {M : MM} {a b i : Nat} {sp dp z : Int} (h : i ≠ b) : cpM M a b sp dp z i = M i := by funext q; simp [cpM, h]
theorem cpM_at {M : MM} {a b : Nat} {z q : Int} (h1 : 0 ≤ q) (h2 : q < z) : cpM M a b 0 0 z b q = M a q := by
  unfold cpM
  rw [if_pos ⟨rfl, by omega, by omega⟩]
  congr 1
  omega
/-! a day of the class's sky -/
theorem bc_fl {B : Int} {S : SS} (h : SOK B S) {c : Int} (h0 : 0 ≤ c) (h1 : c < S 0) : ((bcN (flF S c) : Nat) : Int) * raF S c = onF S c := by
  unfold flF onF
  by_cases hq : S (7 + 5 * c) = 0 ∨ neF S c = 0 ∨ S (7 + 5 * c) < neF S c
  · rw [if_pos hq, if_pos hq, show bcN 0 = 0 by decide +kernel]
    simp
  · rw [if_neg hq, if_neg hq]
    have a := plF_r S c
    have b := wdF_r h h0 h1
    have k := bc_span (plF S c).toNat (by omega) (wdF S c).toNat (by omega)
    rw [show (((plF S c).toNat : Nat) : Int) = plF S c by omega, show (((wdF S c).toNat : Nat) : Int) = wdF S c by omega] at k
    rw [k, show (((wdF S c).toNat : Nat) : Int) = wdF S c by omega]
    rfl
theorem flF_lt (S : SS) (c : Int) : flF S c < 65536 := by
  unfold flF
  split
  · omega
  · exact spanF_lt _ _
theorem l_X6_passDay {E : EV} {M : MM} {a : Nat} {S : SS} {B : Int} (hS : SK a) (hO : SOK B S) (hB : B ≤ 100000) (hD : S 3 ≤ 100000) :
    ∀ (k : Nat) (c : Nat) (z al : Int) (m : MM) (x3 x4 : Option AV), z = c → al = fellS (clsF S c) - fellS S → (c : Int) ≤ S 0 → (S 0).toNat - c < k → SV m a (clsF S c) → Fr a M m → Wp E mX6_passDay (kd 5) 4 [some (vr a), some (vi al), some (vi z), x3, x4] [] N0 G0 m (Px (fun z m => z = fellS (dyF S) - fellS S ∧ SV m a (dyF S) ∧ Fr a M m)) := by
  intro k
  induction k with
  | zero => intro c z al m x3 x4 hz hal hc hk; exact absurd hk (by omega)
  | succ k ih =>
    intro c z al m x3 x4 hz hal hc hk hV hF
    subst hz
    have hn := hO.1
    have e0 : clsF S c 0 = S 0 := clsF_low (by omega) c
    have eN : m a 0 = S 0 := by rw [hV.num, e0]
    have hT := SOK_cls hO c hc
    have hfr := fellS_r hT
    have hf0 := fellS_r hO
    have hco : (c : Int) < S 0 → (c : Int) < clsF S c 0 := fun h => by rw [e0]; exact h
    refine w_iload_n dX6_passDay_4 rfl ?_
    refine w_aload_n dX6_passDay_5 rfl ?_
    refine r_getI (q := 0) dX6_passDay_6 fl6_30 (sk_g0 hS) (sk_n0 hS) rfl (by decide) rfl (fun r6 => ?_)
    refine w_icmp_ge (tgt := 48) dX6_passDay_9 (by decide) (by omega) (by omega) (fun hc => ?_) (fun hc => ?_)
    · have ec : (S 0).toNat = c := by omega
      have e3 : m a 3 = S 3 := by rw [hV.day, clsF_low (by omega)]
      refine w_aload_n dX6_passDay_48 rfl ?_
      refine w_dup dX6_passDay_49 rfl ?_
      refine r_getI (q := 3) dX6_passDay_50 fl6_40 (sk_g0 hS) (sk_n0 hS) rfl (by decide) rfl (fun r50 => ?_)
      refine w_iconst dX6_passDay_53 ?_
      refine w_iadd dX6_passDay_54 ?_
      refine r_putI (q := 3) dX6_passDay_55 fl6_40 (sk_g0 hS) (sk_n0 hS) rfl (by decide) (by omega) rfl (by decide +kernel) rfl ?_
      refine wgen (fun m2 => SV m2 a (dyF S) ∧ Fr a M m2) ⟨(hV.p_fld (j := 3) (by omega) (by omega) (by rw [e3])).congr (fun q => by rw [upS_at]; unfold dyF; rw [ec]), hF.up (by omega)⟩ (fun m2 hm2 => ?_)
      refine w_iload_n dX6_passDay_58 rfl ?_
      refine w_iret dX6_passDay_59 rfl (by omega) ?_ ⟨Nat.le_refl _, Nat.le_refl _⟩
      exact (q_x ⟨by rw [fellS_dy, ec]; exact hal, hm2.1, hm2.2⟩)
    · have hc0 : (c : Int) < clsF S c 0 := hco (by omega)
      have hfl := flF_lt (clsF S c) (c : Int)
      have hra := raF_r (clsF S c) (c : Int)
      have hon := onF_r hT (by omega) hc0
      refine w_aload_n dX6_passDay_12 rfl ?_
      refine w_iload_n dX6_passDay_13 rfl ?_
      refine cVx dX6_passDay_14 ok_X6_goOn lv6_72 (c_X6_goOn hS hV hT (by omega) hc0) rfl (sk_k hS) (sk_n0 hS) (by decide) rfl (by decide) (Nat.le_of_ble_eq_true rfl) (fun z14 m14 r14 p14 => ?_)
      obtain ⟨rfl, hV2, hF2⟩ := p14
      have f0 : mvF (clsF S c) (c : Int) 0 = S 0 := by rw [mvF_ne (by omega) (by omega) (by omega), e0]
      have f1 : m14 (a + 1) (c : Int) = clsF S c (4 + 5 * (c : Int)) := by rw [hV2.kind (by omega) (by rw [f0]; omega), mvF_ne (by omega) (by omega) (by omega)]
      have f3 : m14 a 3 = clsF S c 3 := by rw [hV2.day, mvF_ne (by omega) (by omega) (by omega)]
      have hfe : ∀ f : Int, 0 ≤ f → f < 16 → 0 ≤ mvF (clsF S c) (c : Int) (29 + f) ∧ mvF (clsF S c) (c : Int) (29 + f) ≤ B + 2 * c := fun f g0 g1 => by rw [mvF_ne (by omega) (by omega) (by omega)]; exact hT.2.2.2.2.2 f g0 g1
      refine w_istore_n dX6_passDay_17 (by decide) ?_
      refine w_aload_n dX6_passDay_18 rfl ?_
      refine w_iload_n dX6_passDay_19 rfl ?_
      refine cVm dX6_passDay_20 ok_X6_rain lv6_53 (c_X6_rain hS (by omega) (by omega)) rfl (sk_k hS) (sk_n0 hS) (by decide) rfl (by decide) (Nat.le_of_ble_eq_true rfl) (fun r20 => ?_)
      rw [show rainF (m14 (a + 1) (c : Int)) (m14 a 3) = raF (clsF S c) (c : Int) from by rw [f1, f3]; rfl]
      refine w_istore dX6_passDay_23 (by decide) ?_
      refine w_aload_n dX6_passDay_25 rfl ?_
      refine w_iload_n dX6_passDay_26 rfl ?_
      refine w_iload dX6_passDay_27 rfl ?_
      refine cVxv dX6_passDay_29 ok_X6_rainOn lv6_75 (c_X6_rainOn hS hfl hra.1 hra.2 (by omega) (by rw [f0]; omega) hfe hV2) rfl (sk_k hS) (sk_n0 hS) (by decide) rfl (by decide) (Nat.le_of_ble_eq_true rfl) (fun m29 p29 => ?_)
      obtain ⟨hV3, hF3⟩ := p29
      refine w_iload_n dX6_passDay_32 rfl ?_
      refine w_iload_n dX6_passDay_33 rfl ?_
      refine cSm dX6_passDay_34 ok_J6_bitCount_0f7a4 (Or.inl ls6_79) (c_J6_bitCount_0f7a4 (by omega)) rfl  rfl (by decide) (Nat.le_of_ble_eq_true rfl) (fun r34 => ?_)
      have hbc := bc_fl hT (by omega) hc0
      refine w_iload dX6_passDay_37 rfl ?_
      refine w_imul dX6_passDay_39 ?_
      rw [hbc]
      refine w_iadd dX6_passDay_40 ?_
      refine w_istore_n dX6_passDay_41 (by decide) ?_
      refine w_iinc dX6_passDay_42 rfl (by decide) ?_
      refine w_goto (tgt := 4) dX6_passDay_45 (by decide) ?_
      exact ih (c + 1) _ _ _ _ _ (by omega) (by rw [clsF, fellS_cl hT (by omega) hc0]; omega) (by omega) (by omega) hV3 ((hF.trans hF2).trans hF3)
theorem c_X6_passDay {E : EV} {M : MM} {a : Nat} {S : SS} {B : Int} (hS : SK a) (hV : SV M a S) (hO : SOK B S) (hB : B ≤ 100000) (hD : S 3 ≤ 100000) : Cx E mX6_passDay 5 [vr a] M (fun z m => z = fellS (dyF S) - fellS S ∧ SV m a (dyF S) ∧ Fr a M m) := by
  refine Ct.of [some (vr a), none, none, none, none] rfl rfl rfl (Nat.le_of_ble_eq_true rfl) ?_
  have hn := hO.1
  refine w_iconst dX6_passDay_0 ?_
  refine w_istore_n dX6_passDay_1 (by decide) ?_
  refine w_iconst dX6_passDay_2 ?_
  refine w_istore_n dX6_passDay_3 (by decide) ?_
  exact l_X6_passDay hS hO hB hD ((S 0).toNat + 1) 0 _ _ _ _ _ rfl (by show (0 : Int) = fellS S - fellS S; omega) (by omega) (by omega) hV (Fr.refl a M)
/-! the sky as it was -/
theorem c_X6_become {E : EV} {M : MM} {a b : Nat} {S : SS} (hS : SK a) (hS2 : SK b) (hab : a + 6 < b ∨ b + 6 < a) (hV : SV M b S) (h5 : S 0 ≤ 5) : Cxv E mX6_become 1 [vr a, vr b] M (fun m => SV m a S ∧ Fr a M m) := by
  refine Ct.of [some (vr a), some (vr b)] rfl rfl rfl (Nat.le_of_ble_eq_true rfl) ?_
  refine w_aload_n dX6_become_0 rfl ?_
  refine w_aload_n dX6_become_1 rfl ?_
  refine r_getI (q := 0) dX6_become_2 fl6_30 (sk_g0 hS2) (sk_n0 hS2) rfl (by decide) rfl (fun r2 => ?_)
  refine r_putI (q := 0) dX6_become_5 fl6_30 (sk_g0 hS) (sk_n0 hS) rfl (by decide) (by omega) rfl (by decide +kernel) rfl ?_
  refine w_aload_n dX6_become_8 rfl ?_
  refine w_aload_n dX6_become_9 rfl ?_
  refine r_getI (q := 1) dX6_become_10 fl6_34 (sk_g0 hS2) (sk_n0 hS2) rfl (by decide) rfl (fun r10 => ?_)
  refine r_putI (q := 1) dX6_become_13 fl6_34 (sk_g0 hS) (sk_n0 hS) rfl (by decide) (by omega) rfl (by decide +kernel) rfl ?_
  refine w_aload_n dX6_become_16 rfl ?_
  refine w_aload_n dX6_become_17 rfl ?_
  refine r_getI (q := 2) dX6_become_18 fl6_37 (sk_g0 hS2) (sk_n0 hS2) rfl (by decide) rfl (fun r18 => ?_)
  refine r_putI (q := 2) dX6_become_21 fl6_37 (sk_g0 hS) (sk_n0 hS) rfl (by decide) (by omega) rfl (by decide +kernel) rfl ?_
  refine w_aload_n dX6_become_24 rfl ?_
  refine w_aload_n dX6_become_25 rfl ?_
  refine r_getI (q := 3) dX6_become_26 fl6_40 (sk_g0 hS2) (sk_n0 hS2) rfl (by decide) rfl (fun r26 => ?_)
  refine r_putI (q := 3) dX6_become_29 fl6_40 (sk_g0 hS) (sk_n0 hS) rfl (by decide) (by omega) rfl (by decide +kernel) rfl ?_
  refine w_aload_n dX6_become_32 rfl ?_
  refine w_getR (r := (b + 1)) dX6_become_33 fl6_9 (sk_g0 hS2) (sk_n0 hS2) rfl ?_
  refine w_iconst dX6_become_36 ?_
  refine w_aload_n dX6_become_37 rfl ?_
  refine w_getR (r := (a + 1)) dX6_become_38 fl6_9 (sk_g0 hS) (sk_n0 hS) rfl ?_
  refine w_iconst dX6_become_41 ?_
  refine w_iconst dX6_become_42 ?_
  refine r_copy dX6_become_43 lc6_43 (sk_g1 hS2) (sk_g1 hS) (sk_n1 hS2) (sk_n1 hS) (by omega) (by omega) (by omega) (by omega) (by omega) (by decide) (by decide) (by decide) (Nat.le_of_ble_eq_true rfl) ?_
  refine w_aload_n dX6_become_46 rfl ?_
  refine w_getR (r := (b + 2)) dX6_become_47 fl6_15 (sk_g0 hS2) (sk_n0 hS2) rfl ?_
  refine w_iconst dX6_become_50 ?_
  refine w_aload_n dX6_become_51 rfl ?_
  refine w_getR (r := (a + 2)) dX6_become_52 fl6_15 (sk_g0 hS) (sk_n0 hS) rfl ?_
  refine w_iconst dX6_become_55 ?_
  refine w_iconst dX6_become_56 ?_
  refine r_copy dX6_become_57 lc6_43 (sk_g2 hS2) (sk_g2 hS) (sk_n2 hS2) (sk_n2 hS) (by omega) (by omega) (by omega) (by omega) (by omega) (by decide) (by decide) (by decide) (Nat.le_of_ble_eq_true rfl) ?_
  refine w_aload_n dX6_become_60 rfl ?_
  refine w_getR (r := (b + 3)) dX6_become_61 fl6_18 (sk_g0 hS2) (sk_n0 hS2) rfl ?_
  refine w_iconst dX6_become_64 ?_
  refine w_aload_n dX6_become_65 rfl ?_
  refine w_getR (r := (a + 3)) dX6_become_66 fl6_18 (sk_g0 hS) (sk_n0 hS) rfl ?_
  refine w_iconst dX6_become_69 ?_
  refine w_iconst dX6_become_70 ?_
  refine r_copy dX6_become_71 lc6_43 (sk_g3 hS2) (sk_g3 hS) (sk_n3 hS2) (sk_n3 hS) (by omega) (by omega) (by omega) (by omega) (by omega) (by decide) (by decide) (by decide) (Nat.le_of_ble_eq_true rfl) ?_
  refine w_aload_n dX6_become_74 rfl ?_
  refine w_getR (r := (b + 4)) dX6_become_75 fl6_21 (sk_g0 hS2) (sk_n0 hS2) rfl ?_
  refine w_iconst dX6_become_78 ?_
  refine w_aload_n dX6_become_79 rfl ?_
  refine w_getR (r := (a + 4)) dX6_become_80 fl6_21 (sk_g0 hS) (sk_n0 hS) rfl ?_
  refine w_iconst dX6_become_83 ?_
  refine w_iconst dX6_become_84 ?_
  refine r_copy dX6_become_85 lc6_43 (sk_g4 hS2) (sk_g4 hS) (sk_n4 hS2) (sk_n4 hS) (by omega) (by omega) (by omega) (by omega) (by omega) (by decide) (by decide) (by decide) (Nat.le_of_ble_eq_true rfl) ?_
  refine w_aload_n dX6_become_88 rfl ?_
  refine w_getR (r := (b + 5)) dX6_become_89 fl6_24 (sk_g0 hS2) (sk_n0 hS2) rfl ?_
  refine w_iconst dX6_become_92 ?_
  refine w_aload_n dX6_become_93 rfl ?_
  refine w_getR (r := (a + 5)) dX6_become_94 fl6_24 (sk_g0 hS) (sk_n0 hS) rfl ?_
  refine w_iconst dX6_become_97 ?_
  refine w_iconst dX6_become_98 ?_
  refine r_copy dX6_become_99 lc6_43 (sk_g5 hS2) (sk_g5 hS) (sk_n5 hS2) (sk_n5 hS) (by omega) (by omega) (by omega) (by omega) (by omega) (by decide) (by decide) (by decide) (Nat.le_of_ble_eq_true rfl) ?_
  refine w_aload_n dX6_become_102 rfl ?_
  refine w_getR (r := (b + 6)) dX6_become_103 fl6_27 (sk_g0 hS2) (sk_n0 hS2) rfl ?_
  refine w_iconst dX6_become_106 ?_
  refine w_aload_n dX6_become_107 rfl ?_
  refine w_getR (r := (a + 6)) dX6_become_108 fl6_27 (sk_g0 hS) (sk_n0 hS) rfl ?_
  refine w_iconst dX6_become_111 ?_
  refine w_bipush dX6_become_112 (by decide +kernel) ?_
  refine r_copy dX6_become_114 lc6_43 (sk_g6 hS2) (sk_g6 hS) (sk_n6 hS2) (sk_n6 hS) (by omega) (by omega) (by omega) (by omega) (by omega) (by decide) (by decide) (by decide) (Nat.le_of_ble_eq_true rfl) ?_
  refine w_vret dX6_become_117 rfl (q_xv ⟨?_, ?_⟩) (by decide)
  · refine ⟨fun q q0 q1 => ?_, fun c c0 c1 => ?_, fun f f0 f1 => ?_⟩
    · rw [cpM_cell (by omega), cpM_cell (by omega), cpM_cell (by omega), cpM_cell (by omega), cpM_cell (by omega), cpM_cell (by omega), ← hV.1 q q0 q1]
      rcases (show q = 0 ∨ q = 1 ∨ q = 2 ∨ q = 3 by omega) with rfl | rfl | rfl | rfl
      · rw [upM_ne (by omega), upM_ne (by omega), upM_ne (by omega), upM_same]
      · rw [upM_ne (by omega), upM_ne (by omega), upM_same, upM_ne (by omega)]
      · rw [upM_ne (by omega), upM_same, upM_ne (by omega), upM_ne (by omega)]
      · rw [upM_same, upM_ne (by omega), upM_ne (by omega), upM_ne (by omega)]
    · obtain ⟨g1, g2, g3, g4, g5⟩ := hV.2.1 c c0 c1
      refine ⟨?_, ?_, ?_, ?_, ?_⟩
      · rw [cpM_cell (by omega), cpM_cell (by omega), cpM_cell (by omega), cpM_cell (by omega), cpM_cell (by omega), cpM_at (by omega) (by omega), upM_cell (by omega), upM_cell (by omega), upM_cell (by omega), upM_cell (by omega)]; exact g1
      · rw [cpM_cell (by omega), cpM_cell (by omega), cpM_cell (by omega), cpM_cell (by omega), cpM_at (by omega) (by omega), cpM_cell (by omega), upM_cell (by omega), upM_cell (by omega), upM_cell (by omega), upM_cell (by omega)]; exact g2
      · rw [cpM_cell (by omega), cpM_cell (by omega), cpM_cell (by omega), cpM_at (by omega) (by omega), cpM_cell (by omega), cpM_cell (by omega), upM_cell (by omega), upM_cell (by omega), upM_cell (by omega), upM_cell (by omega)]; exact g3
      · rw [cpM_cell (by omega), cpM_cell (by omega), cpM_at (by omega) (by omega), cpM_cell (by omega), cpM_cell (by omega), cpM_cell (by omega), upM_cell (by omega), upM_cell (by omega), upM_cell (by omega), upM_cell (by omega)]; exact g4
      · rw [cpM_cell (by omega), cpM_at (by omega) (by omega), cpM_cell (by omega), cpM_cell (by omega), cpM_cell (by omega), cpM_cell (by omega), upM_cell (by omega), upM_cell (by omega), upM_cell (by omega), upM_cell (by omega)]; exact g5
    · rw [cpM_at (by omega) (by omega), cpM_cell (by omega), cpM_cell (by omega), cpM_cell (by omega), cpM_cell (by omega), cpM_cell (by omega), upM_cell (by omega), upM_cell (by omega), upM_cell (by omega), upM_cell (by omega)]; exact hV.2.2 f f0 f1
  · intro i hi
    rw [cpM_cell (by omega), cpM_cell (by omega), cpM_cell (by omega), cpM_cell (by omega), cpM_cell (by omega), cpM_cell (by omega), upM_cell (by omega), upM_cell (by omega), upM_cell (by omega), upM_cell (by omega)]
theorem l_X6_forgetRain {E : EV} {M : MM} {a : Nat} {S : SS} (hS : SK a) (hn5 : S 0 ≤ 5) :
    ∀ (k : Nat) (c : Nat) (z : Int) (m : MM), z = c → c ≤ 16 → 16 - c < k → SV m a (fun q => if 29 ≤ q ∧ q < 29 + (c : Int) then 0 else S q) → Fr a M m → Wp E mX6_forgetRain (kd 1) 2 [some (vr a), some (vi z)] [] N0 G0 m (Pxv (fun m => SV m a (fun q => if 29 ≤ q ∧ q < 45 then 0 else S q) ∧ Fr a M m)) := by
  intro k
  induction k with
  | zero => intro c z m hz h16 hk; exact absurd hk (by omega)
  | succ k ih =>
    intro c z m hz h16 hk hV hF
    subst hz
    have key : ∀ q : Int, upS (fun q => if 29 ≤ q ∧ q < 29 + (c : Int) then 0 else S q) (29 + (c : Int)) 0 q = (fun q => if 29 ≤ q ∧ q < 29 + ((c + 1 : Nat) : Int) then 0 else S q) q := fun q => by
      rw [upS_at]
      by_cases h1 : q = 29 + (c : Int)
      · rw [if_pos h1]
        show 0 = if 29 ≤ q ∧ q < 29 + ((c + 1 : Nat) : Int) then 0 else S q
        rw [if_pos (by omega)]
      · rw [if_neg h1]
        show (if 29 ≤ q ∧ q < 29 + (c : Int) then 0 else S q) = if 29 ≤ q ∧ q < 29 + ((c + 1 : Nat) : Int) then 0 else S q
        by_cases h2 : 29 ≤ q ∧ q < 29 + (c : Int)
        · rw [if_pos h2, if_pos (by omega)]
        · rw [if_neg h2, if_neg (by omega)]
    refine w_iload_n dX6_forgetRain_2 rfl ?_
    refine w_bipush dX6_forgetRain_3 (by decide +kernel) ?_
    refine w_icmp_ge (tgt := 21) dX6_forgetRain_5 (by decide) (by omega) (by omega) (fun h5 => ?_) (fun h5 => ?_)
    · have e16 : c = 16 := by omega
      subst e16
      refine w_vret dX6_forgetRain_21 rfl ?_ ⟨Nat.le_refl _, Nat.le_refl _⟩
      exact (q_xv ⟨hV, hF⟩)
    · refine w_aload_n dX6_forgetRain_8 rfl ?_
      refine w_getR (r := (a + 6)) dX6_forgetRain_9 fl6_27 (sk_g0 hS) (sk_n0 hS) rfl ?_
      refine w_iload_n dX6_forgetRain_12 rfl ?_
      refine w_iconst dX6_forgetRain_13 ?_
      refine r_ist dX6_forgetRain_14 (sk_g6 hS) (sk_n6 hS) (by omega) (by omega) (by omega) (by decide) ?_
      refine w_iinc dX6_forgetRain_15 rfl (by decide) ?_
      refine w_goto (tgt := 2) dX6_forgetRain_18 (by decide) ?_
      exact ih (c + 1) _ _ (by omega) (by omega) (by omega) ((hV.p_fell (by omega) (by show (if (29 : Int) ≤ 0 ∧ _ then (0 : Int) else S 0) ≤ 5; rw [if_neg (by omega)]; exact hn5) rfl).congr key) (hF.up (by omega))
theorem c_X6_forgetRain {E : EV} {M : MM} {a : Nat} {S : SS} (hS : SK a) (hV : SV M a S) (h5 : S 0 ≤ 5) : Cxv E mX6_forgetRain 1 [vr a] M (fun m => SV m a (fun q => if 29 ≤ q ∧ q < 45 then 0 else S q) ∧ Fr a M m) := by
  refine Ct.of [some (vr a), none] rfl rfl rfl (Nat.le_of_ble_eq_true rfl) ?_
  refine w_iconst dX6_forgetRain_0 ?_
  refine w_istore_n dX6_forgetRain_1 (by decide) ?_
  exact l_X6_forgetRain hS h5 17 0 _ _ rfl (by omega) (by omega) (hV.congr (fun q => by rw [if_neg (by omega)])) (Fr.refl a M)
/-! what is asked of a sky -/
def aliveF (S : SS) : Nat := setN (S 0).toNat (fun c => decide (S (7 + 5 * (c : Int)) ≠ 0))
def shF (S : SS) (c : Int) : Nat := shadeF (S (5 + 5 * c)) (S (6 + 5 * c)) (S (7 + 5 * c))
def overF (S : SS) (f : Nat) : Nat := setN (S 0).toNat (fun c => (shF S (c : Int)).testBit f)
def dryF (S : SS) : Nat := setN 16 (fun f => decide (S (29 + (f : Int)) = 0))
def orN : Nat → (Nat → Nat) → Nat
  | 0, _ => 0
  | n + 1, g => orN n g ||| g n
theorem orN_lt {g : Nat → Nat} {k : Nat} : ∀ {n : Nat}, (∀ i, i < n → g i < 2 ^ k) → orN n g < 2 ^ k
  | 0, _ => Nat.pow_pos (by decide)
  | n + 1, h => by
    rw [orN]
    exact Nat.or_lt_two_pow (orN_lt (fun i hi => h i (by omega))) (h n (by omega))
theorem orN_bit {g : Nat → Nat} {f : Nat} : ∀ {n : Nat}, (orN n g).testBit f = true ↔ ∃ c, c < n ∧ (g c).testBit f = true
  | 0 => by simp [orN]
  | n + 1 => by
    rw [orN, Nat.testBit_or, Bool.or_eq_true, orN_bit]
    constructor
    · rintro (⟨c, h1, h2⟩ | h)
      · exact ⟨c, by omega, h2⟩
      · exact ⟨n, by omega, h⟩
    · rintro ⟨c, h1, h2⟩
      by_cases e : c = n
      · subst e; exact Or.inr h2
      · exact Or.inl ⟨c, by omega, h2⟩
def shadedF (S : SS) : Nat := orN (S 0).toNat (fun c => shF S (c : Int))
def wetF (S : SS) (h : Int) : Int := sumI (S 0).toNat (fun c => if S (8 + 5 * (c : Int)) = h then S (7 + 5 * (c : Int)) else 0)
theorem aliveF_r {B : Int} {S : SS} (h : SOK B S) : aliveF S < 32 := by
  have := h.1
  exact setN_pow (k := 5) (by omega)
theorem shF_lt (S : SS) (c : Int) : shF S c < 65536 := shadeF_lt _ _ _
theorem l_X6_alive {E : EV} {M : MM} {a : Nat} {S : SS} {B : Int} (hS : SK a) (hV : SV M a S) (hO : SOK B S) :
    ∀ (k : Nat) (c : Nat) (z s : Int), z = c → s = ((setN c (fun c => decide (S (7 + 5 * (c : Int)) ≠ 0)) : Nat) : Int) → (c : Int) ≤ S 0 → (S 0).toNat - c < k → Wp E mX6_alive (kd 1) 4 [some (vr a), some (vi s), some (vi z)] [] N0 G0 M (Pm ((aliveF S : Nat) : Int) M) := by
  intro k
  induction k with
  | zero => intro c z s hz hs hc hk; exact absurd hk (by omega)
  | succ k ih =>
    intro c z s hz hs hc hk
    subst hz
    subst hs
    have hn := hO.1
    have eN := hV.num
    have hr := setN_r (P := fun c => decide (S (7 + 5 * (c : Int)) ≠ 0)) (n := c) (by omega)
    have hr2 := setN_r (P := fun c => decide (S (7 + 5 * (c : Int)) ≠ 0)) (n := c + 1) (by omega)
    refine w_iload_n dX6_alive_4 rfl ?_
    refine w_aload_n dX6_alive_5 rfl ?_
    refine r_getI (q := 0) dX6_alive_6 fl6_30 (sk_g0 hS) (sk_n0 hS) rfl (by decide) rfl (fun r6 => ?_)
    refine w_icmp_ge (tgt := 32) dX6_alive_9 (by decide) (by omega) (by omega) (fun hc => ?_) (fun hc => ?_)
    · have ec : (S 0).toNat = c := by omega
      refine w_iload_n dX6_alive_32 rfl ?_
      refine w_iret dX6_alive_33 rfl (by omega) ?_ ⟨Nat.le_refl _, Nat.le_refl _⟩
      exact (q_i (by unfold aliveF; rw [ec]))
    · have eT := hV.wet (c := (c : Int)) (by omega) (by omega)
      refine w_aload_n dX6_alive_12 rfl ?_
      refine w_iload_n dX6_alive_13 rfl ?_
      refine cVm dX6_alive_14 ok_X6_isGone lv6_49 (c_X6_isGone hS (by omega) (by omega)) rfl (sk_k hS) (sk_n0 hS) (by decide) rfl (by decide) (Nat.le_of_ble_eq_true rfl) (fun r14 => ?_)
      refine w_ifB_ne (tgt := 26) dX6_alive_17 (by decide) (fun h17 => ?_) (fun h17 => ?_)
      · refine w_iinc dX6_alive_26 rfl (by decide) ?_
        refine w_goto (tgt := 4) dX6_alive_29 (by decide) ?_
        first | exact ih (c + 1) _ _ (by omega) (by rw [setN_t (by show decide _ = true; rw [← eT]; exact decide_eq_true (of_decide_eq_false h17))]) (by omega) (by omega) | exact ih (c + 1) _ _ (by omega) (by rw [setN_f (by show decide _ = false; rw [← eT]; exact decide_eq_false (fun q => q (of_decide_eq_true h17)))]) (by omega) (by omega)
      · refine w_iload_n dX6_alive_20 rfl ?_
        refine w_iconst dX6_alive_21 ?_
        refine w_iload_n dX6_alive_22 rfl ?_
        refine w_ibin (r := ((2 ^ c : Nat) : Int)) dX6_alive_23 (Or.inr <| Or.inr <| Or.inr <| Or.inl ⟨rfl, b_1shlN (by omega)⟩) ?_
        refine w_ibin (r := ((setN c (fun c => decide (S (7 + 5 * (c : Int)) ≠ 0)) ||| 2 ^ c : Nat) : Int)) dX6_alive_24 (Or.inr <| Or.inl ⟨rfl, b_or _ _⟩) ?_
        refine w_istore_n dX6_alive_25 (by decide) ?_
        refine w_iinc dX6_alive_26 rfl (by decide) ?_
        refine w_goto (tgt := 4) dX6_alive_29 (by decide) ?_
        first | exact ih (c + 1) _ _ (by omega) (by rw [setN_t (by show decide _ = true; rw [← eT]; exact decide_eq_true (of_decide_eq_false h17))]) (by omega) (by omega) | exact ih (c + 1) _ _ (by omega) (by rw [setN_f (by show decide _ = false; rw [← eT]; exact decide_eq_false (fun q => q (of_decide_eq_true h17)))]) (by omega) (by omega)
theorem c_X6_alive {E : EV} {M : MM} {a : Nat} {S : SS} {B : Int} (hS : SK a) (hV : SV M a S) (hO : SOK B S) : Cm E mX6_alive 1 [vr a] M ((aliveF S : Nat) : Int) M := by
  refine Ct.of [some (vr a), none, none] rfl rfl rfl (Nat.le_of_ble_eq_true rfl) ?_
  have hn := hO.1
  refine w_iconst dX6_alive_0 ?_
  refine w_istore_n dX6_alive_1 (by decide) ?_
  refine w_iconst dX6_alive_2 ?_
  refine w_istore_n dX6_alive_3 (by decide) ?_
  exact l_X6_alive hS hV hO ((S 0).toNat + 1) 0 _ _ rfl rfl (by omega) (by omega)
theorem l_X6_cloudsOver {E : EV} {M : MM} {a : Nat} {S : SS} {B : Int} {f : Nat} (hS : SK a) (hV : SV M a S) (hO : SOK B S) (hf : f < 16) :
    ∀ (k : Nat) (c : Nat) (z s : Int), z = c → s = ((setN c (fun c => (shF S (c : Int)).testBit f) : Nat) : Int) → (c : Int) ≤ S 0 → (S 0).toNat - c < k → Wp E mX6_cloudsOver (kd 4) 4 [some (vr a), some (vi (f : Int)), some (vi s), some (vi z)] [] N0 G0 M (Pm ((overF S f : Nat) : Int) M) := by
  intro k
  induction k with
  | zero => intro c z s hz hs hc hk; exact absurd hk (by omega)
  | succ k ih =>
    intro c z s hz hs hc hk
    subst hz
    subst hs
    have hn := hO.1
    have eN := hV.num
    have hr := setN_r (P := fun c => (shF S (c : Int)).testBit f) (n := c) (by omega)
    have hsh := shF_lt S (c : Int)
    refine w_iload_n dX6_cloudsOver_4 rfl ?_
    refine w_aload_n dX6_cloudsOver_5 rfl ?_
    refine r_getI (q := 0) dX6_cloudsOver_6 fl6_30 (sk_g0 hS) (sk_n0 hS) rfl (by decide) rfl (fun r6 => ?_)
    refine w_icmp_ge (tgt := 36) dX6_cloudsOver_9 (by decide) (by omega) (by omega) (fun hc => ?_) (fun hc => ?_)
    · have ec : (S 0).toNat = c := by omega
      refine w_iload_n dX6_cloudsOver_36 rfl ?_
      refine w_iret dX6_cloudsOver_37 rfl (by omega) ?_ ⟨Nat.le_refl _, Nat.le_refl _⟩
      exact (q_i (by unfold overF; rw [ec]))
    · have hcl := hO.cl (c := (c : Int)) (by omega) (by omega)
      have eP := hV.place (c := (c : Int)) (by omega) (by omega)
      have eW := hV.wide (c := (c : Int)) (by omega) (by omega)
      have eT := hV.wet (c := (c : Int)) (by omega) (by omega)
      refine w_aload_n dX6_cloudsOver_12 rfl ?_
      refine w_iload_n dX6_cloudsOver_13 rfl ?_
      refine cVm dX6_cloudsOver_14 ok_X6_shade lv6_64 (c_X6_shade hS (by omega) (by omega) (by omega) (by omega) (by omega) (by omega)) rfl (sk_k hS) (sk_n0 hS) (by decide) rfl (by decide) (Nat.le_of_ble_eq_true rfl) (fun r14 => ?_)
      rw [show ((shadeF (M (a + 2) (c : Int)) (M (a + 3) (c : Int)) (M (a + 4) (c : Int)) : Nat) : Int) = ((shF S (c : Int) : Nat) : Int) from by rw [eP, eW, eT]; rfl]
      refine w_iload_n dX6_cloudsOver_17 rfl ?_
      refine w_ibin (r := ((shF S (c : Int) / 2 ^ f : Nat) : Int)) dX6_cloudsOver_18 (Or.inr <| Or.inr <| Or.inr <| Or.inr <| Or.inl ⟨rfl, b_shr (by omega) (by omega)⟩) ?_
      refine w_iconst dX6_cloudsOver_19 ?_
      refine w_ibin (r := ((shF S (c : Int) / 2 ^ f : Nat) : Int) % 2) dX6_cloudsOver_20 (Or.inl ⟨rfl, b_m1 _⟩) ?_
      refine w_if_eq (tgt := 30) dX6_cloudsOver_21 (by decide) (by omega) (fun h21 => ?_) (fun h21 => ?_)
      · refine w_iinc dX6_cloudsOver_30 rfl (by decide) ?_
        refine w_goto (tgt := 4) dX6_cloudsOver_33 (by decide) ?_
        first | exact ih (c + 1) _ _ (by omega) (by rw [setN_t (P := fun c => (shF S (c : Int)).testBit f) (bitI_t h21)]) (by omega) (by omega) | exact ih (c + 1) _ _ (by omega) (by rw [setN_f (P := fun c => (shF S (c : Int)).testBit f) (Bool.eq_false_iff.mpr (bitI_f h21))]) (by omega) (by omega)
      · refine w_iload_n dX6_cloudsOver_24 rfl ?_
        refine w_iconst dX6_cloudsOver_25 ?_
        refine w_iload_n dX6_cloudsOver_26 rfl ?_
        refine w_ibin (r := ((2 ^ c : Nat) : Int)) dX6_cloudsOver_27 (Or.inr <| Or.inr <| Or.inr <| Or.inl ⟨rfl, b_1shlN (by omega)⟩) ?_
        refine w_ibin (r := ((setN c (fun c => (shF S (c : Int)).testBit f) ||| 2 ^ c : Nat) : Int)) dX6_cloudsOver_28 (Or.inr <| Or.inl ⟨rfl, b_or _ _⟩) ?_
        refine w_istore_n dX6_cloudsOver_29 (by decide) ?_
        refine w_iinc dX6_cloudsOver_30 rfl (by decide) ?_
        refine w_goto (tgt := 4) dX6_cloudsOver_33 (by decide) ?_
        first | exact ih (c + 1) _ _ (by omega) (by rw [setN_t (P := fun c => (shF S (c : Int)).testBit f) (bitI_t h21)]) (by omega) (by omega) | exact ih (c + 1) _ _ (by omega) (by rw [setN_f (P := fun c => (shF S (c : Int)).testBit f) (Bool.eq_false_iff.mpr (bitI_f h21))]) (by omega) (by omega)
theorem c_X6_cloudsOver {E : EV} {M : MM} {a : Nat} {S : SS} {B f : Int} (hS : SK a) (hV : SV M a S) (hO : SOK B S) (f0 : 0 ≤ f) (f1 : f ≤ 15) : Cm E mX6_cloudsOver 4 [vr a, vi f] M ((overF S f.toNat : Nat) : Int) M := by
  refine Ct.of [some (vr a), some (vi f), none, none] rfl rfl rfl (Nat.le_of_ble_eq_true rfl) ?_
  have hn := hO.1
  obtain ⟨g, rfl⟩ : ∃ g : Nat, f = g := ⟨f.toNat, by omega⟩
  refine w_iconst dX6_cloudsOver_0 ?_
  refine w_istore_n dX6_cloudsOver_1 (by decide) ?_
  refine w_iconst dX6_cloudsOver_2 ?_
  refine w_istore_n dX6_cloudsOver_3 (by decide) ?_
  exact l_X6_cloudsOver hS hV hO (by omega) ((S 0).toNat + 1) 0 _ _ rfl rfl (by omega) (by omega)
theorem l_X6_fallen {E : EV} {M : MM} {a : Nat} {S : SS} {B : Int} (hS : SK a) (hV : SV M a S) (hO : SOK B S) (hB : B ≤ 100000) :
    ∀ (k : Nat) (c : Nat) (z s : Int), z = c → s = sumI c (fun f => S (29 + (f : Int))) → c ≤ 16 → 16 - c < k → Wp E mX6_fallen (kd 0) 4 [some (vr a), some (vi s), some (vi z)] [] N0 G0 M (Pm (fellS S) M) := by
  intro k
  induction k with
  | zero => intro c z s hz hs hc hk; exact absurd hk (by omega)
  | succ k ih =>
    intro c z s hz hs hc hk
    subst hz
    subst hs
    have hle := sumI_le (n := c) (g := fun f => S (29 + (f : Int))) (B := 100000) (fun i hi => by have := hO.2.2.2.2.2 (i : Int) (by omega) (by omega); omega)
    refine w_iload_n dX6_fallen_4 rfl ?_
    refine w_bipush dX6_fallen_5 (by decide +kernel) ?_
    refine w_icmp_ge (tgt := 25) dX6_fallen_7 (by decide) (by omega) (by omega) (fun h7 => ?_) (fun h7 => ?_)
    · have ec : c = 16 := by omega
      subst ec
      refine w_iload_n dX6_fallen_25 rfl ?_
      refine w_iret dX6_fallen_26 rfl (by omega) ?_ ⟨Nat.le_refl _, Nat.le_refl _⟩
      exact (q_i rfl)
    · refine w_iload_n dX6_fallen_10 rfl ?_
      refine w_aload_n dX6_fallen_11 rfl ?_
      refine w_getR (r := (a + 6)) dX6_fallen_12 fl6_27 (sk_g0 hS) (sk_n0 hS) rfl ?_
      refine w_iload_n dX6_fallen_15 rfl ?_
      refine r_ild dX6_fallen_16 (sk_g6 hS) (sk_n6 hS) (by omega) (by omega) (by decide) (fun r16 => ?_)
      refine w_iadd dX6_fallen_17 ?_
      refine w_istore_n dX6_fallen_18 (by decide) ?_
      refine w_iinc dX6_fallen_19 rfl (by decide) ?_
      refine w_goto (tgt := 4) dX6_fallen_22 (by decide) ?_
      exact ih (c + 1) _ _ (by omega) (by rw [sumI, ← hV.2.2 (c : Int) (by omega) (by omega)]) (by omega) (by omega)
theorem c_X6_fallen {E : EV} {M : MM} {a : Nat} {S : SS} {B : Int} (hS : SK a) (hV : SV M a S) (hO : SOK B S) (hB : B ≤ 100000) : Cm E mX6_fallen 0 [vr a] M (fellS S) M := by
  refine Ct.of [some (vr a), none, none] rfl rfl rfl (Nat.le_of_ble_eq_true rfl) ?_
  refine w_iconst dX6_fallen_0 ?_
  refine w_istore_n dX6_fallen_1 (by decide) ?_
  refine w_iconst dX6_fallen_2 ?_
  refine w_istore_n dX6_fallen_3 (by decide) ?_
  exact l_X6_fallen hS hV hO hB 17 0 _ _ rfl rfl (by omega) (by omega)
theorem l_X6_fieldsWithoutRain {E : EV} {M : MM} {a : Nat} {S : SS} (hS : SK a) (hV : SV M a S) :
    ∀ (k : Nat) (c : Nat) (z s : Int), z = c → s = ((setN c (fun f => decide (S (29 + (f : Int)) = 0)) : Nat) : Int) → c ≤ 16 → 16 - c < k → Wp E mX6_fieldsWithoutRain (kd 0) 4 [some (vr a), some (vi s), some (vi z)] [] N0 G0 M (Pm ((dryF S : Nat) : Int) M) := by
  intro k
  induction k with
  | zero => intro c z s hz hs hc hk; exact absurd hk (by omega)
  | succ k ih =>
    intro c z s hz hs hc hk
    subst hz
    subst hs
    have hr := setN_r (P := fun f => decide (S (29 + (f : Int)) = 0)) (n := c) (by omega)
    refine w_iload_n dX6_fieldsWithoutRain_4 rfl ?_
    refine w_bipush dX6_fieldsWithoutRain_5 (by decide +kernel) ?_
    refine w_icmp_ge (tgt := 31) dX6_fieldsWithoutRain_7 (by decide) (by omega) (by omega) (fun h7 => ?_) (fun h7 => ?_)
    · have ec : c = 16 := by omega
      subst ec
      refine w_iload_n dX6_fieldsWithoutRain_31 rfl ?_
      refine w_iret dX6_fieldsWithoutRain_32 rfl (by omega) ?_ ⟨Nat.le_refl _, Nat.le_refl _⟩
      exact (q_i rfl)
    · have ef := hV.2.2 (c : Int) (by omega) (by omega)
      refine w_aload_n dX6_fieldsWithoutRain_10 rfl ?_
      refine w_getR (r := (a + 6)) dX6_fieldsWithoutRain_11 fl6_27 (sk_g0 hS) (sk_n0 hS) rfl ?_
      refine w_iload_n dX6_fieldsWithoutRain_14 rfl ?_
      refine r_ild dX6_fieldsWithoutRain_15 (sk_g6 hS) (sk_n6 hS) (by omega) (by omega) (by decide) (fun r15 => ?_)
      refine w_if_ne (tgt := 25) dX6_fieldsWithoutRain_16 (by decide) (by omega) (fun h16 => ?_) (fun h16 => ?_)
      · refine w_iinc dX6_fieldsWithoutRain_25 rfl (by decide) ?_
        refine w_goto (tgt := 4) dX6_fieldsWithoutRain_28 (by decide) ?_
        first | exact ih (c + 1) _ _ (by omega) (by rw [setN_t (decide_eq_true (by omega))]) (by omega) (by omega) | exact ih (c + 1) _ _ (by omega) (by rw [setN_f (decide_eq_false (by omega))]) (by omega) (by omega)
      · refine w_iload_n dX6_fieldsWithoutRain_19 rfl ?_
        refine w_iconst dX6_fieldsWithoutRain_20 ?_
        refine w_iload_n dX6_fieldsWithoutRain_21 rfl ?_
        refine w_ibin (r := ((2 ^ c : Nat) : Int)) dX6_fieldsWithoutRain_22 (Or.inr <| Or.inr <| Or.inr <| Or.inl ⟨rfl, b_1shlN (by omega)⟩) ?_
        refine w_ibin (r := ((setN c (fun f => decide (S (29 + (f : Int)) = 0)) ||| 2 ^ c : Nat) : Int)) dX6_fieldsWithoutRain_23 (Or.inr <| Or.inl ⟨rfl, b_or _ _⟩) ?_
        refine w_istore_n dX6_fieldsWithoutRain_24 (by decide) ?_
        refine w_iinc dX6_fieldsWithoutRain_25 rfl (by decide) ?_
        refine w_goto (tgt := 4) dX6_fieldsWithoutRain_28 (by decide) ?_
        first | exact ih (c + 1) _ _ (by omega) (by rw [setN_t (decide_eq_true (by omega))]) (by omega) (by omega) | exact ih (c + 1) _ _ (by omega) (by rw [setN_f (decide_eq_false (by omega))]) (by omega) (by omega)
theorem c_X6_fieldsWithoutRain {E : EV} {M : MM} {a : Nat} {S : SS} (hS : SK a) (hV : SV M a S) : Cm E mX6_fieldsWithoutRain 0 [vr a] M ((dryF S : Nat) : Int) M := by
  refine Ct.of [some (vr a), none, none] rfl rfl rfl (Nat.le_of_ble_eq_true rfl) ?_
  refine w_iconst dX6_fieldsWithoutRain_0 ?_
  refine w_istore_n dX6_fieldsWithoutRain_1 (by decide) ?_
  refine w_iconst dX6_fieldsWithoutRain_2 ?_
  refine w_istore_n dX6_fieldsWithoutRain_3 (by decide) ?_
  exact l_X6_fieldsWithoutRain hS hV 17 0 _ _ rfl rfl (by omega) (by omega)
theorem l_X6_shaded {E : EV} {M : MM} {a : Nat} {S : SS} {B : Int} (hS : SK a) (hV : SV M a S) (hO : SOK B S) :
    ∀ (k : Nat) (c : Nat) (z s : Int), z = c → s = ((orN c (fun c => shF S (c : Int)) : Nat) : Int) → (c : Int) ≤ S 0 → (S 0).toNat - c < k → Wp E mX6_shaded (kd 4) 4 [some (vr a), some (vi s), some (vi z)] [] N0 G0 M (Pm ((shadedF S : Nat) : Int) M) := by
  intro k
  induction k with
  | zero => intro c z s hz hs hc hk; exact absurd hk (by omega)
  | succ k ih =>
    intro c z s hz hs hc hk
    subst hz
    subst hs
    have hn := hO.1
    have eN := hV.num
    have hsh := shF_lt S (c : Int)
    have hor : orN c (fun c => shF S (c : Int)) < 2 ^ 16 := orN_lt (fun i _ => shF_lt S (i : Int))
    refine w_iload_n dX6_shaded_4 rfl ?_
    refine w_aload_n dX6_shaded_5 rfl ?_
    refine r_getI (q := 0) dX6_shaded_6 fl6_30 (sk_g0 hS) (sk_n0 hS) rfl (by decide) rfl (fun r6 => ?_)
    refine w_icmp_ge (tgt := 26) dX6_shaded_9 (by decide) (by omega) (by omega) (fun hc => ?_) (fun hc => ?_)
    · have ec : (S 0).toNat = c := by omega
      refine w_iload_n dX6_shaded_26 rfl ?_
      refine w_iret dX6_shaded_27 rfl (by omega) ?_ ⟨Nat.le_refl _, Nat.le_refl _⟩
      exact (q_i (by unfold shadedF; rw [ec]))
    · have hcl := hO.cl (c := (c : Int)) (by omega) (by omega)
      have eP := hV.place (c := (c : Int)) (by omega) (by omega)
      have eW := hV.wide (c := (c : Int)) (by omega) (by omega)
      have eT := hV.wet (c := (c : Int)) (by omega) (by omega)
      refine w_iload_n dX6_shaded_12 rfl ?_
      refine w_aload_n dX6_shaded_13 rfl ?_
      refine w_iload_n dX6_shaded_14 rfl ?_
      refine cVm dX6_shaded_15 ok_X6_shade lv6_64 (c_X6_shade hS (by omega) (by omega) (by omega) (by omega) (by omega) (by omega)) rfl (sk_k hS) (sk_n0 hS) (by decide) rfl (by decide) (Nat.le_of_ble_eq_true rfl) (fun r15 => ?_)
      rw [show ((shadeF (M (a + 2) (c : Int)) (M (a + 3) (c : Int)) (M (a + 4) (c : Int)) : Nat) : Int) = ((shF S (c : Int) : Nat) : Int) from by rw [eP, eW, eT]; rfl]
      refine w_ibin (r := ((orN c (fun c => shF S (c : Int)) ||| shF S (c : Int) : Nat) : Int)) dX6_shaded_18 (Or.inr <| Or.inl ⟨rfl, b_or _ _⟩) ?_
      refine w_istore_n dX6_shaded_19 (by decide) ?_
      refine w_iinc dX6_shaded_20 rfl (by decide) ?_
      refine w_goto (tgt := 4) dX6_shaded_23 (by decide) ?_
      exact ih (c + 1) _ _ (by omega) rfl (by omega) (by omega)
theorem c_X6_shaded {E : EV} {M : MM} {a : Nat} {S : SS} {B : Int} (hS : SK a) (hV : SV M a S) (hO : SOK B S) : Cm E mX6_shaded 4 [vr a] M ((shadedF S : Nat) : Int) M := by
  refine Ct.of [some (vr a), none, none] rfl rfl rfl (Nat.le_of_ble_eq_true rfl) ?_
  have hn := hO.1
  refine w_iconst dX6_shaded_0 ?_
  refine w_istore_n dX6_shaded_1 (by decide) ?_
  refine w_iconst dX6_shaded_2 ?_
  refine w_istore_n dX6_shaded_3 (by decide) ?_
  exact l_X6_shaded hS hV hO ((S 0).toNat + 1) 0 _ _ rfl rfl (by omega) (by omega)
theorem l_X6_wetOf {E : EV} {M : MM} {a : Nat} {S : SS} {B h : Int} (hS : SK a) (hV : SV M a S) (hO : SOK B S) (hh : R32 h) :
    ∀ (k : Nat) (c : Nat) (z s : Int), z = c → s = sumI c (fun c => if S (8 + 5 * (c : Int)) = h then S (7 + 5 * (c : Int)) else 0) → (c : Int) ≤ S 0 → (S 0).toNat - c < k → Wp E mX6_wetOf (kd 0) 4 [some (vr a), some (vi h), some (vi s), some (vi z)] [] N0 G0 M (Pm (wetF S h) M) := by
  intro k
  induction k with
  | zero => intro c z s hz hs hc hk; exact absurd hk (by omega)
  | succ k ih =>
    intro c z s hz hs hc hk
    subst hz
    subst hs
    have hn := hO.1
    have eN := hV.num
    have hle := sumI_le (n := c) (g := fun c => if S (8 + 5 * (c : Int)) = h then S (7 + 5 * (c : Int)) else 0) (B := 99) (fun i hi => by have := hO.cl (c := (i : Int)) (by omega) (by omega); split <;> omega)
    refine w_iload_n dX6_wetOf_4 rfl ?_
    refine w_aload_n dX6_wetOf_5 rfl ?_
    refine r_getI (q := 0) dX6_wetOf_6 fl6_30 (sk_g0 hS) (sk_n0 hS) rfl (by decide) rfl (fun r6 => ?_)
    refine w_icmp_ge (tgt := 37) dX6_wetOf_9 (by decide) (by omega) (by omega) (fun hc => ?_) (fun hc => ?_)
    · have ec : (S 0).toNat = c := by omega
      refine w_iload_n dX6_wetOf_37 rfl ?_
      refine w_iret dX6_wetOf_38 rfl (by omega) ?_ ⟨Nat.le_refl _, Nat.le_refl _⟩
      exact (q_i (by unfold wetF; rw [ec]))
    · have hcl := hO.cl (c := (c : Int)) (by omega) (by omega)
      have eH := hV.hand (c := (c : Int)) (by omega) (by omega)
      have eT := hV.wet (c := (c : Int)) (by omega) (by omega)
      refine w_aload_n dX6_wetOf_12 rfl ?_
      refine w_getR (r := (a + 5)) dX6_wetOf_13 fl6_24 (sk_g0 hS) (sk_n0 hS) rfl ?_
      refine w_iload_n dX6_wetOf_16 rfl ?_
      refine r_ild dX6_wetOf_17 (sk_g5 hS) (sk_n5 hS) (by omega) (by omega) (by decide) (fun r17 => ?_)
      refine w_iload_n dX6_wetOf_18 rfl ?_
      refine w_icmp_ne (tgt := 31) dX6_wetOf_19 (by decide) (by omega) (by omega) (fun h19 => ?_) (fun h19 => ?_)
      · refine w_iinc dX6_wetOf_31 rfl (by decide) ?_
        refine w_goto (tgt := 4) dX6_wetOf_34 (by decide) ?_
        first | exact ih (c + 1) _ _ (by omega) (by rw [sumI, if_pos (by omega), eT]) (by omega) (by omega) | exact ih (c + 1) _ _ (by omega) (by rw [sumI, if_neg (by omega)]; omega) (by omega) (by omega)
      · refine w_iload_n dX6_wetOf_22 rfl ?_
        refine w_aload_n dX6_wetOf_23 rfl ?_
        refine w_getR (r := (a + 4)) dX6_wetOf_24 fl6_21 (sk_g0 hS) (sk_n0 hS) rfl ?_
        refine w_iload_n dX6_wetOf_27 rfl ?_
        refine r_ild dX6_wetOf_28 (sk_g4 hS) (sk_n4 hS) (by omega) (by omega) (by decide) (fun r28 => ?_)
        refine w_iadd dX6_wetOf_29 ?_
        refine w_istore_n dX6_wetOf_30 (by decide) ?_
        refine w_iinc dX6_wetOf_31 rfl (by decide) ?_
        refine w_goto (tgt := 4) dX6_wetOf_34 (by decide) ?_
        first | exact ih (c + 1) _ _ (by omega) (by rw [sumI, if_pos (by omega), eT]) (by omega) (by omega) | exact ih (c + 1) _ _ (by omega) (by rw [sumI, if_neg (by omega)]; omega) (by omega) (by omega)
theorem c_X6_wetOf {E : EV} {M : MM} {a : Nat} {S : SS} {B h : Int} (hS : SK a) (hV : SV M a S) (hO : SOK B S) (hh : R32 h) : Cm E mX6_wetOf 0 [vr a, vi h] M (wetF S h) M := by
  refine Ct.of [some (vr a), some (vi h), none, none] rfl rfl rfl (Nat.le_of_ble_eq_true rfl) ?_
  have hn := hO.1
  refine w_iconst dX6_wetOf_0 ?_
  refine w_istore_n dX6_wetOf_1 (by decide) ?_
  refine w_iconst dX6_wetOf_2 ?_
  refine w_istore_n dX6_wetOf_3 (by decide) ?_
  exact l_X6_wetOf hS hV hO hh ((S 0).toNat + 1) 0 _ _ rfl rfl (by omega) (by omega)
