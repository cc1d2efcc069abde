/-! ===== the reference: a day ===== -/
def FrN (M m : MM) : Prop := ∀ i : Nat, i ≠ 243 → m i = M i
theorem FrN.refl (M : MM) : FrN M M := fun _ _ => rfl
theorem FrN.trans {M m m2 : MM} (h : FrN M m) (h2 : FrN m m2) : FrN M m2 := fun i hi => (h2 i hi).trans (h i hi)
theorem FrN.up {M m : MM} {j v : Int} (h : FrN M m) : FrN M (upM m 243 j v) := fun i hi => by rw [upM_cell hi]; exact h i hi
theorem upS_mem {M : MM} {S : SS} {j v w : Int} (h : ∀ q, M 243 q = S q) (hv : v = w) : ∀ q, upM M 243 j v 243 q = upS S j w q := fun q => by
  subst hv
  rw [upS_at]
  by_cases e : q = j
  · subst e; rw [upM_same, if_pos rfl]
  · rw [upM_ne (fun w => e w.2), if_neg e]; exact h q
theorem c_X10_goesOn {E : EV} {M : MM} {S : SS} {B c : Int} (hM : ∀ q, M 243 q = S q) (hO : SOK B S) (c0 : 0 ≤ c) (c1 : c < S 0) : Cxv E mX10_goesOn 0 [vr 238, vi c] M (fun m => (∀ q, m 243 q = upS (upS S (5 + 5 * c) (plF S c)) (6 + 5 * c) (wdF S c) q) ∧ FrN M m) := by
  refine Ct.of [some (vr 238), some (vi c), none, none] rfl rfl rfl (Nat.le_of_ble_eq_true rfl) ?_
  have hn := hO.1
  have hcl := hO.cl c0 c1
  have hwi := hO.2.1
  have hd := hO.2.2.2.1
  have eK := hM (4 + 5 * c)
  have eP := hM (5 + 5 * c)
  have eW := hM (6 + 5 * c)
  have e1 := hM 1
  have pl3 : 3 < S (4 + 5 * c) → S (5 + 5 * c) = plF S c := fun h => by unfold plF speedF; rw [if_neg (by omega), if_neg (by omega)]; omega
  have pl2 : S (4 + 5 * c) = 2 → (S (5 + 5 * c) + S 1 + 1) % 16 = plF S c := fun h => by unfold plF speedF; rw [if_pos h]; omega
  have pl1 : S (4 + 5 * c) ≤ 3 → S (4 + 5 * c) ≠ 2 → (S (5 + 5 * c) + S 1 + 0) % 16 = plF S c := fun h1 h2 => by unfold plF speedF; rw [if_neg h2, if_pos (by omega)]; omega
  have wd1 : S (4 + 5 * c) = 2 → S 3 % 2 = 0 → S (6 + 5 * c) < 8 → S (6 + 5 * c) + 1 = wdF S c := fun h1 h2 h3 => by unfold wdF; rw [if_pos ⟨h1, h2⟩, if_neg (by omega)]
  have wd0 : ¬ (S (4 + 5 * c) = 2 ∧ S 3 % 2 = 0 ∧ S (6 + 5 * c) < 8) → S (6 + 5 * c) + 0 = wdF S c := fun h => by unfold wdF; (repeat' split) <;> omega
  have tail : ∀ m : MM, (∀ q, m 243 q = upS S (5 + 5 * c) (plF S c) q) → FrN M m → Wp E mX10_goesOn (kd 0) 66 [some (vr 238), some (vi c), some (vi (4 + 5 * c)), some (vi (S (4 + 5 * c)))] [] N0 G0 m (Pxv (fun m => (∀ q, m 243 q = upS (upS S (5 + 5 * c) (plF S c)) (6 + 5 * c) (wdF S c) q) ∧ FrN M m)) := by
    intro m hm hF
    have kW : m 243 (6 + 5 * c) = S (6 + 5 * c) := by rw [hm, upS_at, if_neg (by omega)]
    have k3 : m 243 3 = S 3 := by rw [hm, upS_at, if_neg (by omega)]
    refine w_aload_n dX10_goesOn_66 rfl ?_
    refine w_getR (r := 243) dX10_goesOn_67 fl10_22 g0_238 (by decide) rfl ?_
    refine w_iload_n dX10_goesOn_70 rfl ?_
    refine w_iconst dX10_goesOn_71 ?_
    refine w_iadd dX10_goesOn_72 ?_
    refine w_dup2 dX10_goesOn_73 rfl rfl ?_
    refine r_ildq (q := 6 + 5 * c) dX10_goesOn_74 g0_243 (by decide) (by omega) (by omega) (by omega) (by decide) (fun r74 => ?_)
    refine w_iload_n dX10_goesOn_75 rfl ?_
    refine w_iconst dX10_goesOn_76 ?_
    refine w_icmp_ne (tgt := 108) dX10_goesOn_77 (by decide) (by omega) (by omega) (fun h77 => ?_) (fun h77 => ?_)
    · refine w_iconst dX10_goesOn_108 ?_
      refine w_iadd dX10_goesOn_109 ?_
      refine r_istq (q := 6 + 5 * c) dX10_goesOn_110 g0_243 (by decide) (by omega) (by omega) (by omega) (by omega) (by decide) ?_
      refine w_vret dX10_goesOn_111 rfl ?_ ⟨Nat.le_refl _, Nat.le_refl _⟩
      first | exact q_xv ⟨upS_mem hm (by rw [kW]; exact wd1 (by omega) (by omega) (by omega)), hF.up⟩ | exact q_xv ⟨upS_mem hm (by rw [kW]; exact wd0 (by omega)), hF.up⟩
    · refine w_aload_n dX10_goesOn_80 rfl ?_
      refine w_getR (r := 243) dX10_goesOn_81 fl10_22 g0_238 (by decide) rfl ?_
      refine w_iconst dX10_goesOn_84 ?_
      refine r_ild dX10_goesOn_85 g0_243 (by decide) (by omega) (by omega) (by decide) (fun r85 => ?_)
      refine w_iconst dX10_goesOn_86 ?_
      refine w_irem dX10_goesOn_87 (by omega) (by omega) (by omega) (by omega) ?_
      refine w_if_ne (tgt := 108) dX10_goesOn_88 (by decide) (by omega) (fun h88 => ?_) (fun h88 => ?_)
      · refine w_iconst dX10_goesOn_108 ?_
        refine w_iadd dX10_goesOn_109 ?_
        refine r_istq (q := 6 + 5 * c) dX10_goesOn_110 g0_243 (by decide) (by omega) (by omega) (by omega) (by omega) (by decide) ?_
        refine w_vret dX10_goesOn_111 rfl ?_ ⟨Nat.le_refl _, Nat.le_refl _⟩
        first | exact q_xv ⟨upS_mem hm (by rw [kW]; exact wd1 (by omega) (by omega) (by omega)), hF.up⟩ | exact q_xv ⟨upS_mem hm (by rw [kW]; exact wd0 (by omega)), hF.up⟩
      · refine w_aload_n dX10_goesOn_91 rfl ?_
        refine w_getR (r := 243) dX10_goesOn_92 fl10_22 g0_238 (by decide) rfl ?_
        refine w_iload_n dX10_goesOn_95 rfl ?_
        refine w_iconst dX10_goesOn_96 ?_
        refine w_iadd dX10_goesOn_97 ?_
        refine r_ildq (q := 6 + 5 * c) dX10_goesOn_98 g0_243 (by decide) (by omega) (by omega) (by omega) (by decide) (fun r98 => ?_)
        refine w_bipush dX10_goesOn_99 (by decide +kernel) ?_
        refine w_icmp_ge (tgt := 108) dX10_goesOn_101 (by decide) (by omega) (by omega) (fun h101 => ?_) (fun h101 => ?_)
        · refine w_iconst dX10_goesOn_108 ?_
          refine w_iadd dX10_goesOn_109 ?_
          refine r_istq (q := 6 + 5 * c) dX10_goesOn_110 g0_243 (by decide) (by omega) (by omega) (by omega) (by omega) (by decide) ?_
          refine w_vret dX10_goesOn_111 rfl ?_ ⟨Nat.le_refl _, Nat.le_refl _⟩
          first | exact q_xv ⟨upS_mem hm (by rw [kW]; exact wd1 (by omega) (by omega) (by omega)), hF.up⟩ | exact q_xv ⟨upS_mem hm (by rw [kW]; exact wd0 (by omega)), hF.up⟩
        · refine w_iconst dX10_goesOn_104 ?_
          refine w_goto (tgt := 109) dX10_goesOn_105 (by decide) ?_
          refine w_iadd dX10_goesOn_109 ?_
          refine r_istq (q := 6 + 5 * c) dX10_goesOn_110 g0_243 (by decide) (by omega) (by omega) (by omega) (by omega) (by decide) ?_
          refine w_vret dX10_goesOn_111 rfl ?_ ⟨Nat.le_refl _, Nat.le_refl _⟩
          first | exact q_xv ⟨upS_mem hm (by rw [kW]; exact wd1 (by omega) (by omega) (by omega)), hF.up⟩ | exact q_xv ⟨upS_mem hm (by rw [kW]; exact wd0 (by omega)), hF.up⟩
  refine w_iconst dX10_goesOn_0 ?_
  refine w_iconst dX10_goesOn_1 ?_
  refine w_iload_n dX10_goesOn_2 rfl ?_
  refine w_imul dX10_goesOn_3 ?_
  refine w_iadd dX10_goesOn_4 ?_
  refine w_istore_n dX10_goesOn_5 (by decide) ?_
  refine w_aload_n dX10_goesOn_6 rfl ?_
  refine w_getR (r := 243) dX10_goesOn_7 fl10_22 g0_238 (by decide) rfl ?_
  refine w_iload_n dX10_goesOn_10 rfl ?_
  refine r_ild dX10_goesOn_11 g0_243 (by decide) (by omega) (by omega) (by decide) (fun r11 => ?_)
  rw [eK]
  refine w_istore_n dX10_goesOn_12 (by decide) ?_
  refine w_aload_n dX10_goesOn_13 rfl ?_
  refine w_getR (r := 243) dX10_goesOn_14 fl10_22 g0_238 (by decide) rfl ?_
  refine w_iload_n dX10_goesOn_17 rfl ?_
  refine w_iconst dX10_goesOn_18 ?_
  refine w_iadd dX10_goesOn_19 ?_
  refine w_iload_n dX10_goesOn_20 rfl ?_
  refine w_iconst dX10_goesOn_21 ?_
  refine w_icmp_le (tgt := 36) dX10_goesOn_22 (by decide) (by omega) (by omega) (fun h22 => ?_) (fun h22 => ?_)
  · refine w_aload_n dX10_goesOn_36 rfl ?_
    refine w_getR (r := 243) dX10_goesOn_37 fl10_22 g0_238 (by decide) rfl ?_
    refine w_iload_n dX10_goesOn_40 rfl ?_
    refine w_iconst dX10_goesOn_41 ?_
    refine w_iadd dX10_goesOn_42 ?_
    refine r_ildq (q := 5 + 5 * c) dX10_goesOn_43 g0_243 (by decide) (by omega) (by omega) (by omega) (by decide) (fun r43 => ?_)
    refine w_aload_n dX10_goesOn_44 rfl ?_
    refine w_getR (r := 243) dX10_goesOn_45 fl10_22 g0_238 (by decide) rfl ?_
    refine w_iconst dX10_goesOn_48 ?_
    refine r_ild dX10_goesOn_49 g0_243 (by decide) (by omega) (by omega) (by decide) (fun r49 => ?_)
    refine w_iadd dX10_goesOn_50 ?_
    refine w_iload_n dX10_goesOn_51 rfl ?_
    refine w_iconst dX10_goesOn_52 ?_
    refine w_icmp_ne (tgt := 60) dX10_goesOn_53 (by decide) (by omega) (by omega) (fun h53 => ?_) (fun h53 => ?_)
    · refine w_iconst dX10_goesOn_60 ?_
      refine w_iadd dX10_goesOn_61 ?_
      refine w_bipush dX10_goesOn_62 (by decide +kernel) ?_
      refine w_irem dX10_goesOn_64 (by omega) (by omega) (by omega) (by omega) ?_
      refine r_istq (q := 5 + 5 * c) dX10_goesOn_65 g0_243 (by decide) (by omega) (by omega) (by omega) (by omega) (by decide) ?_
      first | exact tail _ (upS_mem hM (by rw [eP]; exact pl3 (by omega))) (FrN.refl M).up | exact tail _ (upS_mem hM (by rw [eP, e1]; exact pl2 (by omega))) (FrN.refl M).up | exact tail _ (upS_mem hM (by rw [eP, e1]; exact pl1 (by omega) (by omega))) (FrN.refl M).up
    · refine w_iconst dX10_goesOn_56 ?_
      refine w_goto (tgt := 61) dX10_goesOn_57 (by decide) ?_
      refine w_iadd dX10_goesOn_61 ?_
      refine w_bipush dX10_goesOn_62 (by decide +kernel) ?_
      refine w_irem dX10_goesOn_64 (by omega) (by omega) (by omega) (by omega) ?_
      refine r_istq (q := 5 + 5 * c) dX10_goesOn_65 g0_243 (by decide) (by omega) (by omega) (by omega) (by omega) (by decide) ?_
      first | exact tail _ (upS_mem hM (by rw [eP]; exact pl3 (by omega))) (FrN.refl M).up | exact tail _ (upS_mem hM (by rw [eP, e1]; exact pl2 (by omega))) (FrN.refl M).up | exact tail _ (upS_mem hM (by rw [eP, e1]; exact pl1 (by omega) (by omega))) (FrN.refl M).up
  · refine w_aload_n dX10_goesOn_25 rfl ?_
    refine w_getR (r := 243) dX10_goesOn_26 fl10_22 g0_238 (by decide) rfl ?_
    refine w_iload_n dX10_goesOn_29 rfl ?_
    refine w_iconst dX10_goesOn_30 ?_
    refine w_iadd dX10_goesOn_31 ?_
    refine r_ildq (q := 5 + 5 * c) dX10_goesOn_32 g0_243 (by decide) (by omega) (by omega) (by omega) (by decide) (fun r32 => ?_)
    refine w_goto (tgt := 65) dX10_goesOn_33 (by decide) ?_
    refine r_istq (q := 5 + 5 * c) dX10_goesOn_65 g0_243 (by decide) (by omega) (by omega) (by omega) (by omega) (by decide) ?_
    first | exact tail _ (upS_mem hM (by rw [eP]; exact pl3 (by omega))) (FrN.refl M).up | exact tail _ (upS_mem hM (by rw [eP, e1]; exact pl2 (by omega))) (FrN.refl M).up | exact tail _ (upS_mem hM (by rw [eP, e1]; exact pl1 (by omega) (by omega))) (FrN.refl M).up
theorem adR_step {S : SS} {x : Nat} {r : Int} {f : Nat} (hf : f < 16) (q : Int) : upS (adR S (x % 2 ^ f) r) (29 + (f : Int)) (S (29 + (f : Int)) + (if x.testBit f = true then 1 else 0) * r) q = adR S (x % 2 ^ (f + 1)) r q := by
  have mid : (x % 2 ^ (f + 1)).testBit f = x.testBit f := by rw [Nat.testBit_mod_two_pow]; simp
  rw [upS_at]
  by_cases h : q = 29 + (f : Int)
  · rw [if_pos h, h]
    unfold adR
    rw [show (29 + (f : Int) - 29).toNat = f by omega, mid]
    by_cases hb : x.testBit f = true
    · rw [if_pos hb, if_pos ⟨by omega, by omega, hb⟩]; omega
    · rw [if_neg hb, if_neg (fun w => hb w.2.2)]; omega
  · rw [if_neg h]
    unfold adR
    by_cases hr : 29 ≤ q ∧ q < 45
    · obtain ⟨i, hi⟩ : ∃ i : Nat, q = 29 + (i : Int) := ⟨(q - 29).toNat, by omega⟩
      subst hi
      have e : (x % 2 ^ f).testBit (29 + (i : Int) - 29).toNat = (x % 2 ^ (f + 1)).testBit (29 + (i : Int) - 29).toNat := by
        rw [show (29 + (i : Int) - 29).toNat = i by omega, Nat.testBit_mod_two_pow, Nat.testBit_mod_two_pow]
        congr 1
        simp only [decide_eq_decide]
        omega
      rw [e]
    · rw [if_neg (by omega), if_neg (by omega)]
theorem l_X10_rainsOf {E : EV} {M : MM} {T : SS} {B c k9 r n9 : Int} {x : Nat} {Q : PP} (hx : x < 65536) (r0 : 0 ≤ r) (r2 : r ≤ 2) (hB : B ≤ 1000000) (hf : ∀ f : Int, 0 ≤ f → f < 16 → 0 ≤ T (29 + f) ∧ T (29 + f) ≤ B)
    (hQ : ∀ m, (∀ q, m 243 q = adR T x r q) → FrN M m → Wp E mX10_rainsOf (kd 3) 106 [some (vr 238), some (vi c), some (vi k9), some (vi r), some (vi n9), some (vi (x : Int)), some (vi 16)] [] N0 G0 m Q) :
    ∀ (k f : Nat) (z : Int) (m : MM), z = f → f ≤ 16 → 16 - f < k → (∀ q, m 243 q = adR T (x % 2 ^ f) r q) → FrN M m → Wp E mX10_rainsOf (kd 3) 71 [some (vr 238), some (vi c), some (vi k9), some (vi r), some (vi n9), some (vi (x : Int)), some (vi z)] [] N0 G0 m Q := by
  intro k
  induction k with
  | zero => intro f z m hz h16 hk; exact absurd hk (by omega)
  | succ k ih =>
    intro f z m hz h16 hk hm hF
    subst hz
    have hb := b_bit x f
    have eb : ((x / 2 ^ f : Nat) : Int) % 2 = if x.testBit f = true then 1 else 0 := by
      have : ((x / 2 ^ f : Nat) : Int) % 2 = ((x / 2 ^ f % 2 : Nat) : Int) := by omega
      rw [this, hb]
      split <;> rfl
    have ef : f < 16 → m 243 (29 + (f : Int)) = T (29 + (f : Int)) := fun h => by
      rw [hm]; unfold adR; rw [if_neg (fun w => by have := w.2.2; rw [show (29 + (f : Int) - 29).toNat = f by omega, Nat.testBit_mod_two_pow] at this; simp at this)]
    have hm1 : (0 : Int) ≤ (if x.testBit f = true then 1 else 0) * r ∧ (if x.testBit f = true then 1 else 0) * r ≤ 2 := by split <;> omega
    refine w_iload dX10_rainsOf_71 rfl ?_
    refine w_bipush dX10_rainsOf_73 (by decide +kernel) ?_
    refine w_icmp_ge (tgt := 106) dX10_rainsOf_75 (by decide) (by omega) (by omega) (fun h75 => ?_) (fun h75 => ?_)
    · have e16 : f = 16 := by omega
      subst e16
      exact hQ m (fun q => by rw [hm, Nat.mod_eq_of_lt hx]) hF
    · have hfc := hf (f : Int) (by omega) (by omega)
      refine w_aload_n dX10_rainsOf_78 rfl ?_
      refine w_getR (r := 243) dX10_rainsOf_79 fl10_22 g0_238 (by decide) rfl ?_
      refine w_bipush dX10_rainsOf_82 (by decide +kernel) ?_
      refine w_iload dX10_rainsOf_84 rfl ?_
      refine w_iadd dX10_rainsOf_86 ?_
      refine w_dup2 dX10_rainsOf_87 rfl rfl ?_
      refine r_ild dX10_rainsOf_88 g0_243 (by decide) (by omega) (by omega) (by decide) (fun r88 => ?_)
      refine w_iload dX10_rainsOf_89 rfl ?_
      refine w_iload dX10_rainsOf_91 rfl ?_
      refine w_ibin (r := ((x / 2 ^ f : Nat) : Int)) dX10_rainsOf_93 (Or.inr <| Or.inr <| Or.inr <| Or.inr <| Or.inl ⟨rfl, b_shr (by omega) (by omega)⟩) ?_
      refine w_iconst dX10_rainsOf_94 ?_
      refine w_ibin (r := (if x.testBit f = true then 1 else 0)) dX10_rainsOf_95 (Or.inl ⟨rfl, by rw [← eb]; exact b_m1 _⟩) ?_
      refine w_iload_n dX10_rainsOf_96 rfl ?_
      refine w_imul dX10_rainsOf_97 ?_
      refine w_iadd dX10_rainsOf_98 ?_
      refine r_ist dX10_rainsOf_99 g0_243 (by decide) (by omega) (by omega) (by rw [ef (by omega)]; omega) (by decide) ?_
      refine w_iinc dX10_rainsOf_100 rfl (by decide) ?_
      refine w_goto (tgt := 71) dX10_rainsOf_103 (by decide) ?_
      exact ih (f + 1) _ _ (by omega) (by omega) (by omega) (fun q => by rw [← adR_step (by omega)]; exact upS_mem hm (by rw [ef (by omega)]) q) hF.up
theorem t_X10_rainsOf {E : EV} {M m : MM} {S : SS} {B c : Int} (hO : SOK B S) (c0 : 0 ≤ c) (c1 : c < S 0) (ht : S (7 + 5 * c) ≠ 0) (hne : neF S c ≠ 0) (hge : ¬ S (7 + 5 * c) < neF S c) (hm : ∀ q, m 243 q = adR (upS (upS S (5 + 5 * c) (plF S c)) (6 + 5 * c) (wdF S c)) (flF S c) (raF S c) q) (hF : FrN M m) : Wp E mX10_rainsOf (kd 3) 106 [some (vr 238), some (vi c), some (vi (4 + 5 * c)), some (vi (raF S c)), some (vi (neF S c)), some (vi ((flF S c : Nat) : Int)), some (vi 16)] [] N0 G0 m (Pxv (fun m => (∀ q, m 243 q = clF S c q) ∧ FrN M m)) := by
  have hn := hO.1
  have hcl := hO.cl c0 c1
  have nr := neF_r hO c0 c1
  have eT : m 243 (7 + 5 * c) = S (7 + 5 * c) := by rw [hm]; unfold adR; rw [if_neg (by omega), upS_at, upS_at, if_neg (by omega), if_neg (by omega)]
  have fin : ∀ q, upS (adR (upS (upS S (5 + 5 * c) (plF S c)) (6 + 5 * c) (wdF S c)) (flF S c) (raF S c)) (7 + 5 * c) (S (7 + 5 * c) - neF S c) q = clF S c q := fun q => by
    unfold clF adR
    rw [upS_at, mvF_at, if_neg ht]
    have ew : wtF S c = S (7 + 5 * c) - neF S c := by unfold wtF; rw [if_neg (by omega)]
    by_cases q1 : q = 7 + 5 * c
    · rw [if_pos q1, if_neg (by omega), if_neg (by omega), if_neg (by omega), if_pos q1, ew]
    · rw [if_neg q1, upS_at, upS_at]
      by_cases q2 : q = 6 + 5 * c
      · rw [if_neg (by omega), if_pos q2, if_neg (by omega), if_neg (by omega), if_pos q2]
      · by_cases q3 : q = 5 + 5 * c
        · rw [if_neg (by omega), if_neg q2, if_pos q3, if_neg (by omega), if_pos q3]
        · rw [if_neg q2, if_neg q3, if_neg q3, if_neg q2, if_neg q1]
  refine w_aload_n dX10_rainsOf_106 rfl ?_
  refine w_getR (r := 243) dX10_rainsOf_107 fl10_22 g0_238 (by decide) rfl ?_
  refine w_iload_n dX10_rainsOf_110 rfl ?_
  refine w_iconst dX10_rainsOf_111 ?_
  refine w_iadd dX10_rainsOf_112 ?_
  refine w_dup2 dX10_rainsOf_113 rfl rfl ?_
  refine r_ildq (q := 7 + 5 * c) dX10_rainsOf_114 g0_243 (by decide) (by omega) (by omega) (by omega) (by decide) (fun r114 => ?_)
  refine w_iload dX10_rainsOf_115 rfl ?_
  refine w_isub dX10_rainsOf_117 ?_
  refine r_istq (q := 7 + 5 * c) dX10_rainsOf_118 g0_243 (by decide) (by omega) (by omega) (by omega) (by omega) (by decide) ?_
  refine w_vret dX10_rainsOf_119 rfl ?_ ⟨Nat.le_refl _, Nat.le_refl _⟩
  exact (q_xv ⟨fun q => by rw [upS_mem hm (w := S (7 + 5 * c) - neF S c) (by rw [eT]) q, fin q], hF.up⟩)
theorem c_X10_rainsOf {E : EV} {M : MM} {S : SS} {B c : Int} (hM : ∀ q, M 243 q = upS (upS S (5 + 5 * c) (plF S c)) (6 + 5 * c) (wdF S c) q) (hO : SOK B S) (hB : B ≤ 100000) (hD : S 3 ≤ 100000) (c0 : 0 ≤ c) (c1 : c < S 0) (ht : S (7 + 5 * c) ≠ 0) : Cxv E mX10_rainsOf 3 [vr 238, vi c] M (fun m => (∀ q, m 243 q = clF S c q) ∧ FrN M m) := by
  refine Ct.of [some (vr 238), some (vi c), none, none, none, none, none] rfl rfl rfl (Nat.le_of_ble_eq_true rfl) ?_
  have hn := hO.1
  have hcl := hO.cl c0 c1
  have hd := hO.2.2.2.1
  have eK : M 243 (4 + 5 * c) = S (4 + 5 * c) := by rw [hM, upS_at, upS_at, if_neg (by omega), if_neg (by omega)]
  have eP : M 243 (5 + 5 * c) = plF S c := by rw [hM, upS_at, upS_at, if_neg (by omega), if_pos rfl]
  have eW : M 243 (6 + 5 * c) = wdF S c := by rw [hM, upS_at, if_pos rfl]
  have eT : M 243 (7 + 5 * c) = S (7 + 5 * c) := by rw [hM, upS_at, upS_at, if_neg (by omega), if_neg (by omega)]
  have e3 : M 243 3 = S 3 := by rw [hM, upS_at, upS_at, if_neg (by omega), if_neg (by omega)]
  have pr := plF_r S c
  have wr := wdF_r hO c0 c1
  have nr := neF_r hO c0 c1
  have rr := raF_r S c
  have en : wdF S c * rainF (S (4 + 5 * c)) (S 3) = neF S c := rfl
  have hsh : neF S c ≠ 0 → ¬ S (7 + 5 * c) < neF S c → shF (M 243) c = flF S c := fun h1 h2 => by
    unfold shF shadeF flF
    rw [eT, if_neg ht, if_neg (by omega), eP, eW]
  have e1 : ∀ q, upS (upS (upS S (5 + 5 * c) (plF S c)) (6 + 5 * c) (wdF S c)) (7 + 5 * c) (wtF S c) q = mvF S c q := fun q => by
    rw [mvF_at, if_neg ht, upS_at, upS_at, upS_at]
    by_cases q1 : q = 7 + 5 * c
    · rw [if_pos q1, if_neg (by omega), if_neg (by omega), if_pos q1]
    · rw [if_neg q1]
      by_cases q2 : q = 6 + 5 * c
      · rw [if_pos q2, if_neg (by omega), if_pos q2]
      · rw [if_neg q2]
        by_cases q3 : q = 5 + 5 * c
        · rw [if_pos q3, if_pos q3]
        · rw [if_neg q3, if_neg q3, if_neg q2, if_neg q1]
  refine w_iconst dX10_rainsOf_0 ?_
  refine w_iconst dX10_rainsOf_1 ?_
  refine w_iload_n dX10_rainsOf_2 rfl ?_
  refine w_imul dX10_rainsOf_3 ?_
  refine w_iadd dX10_rainsOf_4 ?_
  refine w_istore_n dX10_rainsOf_5 (by decide) ?_
  refine w_aload_n dX10_rainsOf_6 rfl ?_
  refine w_iload_n dX10_rainsOf_7 rfl ?_
  refine w_aload_n dX10_rainsOf_8 rfl ?_
  refine w_getR (r := 243) dX10_rainsOf_9 fl10_22 g0_238 (by decide) rfl ?_
  refine w_iconst dX10_rainsOf_12 ?_
  refine r_ild dX10_rainsOf_13 g0_243 (by decide) (by omega) (by omega) (by decide) (fun r13 => ?_)
  refine cVm dX10_rainsOf_14 ok_X10_rains lv10_135 (c_X10_rains (by omega) (by omega) (by omega) (by omega)) rfl (congrArg Prod.fst g0_238) (by decide) (by decide) rfl (by decide) (Nat.le_of_ble_eq_true rfl) (fun r14 => ?_)
  rw [eK, e3] at r14 ⊢
  refine w_istore_n dX10_rainsOf_17 (by decide) ?_
  refine w_aload_n dX10_rainsOf_18 rfl ?_
  refine w_getR (r := 243) dX10_rainsOf_19 fl10_22 g0_238 (by decide) rfl ?_
  refine w_iload_n dX10_rainsOf_22 rfl ?_
  refine w_iconst dX10_rainsOf_23 ?_
  refine w_iadd dX10_rainsOf_24 ?_
  refine r_ildq (q := 6 + 5 * c) dX10_rainsOf_25 g0_243 (by decide) (by omega) (by omega) (by omega) (by decide) (fun r25 => ?_)
  rw [eW]
  refine w_iload_n dX10_rainsOf_26 rfl ?_
  refine w_imul dX10_rainsOf_27 ?_
  rw [en]
  refine w_istore dX10_rainsOf_28 (by decide) ?_
  refine w_iload dX10_rainsOf_30 rfl ?_
  refine w_if_eq (tgt := 48) dX10_rainsOf_32 (by decide) (by omega) (fun h32 => ?_) (fun h32 => ?_)
  · refine w_aload_n dX10_rainsOf_48 rfl ?_
    refine w_getR (r := 243) dX10_rainsOf_49 fl10_22 g0_238 (by decide) rfl ?_
    refine w_iload_n dX10_rainsOf_52 rfl ?_
    refine w_iconst dX10_rainsOf_53 ?_
    refine w_iadd dX10_rainsOf_54 ?_
    refine w_dup2 dX10_rainsOf_55 rfl rfl ?_
    refine r_ildq (q := 7 + 5 * c) dX10_rainsOf_56 g0_243 (by decide) (by omega) (by omega) (by omega) (by decide) (fun r56 => ?_)
    refine w_iconst dX10_rainsOf_57 ?_
    refine w_isub dX10_rainsOf_58 ?_
    refine r_istq (q := 7 + 5 * c) dX10_rainsOf_59 g0_243 (by decide) (by omega) (by omega) (by omega) (by omega) (by decide) ?_
    refine w_vret dX10_rainsOf_60 rfl ?_ ⟨Nat.le_refl _, Nat.le_refl _⟩
    exact (q_xv ⟨fun q => by rw [upS_mem hM (w := wtF S c) (by rw [eT]; unfold wtF; rw [if_pos (by omega)]) q, e1 q]; unfold clF adR flF; rw [if_neg (fun w => by have := w.2.2; rw [if_pos (by omega), Nat.zero_testBit] at this; cases this)], (FrN.refl M).up⟩)
  · refine w_aload_n dX10_rainsOf_35 rfl ?_
    refine w_getR (r := 243) dX10_rainsOf_36 fl10_22 g0_238 (by decide) rfl ?_
    refine w_iload_n dX10_rainsOf_39 rfl ?_
    refine w_iconst dX10_rainsOf_40 ?_
    refine w_iadd dX10_rainsOf_41 ?_
    refine r_ildq (q := 7 + 5 * c) dX10_rainsOf_42 g0_243 (by decide) (by omega) (by omega) (by omega) (by decide) (fun r42 => ?_)
    refine w_iload dX10_rainsOf_43 rfl ?_
    refine w_icmp_ge (tgt := 61) dX10_rainsOf_45 (by decide) (by omega) (by omega) (fun h45 => ?_) (fun h45 => ?_)
    · refine w_aload_n dX10_rainsOf_61 rfl ?_
      refine w_iload_n dX10_rainsOf_62 rfl ?_
      refine cVm dX10_rainsOf_63 ok_X10_fields lv10_132 (c_X10_fields (by omega) (by omega) (by omega) (by omega)) rfl (congrArg Prod.fst g0_238) (by decide) (by decide) rfl (by decide) (Nat.le_of_ble_eq_true rfl) (fun r63 => ?_)
      rw [hsh (by omega) (by omega)]
      refine w_istore dX10_rainsOf_66 (by decide) ?_
      refine w_iconst dX10_rainsOf_68 ?_
      refine w_istore dX10_rainsOf_69 (by decide) ?_
      refine l_X10_rainsOf (M := M) (x := flF S c) (T := upS (upS S (5 + 5 * c) (plF S c)) (6 + 5 * c) (wdF S c)) (B := B) (flF_lt S c) rr.1 rr.2 (by omega) (fun f f0 f1 => by rw [upS_at, upS_at, if_neg (by omega), if_neg (by omega)]; exact hO.2.2.2.2.2 f f0 f1) (fun m hm hF => ?_) 17 0 _ _ rfl (by omega) (by omega) (fun q => by rw [hM, Nat.pow_zero, Nat.mod_one]; unfold adR; rw [if_neg (fun w => by have := w.2.2; rw [Nat.zero_testBit] at this; cases this)]) (FrN.refl M)
      exact t_X10_rainsOf hO c0 c1 ht (by omega) (by omega) hm hF
    · refine w_aload_n dX10_rainsOf_48 rfl ?_
      refine w_getR (r := 243) dX10_rainsOf_49 fl10_22 g0_238 (by decide) rfl ?_
      refine w_iload_n dX10_rainsOf_52 rfl ?_
      refine w_iconst dX10_rainsOf_53 ?_
      refine w_iadd dX10_rainsOf_54 ?_
      refine w_dup2 dX10_rainsOf_55 rfl rfl ?_
      refine r_ildq (q := 7 + 5 * c) dX10_rainsOf_56 g0_243 (by decide) (by omega) (by omega) (by omega) (by decide) (fun r56 => ?_)
      refine w_iconst dX10_rainsOf_57 ?_
      refine w_isub dX10_rainsOf_58 ?_
      refine r_istq (q := 7 + 5 * c) dX10_rainsOf_59 g0_243 (by decide) (by omega) (by omega) (by omega) (by omega) (by decide) ?_
      refine w_vret dX10_rainsOf_60 rfl ?_ ⟨Nat.le_refl _, Nat.le_refl _⟩
      exact (q_xv ⟨fun q => by rw [upS_mem hM (w := wtF S c) (by rw [eT]; unfold wtF; rw [if_pos (by omega)]) q, e1 q]; unfold clF adR flF; rw [if_neg (fun w => by have := w.2.2; rw [if_pos (by omega), Nat.zero_testBit] at this; cases this)], (FrN.refl M).up⟩)
