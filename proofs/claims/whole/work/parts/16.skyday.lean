/-! ===== Sky: a day ===== -/
theorem t_X6_goOn {E : EV} {M m : MM} {a : Nat} {S : SS} {B c : Int} {x2 : Option AV} (hS : SK a) (hO : SOK B S) (c0 : 0 ≤ c) (c1 : c < S 0) (ht : S (7 + 5 * c) ≠ 0) (hV : SV m a (upS (upS S (5 + 5 * c) (plF S c)) (6 + 5 * c) (wdF S c))) (hF : Fr a M m) : Wp E mX6_goOn (kd 4) 69 [some (vr a), some (vi c), x2] [] N0 G0 m (Px (fun z m => z = ((flF S c : Nat) : Int) ∧ SV m a (mvF S c) ∧ Fr a M m)) := by
  have hn := hO.1
  have hcl := hO.2.2.2.2.1 c c0 c1
  have c1' : c < (upS (upS S (5 + 5 * c) (plF S c)) (6 + 5 * c) (wdF S c)) 0 := by rw [upS_at, upS_at, if_neg (by omega), if_neg (by omega)]; exact c1
  have c5' : (upS (upS S (5 + 5 * c) (plF S c)) (6 + 5 * c) (wdF S c)) 0 ≤ 5 := by rw [upS_at, upS_at, if_neg (by omega), if_neg (by omega)]; exact hn.2
  have e1 : m (a + 1) c = S (4 + 5 * c) := by rw [hV.kind c0 c1', upS_at, upS_at, if_neg (by omega), if_neg (by omega)]
  have e2 : m (a + 2) c = plF S c := by rw [hV.place c0 c1', upS_at, upS_at, if_neg (by omega), if_pos rfl]
  have e3 : m (a + 3) c = wdF S c := by rw [hV.wide c0 c1', upS_at, if_pos rfl]
  have e4 : m (a + 4) c = S (7 + 5 * c) := by rw [hV.wet c0 c1', upS_at, upS_at, if_neg (by omega), if_neg (by omega)]
  have eD : m a 3 = S 3 := by rw [hV.day, upS_at, upS_at, if_neg (by omega), if_neg (by omega)]
  have w := wdF_r hO c0 c1
  have p := plF_r S c
  have ne := neF_r hO c0 c1
  have en : m (a + 3) c * rainF (m (a + 1) c) (m a 3) = neF S c := by rw [e3, e1, eD]; rfl
  have fin : ∀ v : Int, v = wtF S c → SV (upM m (a + 4) c v) a (mvF S c) := fun v hv => (hV.p_wet c0 c1' c5' hv).congr (fun q => by
    rw [mvF_at, if_neg ht, upS_at, upS_at, upS_at]
    by_cases q1 : q = 7 + 5 * c
    · rw [if_pos q1, if_neg (by omega), if_neg (by omega), if_pos q1]
    · rw [if_neg q1]
      by_cases q2 : q = 6 + 5 * c
      · rw [if_pos q2, if_neg (by omega), if_pos q2]
      · rw [if_neg q2]
        by_cases q3 : q = 5 + 5 * c
        · rw [if_pos q3, if_pos q3]
        · rw [if_neg q3, if_neg q3, if_neg q2, if_neg q1])
  refine w_aload_n dX6_goOn_69 rfl ?_
  refine w_iload_n dX6_goOn_70 rfl ?_
  refine cVm dX6_goOn_71 ok_X6_need lv6_90 (c_X6_need hS (by omega) (by omega) (by omega) (by omega)) rfl (sk_k hS) (sk_n0 hS) (by decide) rfl (by decide) (Nat.le_of_ble_eq_true rfl) (fun r71 => ?_)
  rw [en]
  refine w_istore_n dX6_goOn_74 (by decide) ?_
  refine w_iload_n dX6_goOn_75 rfl ?_
  refine w_if_eq (tgt := 89) dX6_goOn_76 (by decide) (by omega) (fun h76 => ?_) (fun h76 => ?_)
  · refine w_aload_n dX6_goOn_89 rfl ?_
    refine w_getR (r := (a + 4)) dX6_goOn_90 fl6_21 (sk_g0 hS) (sk_n0 hS) rfl ?_
    refine w_iload_n dX6_goOn_93 rfl ?_
    refine w_dup2 dX6_goOn_94 rfl rfl ?_
    refine r_ild dX6_goOn_95 (sk_g4 hS) (sk_n4 hS) (by omega) (by omega) (by decide) (fun r95 => ?_)
    refine w_iconst dX6_goOn_96 ?_
    refine w_isub dX6_goOn_97 ?_
    refine r_ist dX6_goOn_98 (sk_g4 hS) (sk_n4 hS) (by omega) (by omega) (by omega) (by decide) ?_
    refine w_iconst dX6_goOn_99 ?_
    refine w_iret dX6_goOn_100 rfl (by omega) ?_ ⟨Nat.le_refl _, Nat.le_refl _⟩
    exact (q_x ⟨by unfold flF; rw [if_pos (by omega)]; rfl, fin _ (by unfold wtF; rw [if_pos (by omega)]; omega), hF.up (by omega)⟩)
  · refine w_aload_n dX6_goOn_79 rfl ?_
    refine w_getR (r := (a + 4)) dX6_goOn_80 fl6_21 (sk_g0 hS) (sk_n0 hS) rfl ?_
    refine w_iload_n dX6_goOn_83 rfl ?_
    refine r_ild dX6_goOn_84 (sk_g4 hS) (sk_n4 hS) (by omega) (by omega) (by decide) (fun r84 => ?_)
    refine w_iload_n dX6_goOn_85 rfl ?_
    refine w_icmp_ge (tgt := 101) dX6_goOn_86 (by decide) (by omega) (by omega) (fun h86 => ?_) (fun h86 => ?_)
    · refine w_aload_n dX6_goOn_101 rfl ?_
      refine w_getR (r := (a + 4)) dX6_goOn_102 fl6_21 (sk_g0 hS) (sk_n0 hS) rfl ?_
      refine w_iload_n dX6_goOn_105 rfl ?_
      refine w_dup2 dX6_goOn_106 rfl rfl ?_
      refine r_ild dX6_goOn_107 (sk_g4 hS) (sk_n4 hS) (by omega) (by omega) (by decide) (fun r107 => ?_)
      refine w_iload_n dX6_goOn_108 rfl ?_
      refine w_isub dX6_goOn_109 ?_
      refine r_ist dX6_goOn_110 (sk_g4 hS) (sk_n4 hS) (by omega) (by omega) (by omega) (by decide) ?_
      refine wgen (fun m2 => SV m2 a (mvF S c) ∧ Fr a M m2 ∧ m2 (a + 2) c = plF S c ∧ m2 (a + 3) c = wdF S c) ⟨fin _ (by unfold wtF; rw [if_neg (by omega)]; omega), hF.up (by omega), by rw [upM_cell (by omega)]; exact e2, by rw [upM_cell (by omega)]; exact e3⟩ (fun m2 hm2 => ?_)
      obtain ⟨g1, g2, g3, g4⟩ := hm2
      refine w_aload_n dX6_goOn_111 rfl ?_
      refine w_iload_n dX6_goOn_112 rfl ?_
      refine cVm dX6_goOn_113 ok_X6_reach lv6_61 (c_X6_reach hS (by omega) (by omega) (by omega) (by omega) (by omega) (by omega)) rfl (sk_k hS) (sk_n0 hS) (by decide) rfl (by decide) (Nat.le_of_ble_eq_true rfl) (fun r113 => ?_)
      rw [g3, g4]
      refine w_iret dX6_goOn_116 rfl (by have := spanF_lt (plF S c) (wdF S c); omega) ?_ ⟨Nat.le_refl _, Nat.le_refl _⟩
      exact (q_x ⟨by unfold flF; rw [if_neg (by omega)], g1, g2⟩)
    · refine w_aload_n dX6_goOn_89 rfl ?_
      refine w_getR (r := (a + 4)) dX6_goOn_90 fl6_21 (sk_g0 hS) (sk_n0 hS) rfl ?_
      refine w_iload_n dX6_goOn_93 rfl ?_
      refine w_dup2 dX6_goOn_94 rfl rfl ?_
      refine r_ild dX6_goOn_95 (sk_g4 hS) (sk_n4 hS) (by omega) (by omega) (by decide) (fun r95 => ?_)
      refine w_iconst dX6_goOn_96 ?_
      refine w_isub dX6_goOn_97 ?_
      refine r_ist dX6_goOn_98 (sk_g4 hS) (sk_n4 hS) (by omega) (by omega) (by omega) (by decide) ?_
      refine w_iconst dX6_goOn_99 ?_
      refine w_iret dX6_goOn_100 rfl (by omega) ?_ ⟨Nat.le_refl _, Nat.le_refl _⟩
      exact (q_x ⟨by unfold flF; rw [if_pos (by omega)]; rfl, fin _ (by unfold wtF; rw [if_pos (by omega)]; omega), hF.up (by omega)⟩)
theorem c_X6_goOn {E : EV} {M : MM} {a : Nat} {S : SS} {B c : Int} (hS : SK a) (hV : SV M a S) (hO : SOK B S) (c0 : 0 ≤ c) (c1 : c < S 0) : Cx E mX6_goOn 4 [vr a, vi c] M (fun z m => z = ((flF S c : Nat) : Int) ∧ SV m a (mvF S c) ∧ Fr a M m) := by
  refine Ct.of [some (vr a), some (vi c), none] rfl rfl rfl (Nat.le_of_ble_eq_true rfl) ?_
  have hn := hO.1
  have hwi := hO.2.1
  have hcl := hO.2.2.2.2.1 c c0 c1
  have eK := hV.kind c0 c1
  have eP := hV.place c0 c1
  have eW := hV.wide c0 c1
  have eT := hV.wet c0 c1
  have eWi := hV.wind
  have eD := hV.day
  have c1' : ∀ v, c < (upS S (5 + 5 * c) v) 0 := fun v => by rw [upS_at, if_neg (by omega)]; exact c1
  have c5' : ∀ v, (upS S (5 + 5 * c) v) 0 ≤ 5 := fun v => by rw [upS_at, if_neg (by omega)]; exact hn.2
  have hwd1 : (S (4 + 5 * c) = 2 ∧ S 3 % 2 = 0) → wdF S c = if 8 < S (6 + 5 * c) + 1 then 8 else S (6 + 5 * c) + 1 := fun h => if_pos h
  have hco : ¬ (S (4 + 5 * c) = 2 ∧ S 3 % 2 = 0) → ∀ q, upS S (5 + 5 * c) (plF S c) q = upS (upS S (5 + 5 * c) (plF S c)) (6 + 5 * c) (wdF S c) q := fun h q => by
    rw [upS_at (upS S (5 + 5 * c) (plF S c))]
    by_cases hq : q = 6 + 5 * c
    · rw [if_pos hq, upS_at, if_neg (by omega), hq]
      exact (if_neg h).symm
    · rw [if_neg hq]
  refine w_aload_n dX6_goOn_0 rfl ?_
  refine w_iload_n dX6_goOn_1 rfl ?_
  refine cVm dX6_goOn_2 ok_X6_isGone lv6_49 (c_X6_isGone hS (by omega) (by omega)) rfl (sk_k hS) (sk_n0 hS) (by decide) rfl (by decide) (Nat.le_of_ble_eq_true rfl) (fun r2 => ?_)
  refine w_ifB_eq (tgt := 10) dX6_goOn_5 (by decide) (fun h5 => ?_) (fun h5 => ?_)
  · have ht : S (7 + 5 * c) ≠ 0 := by rw [← eT]; exact of_decide_eq_false h5
    refine w_aload_n dX6_goOn_10 rfl ?_
    refine w_getR (r := (a + 2)) dX6_goOn_11 fl6_15 (sk_g0 hS) (sk_n0 hS) rfl ?_
    refine w_iload_n dX6_goOn_14 rfl ?_
    refine w_aload_n dX6_goOn_15 rfl ?_
    refine w_getR (r := (a + 2)) dX6_goOn_16 fl6_15 (sk_g0 hS) (sk_n0 hS) rfl ?_
    refine w_iload_n dX6_goOn_19 rfl ?_
    refine r_ild dX6_goOn_20 (sk_g2 hS) (sk_n2 hS) (by omega) (by omega) (by decide) (fun r20 => ?_)
    refine w_aload_n dX6_goOn_21 rfl ?_
    refine w_iload_n dX6_goOn_22 rfl ?_
    refine cVm dX6_goOn_23 ok_X6_speed lv6_84 (c_X6_speed hS (by omega) (by omega) (by omega)) rfl (sk_k hS) (sk_n0 hS) (by decide) rfl (by decide) (Nat.le_of_ble_eq_true rfl) (fun r23 => ?_)
    refine w_iadd dX6_goOn_26 ?_
    refine cSm dX6_goOn_27 ok_X9_ring (Or.inr ln6_87) c_X9_ring rfl  rfl (by decide) (Nat.le_of_ble_eq_true rfl) (fun r27 => ?_)
    refine r_ist dX6_goOn_30 (sk_g2 hS) (sk_n2 hS) (by omega) (by omega) (by omega) (by decide) ?_
    refine wgen (fun m => SV m a (upS S (5 + 5 * c) (plF S c)) ∧ Fr a M m) ⟨hV.p_place c0 c1 hn.2 (by rw [eP, eK, eWi]; rfl), (Fr.refl a M).up (by omega)⟩ (fun m hm => ?_)
    obtain ⟨hV1, hF1⟩ := hm
    have k1 : m (a + 1) c = S (4 + 5 * c) := by rw [hV1.kind c0 (c1' _), upS_at, if_neg (by omega)]
    have k3 : m (a + 3) c = S (6 + 5 * c) := by rw [hV1.wide c0 (c1' _), upS_at, if_neg (by omega)]
    have kD : m a 3 = S 3 := by rw [hV1.day, upS_at, if_neg (by omega)]
    refine w_aload_n dX6_goOn_31 rfl ?_
    refine w_getR (r := (a + 1)) dX6_goOn_32 fl6_9 (sk_g0 hS) (sk_n0 hS) rfl ?_
    refine w_iload_n dX6_goOn_35 rfl ?_
    refine r_ild dX6_goOn_36 (sk_g1 hS) (sk_n1 hS) (by omega) (by omega) (by decide) (fun r36 => ?_)
    refine w_iconst dX6_goOn_37 ?_
    refine w_icmp_ne (tgt := 69) dX6_goOn_38 (by decide) (by omega) (by omega) (fun h38 => ?_) (fun h38 => ?_)
    · first | exact t_X6_goOn hS hO c0 c1 ht (hV1.p_wide c0 (c1' _) (c5' _) (by rw [k3]; exact (hwd1 ⟨by omega, by omega⟩).symm)) (hF1.up (by omega)) | exact t_X6_goOn hS hO c0 c1 ht (hV1.congr (hco (by omega))) hF1
    · refine w_aload_n dX6_goOn_41 rfl ?_
      refine r_getI (q := 3) dX6_goOn_42 fl6_40 (sk_g0 hS) (sk_n0 hS) rfl (by decide) rfl (fun r42 => ?_)
      refine w_iconst dX6_goOn_45 ?_
      refine w_ibin (r := (m a 3 % 2)) dX6_goOn_46 (Or.inl ⟨rfl, b_m1 _⟩) ?_
      refine w_if_ne (tgt := 69) dX6_goOn_47 (by decide) (by omega) (fun h47 => ?_) (fun h47 => ?_)
      · first | exact t_X6_goOn hS hO c0 c1 ht (hV1.p_wide c0 (c1' _) (c5' _) (by rw [k3]; exact (hwd1 ⟨by omega, by omega⟩).symm)) (hF1.up (by omega)) | exact t_X6_goOn hS hO c0 c1 ht (hV1.congr (hco (by omega))) hF1
      · refine w_aload_n dX6_goOn_50 rfl ?_
        refine w_getR (r := (a + 3)) dX6_goOn_51 fl6_18 (sk_g0 hS) (sk_n0 hS) rfl ?_
        refine w_iload_n dX6_goOn_54 rfl ?_
        refine w_aload_n dX6_goOn_55 rfl ?_
        refine w_getR (r := (a + 3)) dX6_goOn_56 fl6_18 (sk_g0 hS) (sk_n0 hS) rfl ?_
        refine w_iload_n dX6_goOn_59 rfl ?_
        refine r_ild dX6_goOn_60 (sk_g3 hS) (sk_n3 hS) (by omega) (by omega) (by decide) (fun r60 => ?_)
        refine w_iconst dX6_goOn_61 ?_
        refine w_iadd dX6_goOn_62 ?_
        refine w_bipush dX6_goOn_63 (by decide +kernel) ?_
        refine w_mmin dX6_goOn_65 lm6_67 (by omega) (by omega) ⟨by decide, by decide, by decide⟩ (Nat.le_of_ble_eq_true rfl) ?_
        refine r_ist dX6_goOn_68 (sk_g3 hS) (sk_n3 hS) (by omega) (by omega) (by split <;> omega) (by decide) ?_
        first | exact t_X6_goOn hS hO c0 c1 ht (hV1.p_wide c0 (c1' _) (c5' _) (by rw [k3]; exact (hwd1 ⟨by omega, by omega⟩).symm)) (hF1.up (by omega)) | exact t_X6_goOn hS hO c0 c1 ht (hV1.congr (hco (by omega))) hF1
  · have ht : S (7 + 5 * c) = 0 := by rw [← eT]; exact of_decide_eq_true h5
    refine w_iconst dX6_goOn_8 ?_
    refine w_iret dX6_goOn_9 rfl (by omega) ?_ ⟨Nat.le_refl _, Nat.le_refl _⟩
    exact (q_x ⟨by unfold flF; rw [if_pos (Or.inl ht)]; rfl, by unfold mvF; rw [if_pos ht]; exact hV, Fr.refl a M⟩)
theorem bitI_t {x c : Nat} (h : ¬ ((x / 2 ^ c : Nat) : Int) % 2 = 0) : x.testBit c = true := by
  have := b_bit x c
  by_cases q : x.testBit c = true
  · exact q
  · rw [if_neg q] at this; omega
theorem bitI_f {x c : Nat} (h : ((x / 2 ^ c : Nat) : Int) % 2 = 0) : ¬ x.testBit c = true := fun q => by
  have := b_bit x c
  rw [if_pos q] at this; omega
/-- rain on the fields of a set -/
theorem l_X6_rainOn {E : EV} {M : MM} {a : Nat} {S : SS} {B : Int} {x : Nat} {r : Int} (hS : SK a) (hx : x < 65536) (r0 : 0 ≤ r) (r2 : r ≤ 2) (hB : B ≤ 1000000) (h5 : S 0 ≤ 5) (hf : ∀ f : Int, 0 ≤ f → f < 16 → 0 ≤ S (29 + f) ∧ S (29 + f) ≤ B) :
    ∀ (k : Nat) (c : Nat) (z : Int) (m : MM), z = c → c ≤ 16 → 16 - c < k → SV m a (adR S (x % 2 ^ c) r) → Fr a M m → Wp E mX6_rainOn (kd 1) 2 [some (vr a), some (vi (x : Int)), some (vi r), some (vi z)] [] N0 G0 m (Pxv (fun m => SV m a (adR S x r) ∧ Fr a M m)) := by
  intro k
  induction k with
  | zero => intro c z m hz h16 hk; exact absurd hk (by omega)
  | succ k ih =>
    intro c z m hz h16 hk hV hF
    subst hz
    have low : ∀ i : Nat, i < c → (x % 2 ^ (c + 1)).testBit i = (x % 2 ^ c).testBit i := fun i hi => by rw [Nat.testBit_mod_two_pow, Nat.testBit_mod_two_pow]; simp [hi, show i < c + 1 by omega]
    have mid : (x % 2 ^ (c + 1)).testBit c = x.testBit c := by rw [Nat.testBit_mod_two_pow]; simp
    have mid0 : (x % 2 ^ c).testBit c = false := by rw [Nat.testBit_mod_two_pow]; simp
    have hi' : ∀ i : Nat, c < i → (x % 2 ^ (c + 1)).testBit i = false ∧ (x % 2 ^ c).testBit i = false := fun i hi => by rw [Nat.testBit_mod_two_pow, Nat.testBit_mod_two_pow]; simp; omega
    have e0 : (adR S (x % 2 ^ c) r) 0 = S 0 := by unfold adR; rw [if_neg (by omega)]
    have key : ∀ (v : Int), c < 16 → adR S (x % 2 ^ (c + 1)) r = if x.testBit c = true then upS (adR S (x % 2 ^ c) r) (29 + (c : Int)) (S (29 + (c : Int)) + r) else adR S (x % 2 ^ c) r := fun v hc => by
      funext q
      by_cases hb : 29 ≤ q ∧ q < 45
      · obtain ⟨i, hi⟩ : ∃ i : Nat, q = 29 + (i : Int) := ⟨(q - 29).toNat, by omega⟩
        subst hi
        have et : (29 + (i : Int) - 29).toNat = i := by omega
        rcases Nat.lt_trichotomy i c with g | g | g
        · have h1 : adR S (x % 2 ^ (c + 1)) r (29 + (i : Int)) = adR S (x % 2 ^ c) r (29 + (i : Int)) := by unfold adR; rw [et, low i g]
          rw [h1]
          split
          · rw [upS_at, if_neg (by omega)]
          · rfl
        · subst g
          by_cases hx1 : x.testBit i = true
          · rw [if_pos hx1, upS_at, if_pos rfl]; unfold adR; rw [et, mid, if_pos ⟨by omega, by omega, hx1⟩]
          · rw [if_neg hx1]; unfold adR; rw [et, mid, mid0, if_neg (fun w => hx1 w.2.2), if_neg (fun w => by cases w.2.2)]
        · have h1 : adR S (x % 2 ^ (c + 1)) r (29 + (i : Int)) = adR S (x % 2 ^ c) r (29 + (i : Int)) := by unfold adR; rw [et, (hi' i g).1, (hi' i g).2]
          rw [h1]
          split
          · rw [upS_at, if_neg (by omega)]
          · rfl
      · have h1 : adR S (x % 2 ^ (c + 1)) r q = S q := by unfold adR; rw [if_neg (by omega)]
        have h2 : adR S (x % 2 ^ c) r q = S q := by unfold adR; rw [if_neg (by omega)]
        rw [h1]
        split
        · rw [upS_at, if_neg (by omega), h2]
        · rw [h2]
    refine w_iload_n dX6_rainOn_2 rfl ?_
    refine w_bipush dX6_rainOn_3 (by decide +kernel) ?_
    refine w_icmp_ge (tgt := 32) dX6_rainOn_5 (by decide) (by omega) (by omega) (fun hc => ?_) (fun hc => ?_)
    · have e16 : c = 16 := by omega
      rw [e16, Nat.mod_eq_of_lt hx] at hV
      refine w_vret dX6_rainOn_32 rfl ?_ ⟨Nat.le_refl _, Nat.le_refl _⟩
      exact (q_xv ⟨hV, hF⟩)
    · refine w_iload_n dX6_rainOn_8 rfl ?_
      refine w_iload_n dX6_rainOn_9 rfl ?_
      refine w_ibin (r := ((x / 2 ^ c : Nat) : Int)) dX6_rainOn_10 (Or.inr <| Or.inr <| Or.inr <| Or.inr <| Or.inl ⟨rfl, b_shr (by omega) (by omega)⟩) ?_
      refine w_iconst dX6_rainOn_11 ?_
      refine w_ibin (r := ((x / 2 ^ c : Nat) : Int) % 2) dX6_rainOn_12 (Or.inl ⟨rfl, b_m1 _⟩) ?_
      refine w_if_eq (tgt := 26) dX6_rainOn_13 (by decide) (by omega) (fun h13 => ?_) (fun h13 => ?_)
      · try have hc : c < 16 := by omega
        refine w_iinc dX6_rainOn_26 rfl (by decide) ?_
        refine w_goto (tgt := 2) dX6_rainOn_29 (by decide) ?_
        first | exact ih (c + 1) _ _ (by omega) (by omega) (by omega) (by rw [key 0 hc, if_pos hbit]; exact hV.p_fell (by omega) (by rw [e0]; exact h5) (by rw [ef])) (hF.up (by omega)) | exact ih (c + 1) _ _ (by omega) (by omega) (by omega) (by rw [key 0 hc, if_neg (bitI_f h13)]; exact hV) hF
      · have hbit : x.testBit c = true := bitI_t h13
        have hc : c < 16 := by omega
        have ef : m (a + 6) (c : Int) = S (29 + (c : Int)) := by rw [hV.2.2 (c : Int) (by omega) (by omega)]; unfold adR; rw [if_neg (fun w => by have := w.2.2; rw [show (29 + (c : Int) - 29).toNat = c by omega, mid0] at this; cases this)]
        have hfc := hf (c : Int) (by omega) (by omega)
        refine w_aload_n dX6_rainOn_16 rfl ?_
        refine w_getR (r := (a + 6)) dX6_rainOn_17 fl6_27 (sk_g0 hS) (sk_n0 hS) rfl ?_
        refine w_iload_n dX6_rainOn_20 rfl ?_
        refine w_dup2 dX6_rainOn_21 rfl rfl ?_
        refine r_ild dX6_rainOn_22 (sk_g6 hS) (sk_n6 hS) (by omega) (by omega) (by decide) (fun r22 => ?_)
        refine w_iload_n dX6_rainOn_23 rfl ?_
        refine w_iadd dX6_rainOn_24 ?_
        refine r_ist dX6_rainOn_25 (sk_g6 hS) (sk_n6 hS) (by omega) (by omega) (by omega) (by decide) ?_
        try have hc : c < 16 := by omega
        refine w_iinc dX6_rainOn_26 rfl (by decide) ?_
        refine w_goto (tgt := 2) dX6_rainOn_29 (by decide) ?_
        first | exact ih (c + 1) _ _ (by omega) (by omega) (by omega) (by rw [key 0 hc, if_pos hbit]; exact hV.p_fell (by omega) (by rw [e0]; exact h5) (by rw [ef])) (hF.up (by omega)) | exact ih (c + 1) _ _ (by omega) (by omega) (by omega) (by rw [key 0 hc, if_neg (bitI_f h13)]; exact hV) hF
theorem c_X6_rainOn {E : EV} {M : MM} {a : Nat} {S : SS} {B : Int} {x : Nat} {r : Int} (hS : SK a) (hx : x < 65536) (r0 : 0 ≤ r) (r2 : r ≤ 2) (hB : B ≤ 1000000) (h5 : S 0 ≤ 5) (hf : ∀ f : Int, 0 ≤ f → f < 16 → 0 ≤ S (29 + f) ∧ S (29 + f) ≤ B) (hV : SV M a S) : Cxv E mX6_rainOn 1 [vr a, vi (x : Int), vi r] M (fun m => SV m a (adR S x r) ∧ Fr a M m) := by
  refine Ct.of [some (vr a), some (vi (x : Int)), some (vi r), none] rfl rfl rfl (Nat.le_of_ble_eq_true rfl) ?_
  refine w_iconst dX6_rainOn_0 ?_
  refine w_istore_n dX6_rainOn_1 (by decide) ?_
  exact l_X6_rainOn hS hx r0 r2 hB h5 hf 17 0 _ _ rfl (by omega) (by omega) (by rw [Nat.pow_zero, Nat.mod_one]; exact hV.congr (fun q => by unfold adR; rw [if_neg (fun w => by have := w.2.2; rw [Nat.zero_testBit] at this; cases this)])) (Fr.refl a M)
