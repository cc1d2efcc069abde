/-! ===== the reference: pairs that are alike ===== -/
/-- n pairs so far, x the first of them; from here on the first is y -/
def Afi (S : SS) (n x y : Int) : Prop := (n = 0 ∧ x = -1000000 ∧ fpC S (S 0).toNat 0 (S 0).toNat = y) ∨ (0 < n ∧ x = fpC S (S 0).toNat 0 (S 0).toNat)
def fpM (S : SS) (c o k : Nat) : Int := match fpO S c o k with
  | some z => z
  | none => fpC S (S 0).toNat (c + 1) ((S 0).toNat - 1 - c)
theorem fpM_t {S : SS} {c o k : Nat} (h : prB S c o = true) : fpM S c o (k + 1) = 10 * (c : Int) + (o : Int) := by unfold fpM; rw [fpO, if_pos h]
theorem fpM_f {S : SS} {c o k : Nat} (h : prB S c o = false) : fpM S c o (k + 1) = fpM S c (o + 1) k := by unfold fpM; rw [fpO, if_neg (by rw [h]; decide)]
theorem fpM_0 {S : SS} {c o : Nat} : fpM S c o 0 = fpC S (S 0).toNat (c + 1) ((S 0).toNat - 1 - c) := rfl
theorem fpC_M {S : SS} {c k : Nat} (h : c + (k + 1) = (S 0).toNat) : fpC S (S 0).toNat c (k + 1) = fpM S c (c + 1) ((S 0).toNat - 1 - c) := by
  rw [fpC, show k = (S 0).toNat - 1 - c by omega]; rfl
theorem l_X10_alikeIn {E : EV} {M : MM} {S : SS} {Q : PP} {s0 w : Int} {c : Nat} (hM : M 243 = S) (hn : 0 ≤ S 0 ∧ S 0 ≤ 5) (hc : (c : Int) < S 0) (hs : 0 ≤ s0 ∧ s0 ≤ 100) (hO : ∀ d : Int, 0 ≤ d → d < S 0 → 0 ≤ S (8 + 5 * d))
    (hQ : ∀ (x : Int) (x6 : Option AV), R32 x → Afi S (s0 + inS S c ((S 0).toNat - 1 - c)) x (fpC S (S 0).toNat (c + 1) ((S 0).toNat - 1 - c)) → Wp E mX10_alike (kd 9) 176 [some (vr 238), some (vi w), some (vi (s0 + inS S c ((S 0).toNat - 1 - c))), some (vi x), some (vi (c : Int)), some (vi (S 0)), x6] [] N0 G0 M Q) :
    ∀ (k j : Nat) (z s x : Int) (x6 : Option AV), z = (c : Int) + 1 + j → s = s0 + inS S c j → c + 1 + j + k = (S 0).toNat → R32 x → Afi S s x (fpM S c (c + 1 + j) k) → Wp E mX10_alike (kd 9) 48 [some (vr 238), some (vi w), some (vi s), some (vi x), some (vi (c : Int)), some (vi z), x6] [] N0 G0 M Q := by
  intro k
  induction k with
  | zero =>
    intro j z s x x6 hz hs2 hj hx hA
    subst hs2
    have e0 : M 243 0 = S 0 := by rw [hM]
    refine w_iload dX10_alike_48 rfl ?_
    refine w_aload_n dX10_alike_50 rfl ?_
    refine w_getR (r := 243) dX10_alike_51 fl10_22 g0_238 (by decide) rfl ?_
    refine w_iconst dX10_alike_54 ?_
    refine r_ild dX10_alike_55 g0_243 (by decide) (by omega) (by omega) (by decide) (fun r55 => ?_)
    refine w_icmp_ge (tgt := 176) dX10_alike_56 (by decide) (by omega) (by omega) (fun h56 => ?_) (fun h56 => ?_)
    · have ej : (S 0).toNat - 1 - c = j := by omega
      rw [fpM_0, ← ej] at hA
      have hq := hQ x x6 hx hA
      rw [ej] at hq
      rw [show z = S 0 by omega]
      exact hq
    · exact absurd h56 (by omega)
  | succ k ih =>
    intro j z s x x6 hz hs2 hj hx hA
    subst hs2
    obtain rfl : z = ((c + 1 + j : Nat) : Int) := by omega
    have e0 : M 243 0 = S 0 := by rw [hM]
    have a4 : M 243 (4 + 5 * (c : Int)) = S (4 + 5 * (c : Int)) := by rw [hM]
    have a6 : M 243 (6 + 5 * (c : Int)) = S (6 + 5 * (c : Int)) := by rw [hM]
    have a7 : M 243 (7 + 5 * (c : Int)) = S (7 + 5 * (c : Int)) := by rw [hM]
    have a8 : M 243 (8 + 5 * (c : Int)) = S (8 + 5 * (c : Int)) := by rw [hM]
    have b4 : M 243 (4 + 5 * ((c + 1 + j : Nat) : Int)) = S (4 + 5 * ((c + 1 + j : Nat) : Int)) := by rw [hM]
    have b6 : M 243 (6 + 5 * ((c + 1 + j : Nat) : Int)) = S (6 + 5 * ((c + 1 + j : Nat) : Int)) := by rw [hM]
    have b7 : M 243 (7 + 5 * ((c + 1 + j : Nat) : Int)) = S (7 + 5 * ((c + 1 + j : Nat) : Int)) := by rw [hM]
    have b8 : M 243 (8 + 5 * ((c + 1 + j : Nat) : Int)) = S (8 + 5 * ((c + 1 + j : Nat) : Int)) := by rw [hM]
    have hr := inS_r S c j
    have tail : ∀ b : Bool, prB S c (c + 1 + j) = b → Wp E mX10_alike (kd 9) 135 [some (vr 238), some (vi w), some (vi (s0 + inS S c j)), some (vi x), some (vi (c : Int)), some (vi ((c + 1 + j : Nat) : Int)), some (vi (bi b))] [] N0 G0 M Q := by
      intro b hb
      cases b with
      | true =>
        rw [fpM_t hb] at hA
        have ei : inS S c (j + 1) = inS S c j + 1 := by unfold inS; rw [sumI, if_pos hb]
        refine w_iload dX10_alike_135 rfl ?_
        refine w_ifB_eq (tgt := 155) dX10_alike_137 (by decide) (fun h137 => ?_) (fun h137 => ?_)
        · exact absurd h137 (by decide)
        · refine w_iload_n dX10_alike_140 rfl ?_
          refine w_if_ne (tgt := 155) dX10_alike_141 (by decide) (by omega) (fun h141 => ?_) (fun h141 => ?_)
          · refine w_iload_n dX10_alike_155 rfl ?_
            refine w_istore_n dX10_alike_156 (by decide) ?_
            refine w_iload_n dX10_alike_157 rfl ?_
            refine w_iload dX10_alike_158 rfl ?_
            refine w_ifB_eq (tgt := 167) dX10_alike_160 (by decide) (fun h160 => ?_) (fun h160 => ?_)
            · exact absurd h160 (by decide)
            · refine w_iconst dX10_alike_163 ?_
              refine w_goto (tgt := 168) dX10_alike_164 (by decide) ?_
              refine w_iadd dX10_alike_168 ?_
              refine w_istore_n dX10_alike_169 (by decide) ?_
              refine w_iinc dX10_alike_170 rfl (by decide) ?_
              refine w_goto (tgt := 48) dX10_alike_173 (by decide) ?_
              first | exact ih (j + 1) _ _ _ _ (by omega) (by rw [ei]; omega) (by omega) (by omega) (Or.inr ⟨by omega, by rcases hA with h | h <;> omega⟩)
          · refine w_bipush dX10_alike_144 (by decide +kernel) ?_
            refine w_iload dX10_alike_146 rfl ?_
            refine w_imul dX10_alike_148 ?_
            refine w_iload dX10_alike_149 rfl ?_
            refine w_iadd dX10_alike_151 ?_
            refine w_goto (tgt := 156) dX10_alike_152 (by decide) ?_
            refine w_istore_n dX10_alike_156 (by decide) ?_
            refine w_iload_n dX10_alike_157 rfl ?_
            refine w_iload dX10_alike_158 rfl ?_
            refine w_ifB_eq (tgt := 167) dX10_alike_160 (by decide) (fun h160 => ?_) (fun h160 => ?_)
            · exact absurd h160 (by decide)
            · refine w_iconst dX10_alike_163 ?_
              refine w_goto (tgt := 168) dX10_alike_164 (by decide) ?_
              refine w_iadd dX10_alike_168 ?_
              refine w_istore_n dX10_alike_169 (by decide) ?_
              refine w_iinc dX10_alike_170 rfl (by decide) ?_
              refine w_goto (tgt := 48) dX10_alike_173 (by decide) ?_
              first | exact ih (j + 1) _ _ _ _ (by omega) (by rw [ei]; omega) (by omega) (by omega) (Or.inr ⟨by omega, by rcases hA with h | h <;> omega⟩)
      | false =>
        rw [fpM_f hb] at hA
        have ei : inS S c (j + 1) = inS S c j + 0 := by unfold inS; rw [sumI, if_neg (by rw [hb]; decide)]
        refine w_iload dX10_alike_135 rfl ?_
        refine w_ifB_eq (tgt := 155) dX10_alike_137 (by decide) (fun h137 => ?_) (fun h137 => ?_)
        · refine w_iload_n dX10_alike_155 rfl ?_
          refine w_istore_n dX10_alike_156 (by decide) ?_
          refine w_iload_n dX10_alike_157 rfl ?_
          refine w_iload dX10_alike_158 rfl ?_
          refine w_ifB_eq (tgt := 167) dX10_alike_160 (by decide) (fun h160 => ?_) (fun h160 => ?_)
          · refine w_iconst dX10_alike_167 ?_
            refine w_iadd dX10_alike_168 ?_
            refine w_istore_n dX10_alike_169 (by decide) ?_
            refine w_iinc dX10_alike_170 rfl (by decide) ?_
            refine w_goto (tgt := 48) dX10_alike_173 (by decide) ?_
            exact ih (j + 1) _ _ _ _ (by omega) (by rw [ei]; omega) (by omega) hx (by rw [Int.add_zero]; exact hA)
          · exact absurd h160 (by decide)
        · exact absurd h137 (by decide)
    have no : ¬ (S (7 + 5 * (c : Int)) ≠ 0 ∧ S (7 + 5 * ((c + 1 + j : Nat) : Int)) ≠ 0 ∧ S (8 + 5 * (c : Int)) ≠ S (8 + 5 * ((c + 1 + j : Nat) : Int)) ∧ S (4 + 5 * (c : Int)) = S (4 + 5 * ((c + 1 + j : Nat) : Int)) ∧ S (6 + 5 * (c : Int)) = S (6 + 5 * ((c + 1 + j : Nat) : Int))) → prB S c (c + 1 + j) = false := fun h => decide_eq_false h
    have ye : (S (7 + 5 * (c : Int)) ≠ 0 ∧ S (7 + 5 * ((c + 1 + j : Nat) : Int)) ≠ 0 ∧ S (8 + 5 * (c : Int)) ≠ S (8 + 5 * ((c + 1 + j : Nat) : Int)) ∧ S (4 + 5 * (c : Int)) = S (4 + 5 * ((c + 1 + j : Nat) : Int)) ∧ S (6 + 5 * (c : Int)) = S (6 + 5 * ((c + 1 + j : Nat) : Int))) → prB S c (c + 1 + j) = true := fun h => decide_eq_true h
    refine w_iload dX10_alike_48 rfl ?_
    refine w_aload_n dX10_alike_50 rfl ?_
    refine w_getR (r := 243) dX10_alike_51 fl10_22 g0_238 (by decide) rfl ?_
    refine w_iconst dX10_alike_54 ?_
    refine r_ild dX10_alike_55 g0_243 (by decide) (by omega) (by omega) (by decide) (fun r55 => ?_)
    refine w_icmp_ge (tgt := 176) dX10_alike_56 (by decide) (by omega) (by omega) (fun h56 => ?_) (fun h56 => ?_)
    · exact absurd h56 (by omega)
    · refine w_aload_n dX10_alike_59 rfl ?_
      refine w_iload dX10_alike_60 rfl ?_
      refine cVm dX10_alike_62 ok_X10_isGone lv10_129 (c_X10_isGone (by omega) (by omega)) rfl (congrArg Prod.fst g0_238) (by decide) (by decide) rfl (by decide) (Nat.le_of_ble_eq_true rfl) (fun r62 => ?_)
      refine w_ifB_ne (tgt := 132) dX10_alike_65 (by decide) (fun h65 => ?_) (fun h65 => ?_)
      · (first | replace h65 := of_decide_eq_true h65 | replace h65 := of_decide_eq_false h65 | skip)
        refine w_iconst dX10_alike_132 ?_
        refine w_istore dX10_alike_133 (by decide) ?_
        first | exact tail false (no (by omega)) | exact tail true (ye (by omega))
      · (first | replace h65 := of_decide_eq_true h65 | replace h65 := of_decide_eq_false h65 | skip)
        refine w_aload_n dX10_alike_68 rfl ?_
        refine w_iload dX10_alike_69 rfl ?_
        refine cVm dX10_alike_71 ok_X10_isGone lv10_129 (c_X10_isGone (by omega) (by omega)) rfl (congrArg Prod.fst g0_238) (by decide) (by decide) rfl (by decide) (Nat.le_of_ble_eq_true rfl) (fun r71 => ?_)
        refine w_ifB_ne (tgt := 132) dX10_alike_74 (by decide) (fun h74 => ?_) (fun h74 => ?_)
        · (first | replace h74 := of_decide_eq_true h74 | replace h74 := of_decide_eq_false h74 | skip)
          refine w_iconst dX10_alike_132 ?_
          refine w_istore dX10_alike_133 (by decide) ?_
          first | exact tail false (no (by omega)) | exact tail true (ye (by omega))
        · (first | replace h74 := of_decide_eq_true h74 | replace h74 := of_decide_eq_false h74 | skip)
          refine w_aload_n dX10_alike_77 rfl ?_
          refine w_iload dX10_alike_78 rfl ?_
          refine w_iconst dX10_alike_80 ?_
          refine cVm dX10_alike_81 ok_X10_of lv10_126 (c_X10_of (q := 8 + 5 * (c : Int)) (by omega) (by omega) (by omega)) rfl (congrArg Prod.fst g0_238) (by decide) (by decide) rfl (by decide) (Nat.le_of_ble_eq_true rfl) (fun r81 => ?_)
          refine w_aload_n dX10_alike_84 rfl ?_
          refine w_iload dX10_alike_85 rfl ?_
          refine w_iconst dX10_alike_87 ?_
          refine cVm dX10_alike_88 ok_X10_of lv10_126 (c_X10_of (q := 8 + 5 * ((c + 1 + j : Nat) : Int)) (by omega) (by omega) (by omega)) rfl (congrArg Prod.fst g0_238) (by decide) (by decide) rfl (by decide) (Nat.le_of_ble_eq_true rfl) (fun r88 => ?_)
          refine w_icmp_eq (tgt := 132) dX10_alike_91 (by decide) (by omega) (by omega) (fun h91 => ?_) (fun h91 => ?_)
          · refine w_iconst dX10_alike_132 ?_
            refine w_istore dX10_alike_133 (by decide) ?_
            first | exact tail false (no (by omega)) | exact tail true (ye (by omega))
          · refine w_aload_n dX10_alike_94 rfl ?_
            refine w_iload dX10_alike_95 rfl ?_
            refine w_iconst dX10_alike_97 ?_
            refine cVm dX10_alike_98 ok_X10_of lv10_126 (c_X10_of (q := 4 + 5 * (c : Int)) (by omega) (by omega) (by omega)) rfl (congrArg Prod.fst g0_238) (by decide) (by decide) rfl (by decide) (Nat.le_of_ble_eq_true rfl) (fun r98 => ?_)
            refine w_aload_n dX10_alike_101 rfl ?_
            refine w_iload dX10_alike_102 rfl ?_
            refine w_iconst dX10_alike_104 ?_
            refine cVm dX10_alike_105 ok_X10_of lv10_126 (c_X10_of (q := 4 + 5 * ((c + 1 + j : Nat) : Int)) (by omega) (by omega) (by omega)) rfl (congrArg Prod.fst g0_238) (by decide) (by decide) rfl (by decide) (Nat.le_of_ble_eq_true rfl) (fun r105 => ?_)
            refine w_icmp_ne (tgt := 132) dX10_alike_108 (by decide) (by omega) (by omega) (fun h108 => ?_) (fun h108 => ?_)
            · refine w_iconst dX10_alike_132 ?_
              refine w_istore dX10_alike_133 (by decide) ?_
              first | exact tail false (no (by omega)) | exact tail true (ye (by omega))
            · refine w_aload_n dX10_alike_111 rfl ?_
              refine w_iload dX10_alike_112 rfl ?_
              refine w_iconst dX10_alike_114 ?_
              refine cVm dX10_alike_115 ok_X10_of lv10_126 (c_X10_of (q := 6 + 5 * (c : Int)) (by omega) (by omega) (by omega)) rfl (congrArg Prod.fst g0_238) (by decide) (by decide) rfl (by decide) (Nat.le_of_ble_eq_true rfl) (fun r115 => ?_)
              refine w_aload_n dX10_alike_118 rfl ?_
              refine w_iload dX10_alike_119 rfl ?_
              refine w_iconst dX10_alike_121 ?_
              refine cVm dX10_alike_122 ok_X10_of lv10_126 (c_X10_of (q := 6 + 5 * ((c + 1 + j : Nat) : Int)) (by omega) (by omega) (by omega)) rfl (congrArg Prod.fst g0_238) (by decide) (by decide) rfl (by decide) (Nat.le_of_ble_eq_true rfl) (fun r122 => ?_)
              refine w_icmp_ne (tgt := 132) dX10_alike_125 (by decide) (by omega) (by omega) (fun h125 => ?_) (fun h125 => ?_)
              · refine w_iconst dX10_alike_132 ?_
                refine w_istore dX10_alike_133 (by decide) ?_
                first | exact tail false (no (by omega)) | exact tail true (ye (by omega))
              · refine w_iconst dX10_alike_128 ?_
                refine w_goto (tgt := 133) dX10_alike_129 (by decide) ?_
                refine w_istore dX10_alike_133 (by decide) ?_
                first | exact tail false (no (by omega)) | exact tail true (ye (by omega))
theorem l_X10_alike {E : EV} {M : MM} {S : SS} {Q : PP} {w : Int} (hM : M 243 = S) (hn : 0 ≤ S 0 ∧ S 0 ≤ 5) (hO : ∀ d : Int, 0 ≤ d → d < S 0 → 0 ≤ S (8 + 5 * d))
    (hQ : ∀ (x z : Int) (x5 x6 : Option AV), R32 x → Afi S (alkF S) x (-1000000) → Wp E mX10_alike (kd 9) 182 [some (vr 238), some (vi w), some (vi (alkF S)), some (vi x), some (vi z), x5, x6] [] N0 G0 M Q) :
    ∀ (k c : Nat) (z s x : Int) (x5 x6 : Option AV), z = c → s = sumI c (fun c => inS S c ((S 0).toNat - 1 - c)) → c + k = (S 0).toNat → R32 x → Afi S s x (fpC S (S 0).toNat c k) → Wp E mX10_alike (kd 9) 31 [some (vr 238), some (vi w), some (vi s), some (vi x), some (vi z), x5, x6] [] N0 G0 M Q := by
  intro k
  induction k with
  | zero =>
    intro c z s x x5 x6 hz hs hk hx hA
    subst hz
    subst hs
    have e0 : M 243 0 = S 0 := by rw [hM]
    refine w_iload dX10_alike_31 rfl ?_
    refine w_aload_n dX10_alike_33 rfl ?_
    refine w_getR (r := 243) dX10_alike_34 fl10_22 g0_238 (by decide) rfl ?_
    refine w_iconst dX10_alike_37 ?_
    refine r_ild dX10_alike_38 g0_243 (by decide) (by omega) (by omega) (by decide) (fun r38 => ?_)
    refine w_icmp_ge (tgt := 182) dX10_alike_39 (by decide) (by omega) (by omega) (fun h39 => ?_) (fun h39 => ?_)
    · have ec : (S 0).toNat = c := by omega
      have ea : alkF S = sumI c (fun c => inS S c ((S 0).toNat - 1 - c)) := by unfold alkF; rw [show sumI (S 0).toNat = sumI c by rw [ec]]
      rw [ea] at hQ
      exact hQ x _ x5 x6 hx hA
    · exact absurd h39 (by omega)
  | succ k ih =>
    intro c z s x x5 x6 hz hs hk hx hA
    subst hz
    subst hs
    have e0 : M 243 0 = S 0 := by rw [hM]
    have hle := sumI_le (n := c) (g := fun c => inS S c ((S 0).toNat - 1 - c)) (B := 4) (fun i hi => by have := inS_r S i ((S 0).toNat - 1 - i); omega)
    rw [fpC_M (by omega)] at hA
    refine w_iload dX10_alike_31 rfl ?_
    refine w_aload_n dX10_alike_33 rfl ?_
    refine w_getR (r := 243) dX10_alike_34 fl10_22 g0_238 (by decide) rfl ?_
    refine w_iconst dX10_alike_37 ?_
    refine r_ild dX10_alike_38 g0_243 (by decide) (by omega) (by omega) (by decide) (fun r38 => ?_)
    refine w_icmp_ge (tgt := 182) dX10_alike_39 (by decide) (by omega) (by omega) (fun h39 => ?_) (fun h39 => ?_)
    · exact absurd h39 (by omega)
    · refine w_iload dX10_alike_42 rfl ?_
      refine w_iconst dX10_alike_44 ?_
      refine w_iadd dX10_alike_45 ?_
      refine w_istore dX10_alike_46 (by decide) ?_
      refine l_X10_alikeIn (s0 := sumI c (fun c => inS S c ((S 0).toNat - 1 - c))) hM hn (by omega) (by omega) hO (fun x2 x62 hx2 hA2 => ?_) ((S 0).toNat - 1 - c) 0 _ _ _ _ (by omega) (by show _ = _ + (0 : Int); omega) (by omega) hx hA
      have hr := inS_r S c ((S 0).toNat - 1 - c)
      refine w_iinc dX10_alike_176 rfl (by decide) ?_
      refine w_goto (tgt := 31) dX10_alike_179 (by decide) ?_
      exact ih (c + 1) _ _ _ _ _ (by omega) rfl (by omega) hx2 (by rw [show (S 0).toNat - 1 - c = k by omega] at hA2 ⊢; exact hA2)
theorem alkF_r {S : SS} (hn : 0 ≤ S 0 ∧ S 0 ≤ 5) : 0 ≤ alkF S ∧ alkF S ≤ 20 := by
  have hle := sumI_le (n := (S 0).toNat) (g := fun c => inS S c ((S 0).toNat - 1 - c)) (B := 4) (fun i hi => by have := inS_r S i ((S 0).toNat - 1 - i); omega)
  unfold alkF
  omega
theorem c_X10_alike {E : EV} {M : MM} {p : PS} {w : Int} (hI : MI M p) (hP : POK p) (hw : R32 w) : Cx E mX10_alike 9 [vr 238, vi w] M (KM M (alikeR p w)) := by
  refine Ct.of [some (vr 238), some (vi w), none, none, none, none, none] rfl rfl rfl (Nat.le_of_ble_eq_true rfl) ?_
  have hs := hI.sn
  have hn := hP.hs.n
  have ar := alkF_r hn
  have fin : ∀ x : Int, Afi p.S (alkF p.S) x (-1000000) → x = fpC p.S (p.S 0).toNat 0 (p.S 0).toNat := fun x h => by rcases h with h | h <;> omega
  refine w_aload_n dX10_alike_0 rfl ?_
  refine r_getI (q := 13) dX10_alike_1 fl10_117 g0_238 (by decide) rfl (by decide) rfl (fun r1 => ?_)
  refine w_if_ne (tgt := 10) dX10_alike_4 (by decide) (by omega) (fun h4 => ?_) (fun h4 => ?_)
  · refine w_iload_n dX10_alike_10 rfl ?_
    refine w_i2l dX10_alike_11 (by omega) ?_
    refine w_lconst0 dX10_alike_12 ?_
    refine w_lconst1 dX10_alike_13 ?_
    refine cSm dX10_alike_14 ok_X10_in (Or.inl ls10_50) (c_X10_in (by omega) (by omega) (by omega)) rfl  rfl (by decide) (Nat.le_of_ble_eq_true rfl) (fun r14 => ?_)
    refine w_ifB_ne (tgt := 23) dX10_alike_17 (by decide) (fun h17 => ?_) (fun h17 => ?_)
    · (first | replace h17 := of_decide_eq_true h17 | replace h17 := of_decide_eq_false h17 | skip)
      refine w_iconst dX10_alike_23 ?_
      refine w_istore_n dX10_alike_24 (by decide) ?_
      refine w_ldc dX10_alike_25 co10_177 ?_
      refine w_istore_n dX10_alike_27 (by decide) ?_
      refine w_iconst dX10_alike_28 ?_
      refine w_istore dX10_alike_29 (by decide) ?_
      refine l_X10_alike hI.S hn (fun d d0 d1 => (hP.hs.2.1.cl d0 d1).2.2.2.2.1) (fun x z x5 x6 hx hA => ?_) (p.S 0).toNat 0 _ _ _ _ _ rfl rfl (by omega) (by omega) (Or.inl ⟨rfl, rfl, rfl⟩)
      have hf := fin x hA
      refine w_iload_n dX10_alike_182 rfl ?_
      refine w_if_ne (tgt := 190) dX10_alike_183 (by decide) (by omega) (fun h183 => ?_) (fun h183 => ?_)
      · refine w_iload_n dX10_alike_190 rfl ?_
        refine w_iret dX10_alike_191 rfl (by omega) ?_ ⟨Nat.le_refl _, Nat.le_refl _⟩
        exact q_x (KM.stay' hI hf (by unfold alikeR; ((repeat (first | rw [if_pos (by omega)] | rw [if_neg (by omega)])) <;> rfl)))
      · refine w_iload_n dX10_alike_186 rfl ?_
        refine w_goto (tgt := 191) dX10_alike_187 (by decide) ?_
        refine w_iret dX10_alike_191 rfl (by omega) ?_ ⟨Nat.le_refl _, Nat.le_refl _⟩
        exact q_x (KM.stay hI (by unfold alikeR; ((repeat (first | rw [if_pos (by omega)] | rw [if_neg (by omega)])) <;> rfl)))
    · (first | replace h17 := of_decide_eq_true h17 | replace h17 := of_decide_eq_false h17 | skip)
      refine w_ldc dX10_alike_20 co10_60 ?_
      refine w_iret dX10_alike_22 rfl (by omega) ?_ ⟨Nat.le_refl _, Nat.le_refl _⟩
      exact (q_x (KM.stay hI (by unfold alikeR; ((repeat (first | rw [if_pos (by omega)] | rw [if_neg (by omega)])) <;> rfl))))
  · refine w_ldc dX10_alike_7 co10_144 ?_
    refine w_iret dX10_alike_9 rfl (by omega) ?_ ⟨Nat.le_refl _, Nat.le_refl _⟩
    exact (q_x (KM.stay hI (by unfold alikeR; ((repeat (first | rw [if_pos (by omega)] | rw [if_neg (by omega)])) <;> rfl))))
