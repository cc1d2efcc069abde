/-! ===== the reference: leastTow ===== -/
theorem b_m3 (z : Int) : i32 z &&& i32 3 = i32 (z % 4) := by
  apply Int32.toInt.inj
  have e1 : i32 z &&& i32 3 = nI ((i32 z).toBitVec.toNat % 2 ^ 2) := pk_and (i32 z) (m := i32 3) 2 (by decide +kernel)
  rw [e1, nI_toInt (by omega), i32_toInt (by omega)]
  have e2 : (i32 z).toBitVec.toNat = (z % 4294967296).toNat := by
    unfold i32
    rw [Int32.toBitVec_ofInt, BitVec.toNat_ofInt]
    rfl
  rw [e2]
  omega
theorem p42 (k : Nat) : 2 ^ (2 * k) = 4 ^ k := by rw [Nat.pow_mul]
theorem l_X10_towIn {E : EV} {M : MM} {S : SS} {Bo f n k4 b4 f5 : Int} {N W : Nat} {Q : PP} (hO : SOK Bo S) (hN : N = (S 0).toNat) (hW : W < 1024)
    (hQ : ∀ (m : MM) (x10 : Option AV), (∀ q, m 243 q = tsF S N W N q) → FrN M m → Wp E mX10_leastTow (kd 9) 191 [some (vr 238), some (vi f), some (vi n), some (vi k4), some (vi b4), some (vi f5), some (vi (W : Int)), some (vi ((smC N W : Nat) : Int)), some (vi (bi (myC S N W))), some (vi (N : Int)), x10] [] N0 G0 m Q) :
    ∀ (j c : Nat) (z s b : Int) (m : MM) (x10 : Option AV), z = (c : Int) → s = ((smC c (W / 4 ^ (N - c)) : Nat) : Int) → b = bi (myC S c (W / 4 ^ (N - c))) → c + j = N → (∀ q, m 243 q = tsF S N W c q) → FrN M m → Wp E mX10_leastTow (kd 9) 89 [some (vr 238), some (vi f), some (vi n), some (vi k4), some (vi b4), some (vi f5), some (vi (W : Int)), some (vi s), some (vi b), some (vi z), x10] [] N0 G0 m Q := by
  intro j
  have h5 := hO.1
  induction j with
  | zero =>
    intro c z s b m x10 hz hs hb hc hm hF
    subst hz
    subst hs
    subst hb
    obtain rfl : c = N := by omega
    have e0 : m 243 0 = S 0 := by rw [hm, ts_fell (by omega) c (by omega)]
    rw [Nat.sub_self, Nat.pow_zero, Nat.div_one]
    refine w_iload dX10_leastTow_89 rfl ?_
    refine w_aload_n dX10_leastTow_91 rfl ?_
    refine w_getR (r := 243) dX10_leastTow_92 fl10_22 g0_238 (by decide) rfl ?_
    refine w_iconst dX10_leastTow_95 ?_
    refine r_ild dX10_leastTow_96 g0_243 (by decide) (by omega) (by omega) (by decide) (fun r96 => ?_)
    refine w_icmp_ge (tgt := 191) dX10_leastTow_97 (by decide) (by omega) (by omega) (fun h97 => ?_) (fun h97 => ?_)
    · exact hQ m x10 hm hF
    · exact absurd h97 (by omega)
  | succ j ih =>
    intro c z s b m x10 hz hs hb hc hm hF
    subst hz
    subst hs
    subst hb
    have e0 : m 243 0 = S 0 := by rw [hm, ts_fell (by omega) c (by omega)]
    have sl := sm_le c (W / 4 ^ (N - c))
    have sp := sm_pre (W := W) (show c < N by omega)
    have mp := my_pre (S := S) (W := W) (show c < N by omega)
    have dl := dgt_lt N W c
    have hcl := hO.cl (c := (c : Int)) (by omega) (by omega)
    have tw := ts_Tw (W := W) hN (by omega) c (by omega)
    have e7 : m 243 (7 + 5 * (c : Int)) = S (7 + 5 * (c : Int)) := by rw [hm]; exact tw.1 _ (by omega) (fun d hd => by omega)
    have e5 : m 243 (5 + 5 * (c : Int)) = S (5 + 5 * (c : Int)) := by rw [hm]; exact tw.1 _ (by omega) (fun d hd => by omega)
    have es : (W / 2 ^ (2 * (N - 1 - c)) : Nat) = W / 4 ^ (N - 1 - c) := by rw [p42]
    have ed : ((W / 4 ^ (N - 1 - c) : Nat) : Int) % 4 = ((dgt N W c : Nat) : Int) := by unfold dgt; omega
    have dW : W / 4 ^ (N - 1 - c) ≤ W := Nat.div_le_self _ _
    have tail : ∀ bb : Bool, myC S (c + 1) (W / 4 ^ (N - (c + 1))) = bb → Wp E mX10_leastTow (kd 9) 146 [some (vr 238), some (vi f), some (vi n), some (vi k4), some (vi b4), some (vi f5), some (vi (W : Int)), some (vi ((smC c (W / 4 ^ (N - c)) : Nat) : Int)), some (vi (bi bb)), some (vi (c : Int)), some (vi ((dgt N W c : Nat) : Int))] [] N0 G0 m Q := by
      intro bb hbb
      refine w_iload dX10_leastTow_146 rfl ?_
      refine w_iload dX10_leastTow_148 rfl ?_
      refine w_iadd dX10_leastTow_150 ?_
      refine w_istore dX10_leastTow_151 (by decide) ?_
      refine w_aload_n dX10_leastTow_153 rfl ?_
      refine w_getR (r := 243) dX10_leastTow_154 fl10_22 g0_238 (by decide) rfl ?_
      refine w_iconst dX10_leastTow_157 ?_
      refine w_iconst dX10_leastTow_158 ?_
      refine w_iload dX10_leastTow_159 rfl ?_
      refine w_imul dX10_leastTow_161 ?_
      refine w_iadd dX10_leastTow_162 ?_
      refine w_iconst dX10_leastTow_163 ?_
      refine w_iadd dX10_leastTow_164 ?_
      refine w_aload_n dX10_leastTow_165 rfl ?_
      refine w_getR (r := 243) dX10_leastTow_166 fl10_22 g0_238 (by decide) rfl ?_
      refine w_iconst dX10_leastTow_169 ?_
      refine w_iconst dX10_leastTow_170 ?_
      refine w_iload dX10_leastTow_171 rfl ?_
      refine w_imul dX10_leastTow_173 ?_
      refine w_iadd dX10_leastTow_174 ?_
      refine w_iconst dX10_leastTow_175 ?_
      refine w_iadd dX10_leastTow_176 ?_
      refine r_ildq (q := 5 + 5 * (c : Int)) dX10_leastTow_177 g0_243 (by decide) (by omega) (by omega) (by omega) (by decide) (fun r177 => ?_)
      refine w_iload dX10_leastTow_178 rfl ?_
      refine w_iadd dX10_leastTow_180 ?_
      refine w_bipush dX10_leastTow_181 (by decide +kernel) ?_
      refine w_irem dX10_leastTow_183 (by omega) (by omega) (by omega) (by omega) ?_
      refine r_istq (q := 5 + 5 * (c : Int)) dX10_leastTow_184 g0_243 (by decide) (by omega) (by omega) (by omega) (by omega) (by decide) ?_
      refine w_iinc dX10_leastTow_185 rfl (by decide) ?_
      refine w_goto (tgt := 89) dX10_leastTow_188 (by decide) ?_
      exact ih (c + 1) _ _ _ _ _ (by omega) (by rw [sp]; omega) (by rw [hbb]) (by omega) (fun q => by rw [set_st (P := fun _ => True) hm, e5]; rfl) (hF.up)
    refine w_iload dX10_leastTow_89 rfl ?_
    refine w_aload_n dX10_leastTow_91 rfl ?_
    refine w_getR (r := 243) dX10_leastTow_92 fl10_22 g0_238 (by decide) rfl ?_
    refine w_iconst dX10_leastTow_95 ?_
    refine r_ild dX10_leastTow_96 g0_243 (by decide) (by omega) (by omega) (by decide) (fun r96 => ?_)
    refine w_icmp_ge (tgt := 191) dX10_leastTow_97 (by decide) (by omega) (by omega) (fun h97 => ?_) (fun h97 => ?_)
    · exact absurd h97 (by omega)
    · refine w_iload dX10_leastTow_100 rfl ?_
      refine w_iconst dX10_leastTow_102 ?_
      refine w_aload_n dX10_leastTow_103 rfl ?_
      refine w_getR (r := 243) dX10_leastTow_104 fl10_22 g0_238 (by decide) rfl ?_
      refine w_iconst dX10_leastTow_107 ?_
      refine r_ild dX10_leastTow_108 g0_243 (by decide) (by omega) (by omega) (by decide) (fun r108 => ?_)
      refine w_iconst dX10_leastTow_109 ?_
      refine w_isub dX10_leastTow_110 ?_
      refine w_iload dX10_leastTow_111 rfl ?_
      refine w_isub dX10_leastTow_113 ?_
      refine w_imul dX10_leastTow_114 ?_
      rw [show 2 * (m 243 0 - 1 - (c : Int)) = ((2 * (N - 1 - c) : Nat) : Int) by omega]
      refine w_ibin (r := ((W / 4 ^ (N - 1 - c) : Nat) : Int)) dX10_leastTow_115 (Or.inr <| Or.inr <| Or.inr <| Or.inr <| Or.inl ⟨rfl, by rw [← es]; exact b_shr (by omega) (by omega)⟩) ?_
      refine w_iconst dX10_leastTow_116 ?_
      refine w_ibin (r := ((dgt N W c : Nat) : Int)) dX10_leastTow_117 (Or.inl ⟨rfl, by rw [← ed]; exact b_m3 _⟩) ?_
      refine w_istore dX10_leastTow_118 (by decide) ?_
      refine w_iload dX10_leastTow_120 rfl ?_
      refine w_ifB_eq (tgt := 143) dX10_leastTow_122 (by decide) (fun h122 => ?_) (fun h122 => ?_)
      · (first | replace h122 := of_decide_eq_true h122 | replace h122 := of_decide_eq_false h122 | skip)
        refine w_iconst dX10_leastTow_143 ?_
        refine w_istore dX10_leastTow_144 (by decide) ?_
        first | exact tail false (by rw [mp, h122, Bool.false_and]) | exact tail true (by rw [mp, h122, Bool.true_and, decide_eq_true (show dgt N W c = 0 by omega), Bool.true_or]) | exact tail true (by rw [mp, h122, Bool.true_and, decide_eq_true (show S (7 + 5 * (c : Int)) ≠ 0 by omega), Bool.or_true]) | exact tail false (by rw [mp, h122, Bool.true_and, decide_eq_false (show ¬ dgt N W c = 0 by omega), decide_eq_false (show ¬ S (7 + 5 * (c : Int)) ≠ 0 by omega)]; rfl)
      · (first | replace h122 := of_decide_eq_true h122 | replace h122 := of_decide_eq_false h122 | skip)
        refine w_iload dX10_leastTow_125 rfl ?_
        refine w_if_eq (tgt := 139) dX10_leastTow_127 (by decide) (by omega) (fun h127 => ?_) (fun h127 => ?_)
        · refine w_iconst dX10_leastTow_139 ?_
          refine w_goto (tgt := 144) dX10_leastTow_140 (by decide) ?_
          refine w_istore dX10_leastTow_144 (by decide) ?_
          first | exact tail false (by rw [mp, h122, Bool.false_and]) | exact tail true (by rw [mp, h122, Bool.true_and, decide_eq_true (show dgt N W c = 0 by omega), Bool.true_or]) | exact tail true (by rw [mp, h122, Bool.true_and, decide_eq_true (show S (7 + 5 * (c : Int)) ≠ 0 by omega), Bool.or_true]) | exact tail false (by rw [mp, h122, Bool.true_and, decide_eq_false (show ¬ dgt N W c = 0 by omega), decide_eq_false (show ¬ S (7 + 5 * (c : Int)) ≠ 0 by omega)]; rfl)
        · refine w_aload_n dX10_leastTow_130 rfl ?_
          refine w_iload dX10_leastTow_131 rfl ?_
          refine cVm dX10_leastTow_133 ok_X10_isGone lv10_129 (c_X10_isGone (by omega) (by omega)) rfl (congrArg Prod.fst g0_238) (by decide) (by decide) rfl (by decide) (Nat.le_of_ble_eq_true rfl) (fun r133 => ?_)
          refine w_ifB_ne (tgt := 143) dX10_leastTow_136 (by decide) (fun h136 => ?_) (fun h136 => ?_)
          · (first | replace h136 := of_decide_eq_true h136 | replace h136 := of_decide_eq_false h136 | skip)
            refine w_iconst dX10_leastTow_143 ?_
            refine w_istore dX10_leastTow_144 (by decide) ?_
            first | exact tail false (by rw [mp, h122, Bool.false_and]) | exact tail true (by rw [mp, h122, Bool.true_and, decide_eq_true (show dgt N W c = 0 by omega), Bool.true_or]) | exact tail true (by rw [mp, h122, Bool.true_and, decide_eq_true (show S (7 + 5 * (c : Int)) ≠ 0 by omega), Bool.or_true]) | exact tail false (by rw [mp, h122, Bool.true_and, decide_eq_false (show ¬ dgt N W c = 0 by omega), decide_eq_false (show ¬ S (7 + 5 * (c : Int)) ≠ 0 by omega)]; rfl)
          · (first | replace h136 := of_decide_eq_true h136 | replace h136 := of_decide_eq_false h136 | skip)
            refine w_iconst dX10_leastTow_139 ?_
            refine w_goto (tgt := 144) dX10_leastTow_140 (by decide) ?_
            refine w_istore dX10_leastTow_144 (by decide) ?_
            first | exact tail false (by rw [mp, h122, Bool.false_and]) | exact tail true (by rw [mp, h122, Bool.true_and, decide_eq_true (show dgt N W c = 0 by omega), Bool.true_or]) | exact tail true (by rw [mp, h122, Bool.true_and, decide_eq_true (show S (7 + 5 * (c : Int)) ≠ 0 by omega), Bool.or_true]) | exact tail false (by rw [mp, h122, Bool.true_and, decide_eq_false (show ¬ dgt N W c = 0 by omega), decide_eq_false (show ¬ S (7 + 5 * (c : Int)) ≠ 0 by omega)]; rfl)
