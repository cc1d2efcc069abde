/-! ===== seen ===== -/
abbrev Pxl (P : Int → MM → Prop) : PP := fun r n g m => ∃ z, r = some (vl z) ∧ n = N0 ∧ g = G0 ∧ P z m
abbrev Cxl (E : EV) (Y : MD) (d : Nat) (av : List AV) (M : MM) (P : Int → MM → Prop) : Prop := Ct E Y d 0 0 av N0 G0 M (Pxl P)
theorem q_xl {P : Int → MM → Prop} {z : Int} {M : MM} (h : P z M) : Pxl P (some (vl z)) N0 G0 M := ⟨z, rfl, rfl, rfl, h⟩
def seenR (p : PS) (k q w : Int) : Int × PS := if p.S 0 = 0 then (-1000002, p) else if (0 ≤ k ∧ k ≤ 5) ∧ (0 ≤ q ∧ q ≤ 10) ∧ (w = 0 ∨ w = 1) then ((if w = 0 then wqA q (bcN (aliveF p.S)) k.toNat else wqB q (bcN (aliveF p.S)) k.toNat), p) else (-1000001, p)
theorem bc_le : ∀ a, a < 32 → bcN a ≤ 5 := by decide +kernel
theorem c_X9_seen {E : EV} {M : MM} {p : PS} {k q w : Int} (hC : CI M p) (hP : POK p) (hk9 : R32 k) (hq9 : R32 q) (hw : R32 w) : Cxl E mX9_seen 9 [vr 0, vi k, vi q, vi w] M (KC M (seenR p k q w)) := by
  refine Ct.of [some (vr 0), some (vi k), some (vi q), some (vi w)] rfl rfl rfl (Nat.le_of_ble_eq_true rfl) ?_
  have e0 := hC.S.num
  have ha := aliveF_r hP.hs.ok
  have hb := bc_le _ ha
  refine w_aload_n dX9_seen_0 rfl ?_
  refine cVm dX9_seen_1 ok_X9_noSky lv9_165 c_X9_noSky rfl (congrArg Prod.fst g0_0) (by decide) (by decide) rfl (by decide) (Nat.le_of_ble_eq_true rfl) (fun r1 => ?_)
  refine w_ifB_eq (tgt := 11) dX9_seen_4 (by decide) (fun h4 => ?_) (fun h4 => ?_)
  · (first | replace h4 := of_decide_eq_true h4 | replace h4 := of_decide_eq_false h4 | skip)
    refine w_iload_n dX9_seen_11 rfl ?_
    refine w_iconst dX9_seen_12 ?_
    refine w_iconst dX9_seen_13 ?_
    refine cSm dX9_seen_14 ok_X9_within (Or.inl ls9_86) (c_X9_within (by omega) (by omega) (by omega)) rfl  rfl (by decide) (Nat.le_of_ble_eq_true rfl) (fun r14 => ?_)
    refine w_ifB_eq (tgt := 37) dX9_seen_17 (by decide) (fun h17 => ?_) (fun h17 => ?_)
    · (first | replace h17 := of_decide_eq_true h17 | replace h17 := of_decide_eq_false h17 | skip)
      refine w_ldc2 dX9_seen_37 cl9_302 ?_
      refine w_lret dX9_seen_40 rfl (by omega) ?_ ⟨Nat.le_refl _, Nat.le_refl _⟩
      exact (q_xl (KC.stay hC (by unfold seenR; ((repeat (first | rw [if_pos (by omega)] | rw [if_neg (by omega)])) <;> rfl))))
    · (first | replace h17 := of_decide_eq_true h17 | replace h17 := of_decide_eq_false h17 | skip)
      refine w_iload_n dX9_seen_20 rfl ?_
      refine w_iconst dX9_seen_21 ?_
      refine w_bipush dX9_seen_22 (by decide +kernel) ?_
      refine cSm dX9_seen_24 ok_X9_within (Or.inl ls9_86) (c_X9_within (by omega) (by omega) (by omega)) rfl  rfl (by decide) (Nat.le_of_ble_eq_true rfl) (fun r24 => ?_)
      refine w_ifB_eq (tgt := 37) dX9_seen_27 (by decide) (fun h27 => ?_) (fun h27 => ?_)
      · (first | replace h27 := of_decide_eq_true h27 | replace h27 := of_decide_eq_false h27 | skip)
        refine w_ldc2 dX9_seen_37 cl9_302 ?_
        refine w_lret dX9_seen_40 rfl (by omega) ?_ ⟨Nat.le_refl _, Nat.le_refl _⟩
        exact (q_xl (KC.stay hC (by unfold seenR; ((repeat (first | rw [if_pos (by omega)] | rw [if_neg (by omega)])) <;> rfl))))
      · (first | replace h27 := of_decide_eq_true h27 | replace h27 := of_decide_eq_false h27 | skip)
        refine w_iload_n dX9_seen_30 rfl ?_
        refine cSm dX9_seen_31 ok_X9_isZeroOrOne (Or.inl ls9_217) (c_X9_isZeroOrOne (by omega)) rfl  rfl (by decide) (Nat.le_of_ble_eq_true rfl) (fun r31 => ?_)
        refine w_ifB_ne (tgt := 41) dX9_seen_34 (by decide) (fun h34 => ?_) (fun h34 => ?_)
        · (first | replace h34 := of_decide_eq_true h34 | replace h34 := of_decide_eq_false h34 | skip)
          refine w_aload_n dX9_seen_41 rfl ?_
          refine w_getR (r := 220) dX9_seen_42 fl9_71 g0_0 (by decide) rfl ?_
          refine w_aload_n dX9_seen_45 rfl ?_
          refine w_getR (r := 23) dX9_seen_46 fl9_35 g0_0 (by decide) rfl ?_
          refine cVm dX9_seen_49 ok_X6_alive lv9_304 (c_X6_alive sk_23 hC.S hP.hs.ok) rfl (sk_k sk_23) (sk_n0 sk_23) (by decide) rfl (by decide) (Nat.le_of_ble_eq_true rfl) (fun r49 => ?_)
          refine cSm dX9_seen_52 ok_J6_bitCount_0f7a4 (Or.inl ls9_307) (c_J6_bitCount_0f7a4 (x := aliveF p.S) (by omega)) rfl  rfl (by decide) (Nat.le_of_ble_eq_true rfl) (fun r52 => ?_)
          refine w_iload_n dX9_seen_55 rfl ?_
          refine w_iload_n dX9_seen_56 rfl ?_
          obtain ⟨g, rfl⟩ : ∃ g : Nat, k = g := ⟨k.toNat, by omega⟩
          refine cVxv dX9_seen_57 ok_X2_weigh lv9_312 (c_X2_weigh (n := bcN (aliveF p.S)) (k := g) (by omega) (by omega) hb (by omega)) rfl (congrArg Prod.fst g0_220) (by decide) (by decide) rfl (by decide) (Nat.le_of_ble_eq_true rfl) (fun m57 p57 => ?_)
          refine w_iload_n dX9_seen_60 rfl ?_
          refine w_if_ne (tgt := 74) dX9_seen_61 (by decide) (by omega) (fun h61 => ?_) (fun h61 => ?_)
          · refine w_aload_n dX9_seen_74 rfl ?_
            refine w_getR (r := 220) dX9_seen_75 fl9_71 g0_0 (by decide) rfl ?_
            refine r_getL (q := 1) dX9_seen_78 fl9_319 g0_220 (by decide) rfl rfl (fun r78 => ?_)
            refine w_lret dX9_seen_81 rfl (by omega) ?_ ⟨Nat.le_refl _, Nat.le_refl _⟩
            first | (refine q_xl (KC.keep' hC p57.2.2.scr p57.1 ?_); unfold seenR; ((repeat (first | rw [if_pos (by omega)] | rw [if_neg (by omega)])) <;> rfl)) | (refine q_xl (KC.keep' hC p57.2.2.scr p57.2.1 ?_); unfold seenR; ((repeat (first | rw [if_pos (by omega)] | rw [if_neg (by omega)])) <;> rfl))
          · refine w_aload_n dX9_seen_64 rfl ?_
            refine w_getR (r := 220) dX9_seen_65 fl9_71 g0_0 (by decide) rfl ?_
            refine r_getL (q := 0) dX9_seen_68 fl9_315 g0_220 (by decide) rfl rfl (fun r68 => ?_)
            refine w_goto (tgt := 81) dX9_seen_71 (by decide) ?_
            refine w_lret dX9_seen_81 rfl (by omega) ?_ ⟨Nat.le_refl _, Nat.le_refl _⟩
            first | (refine q_xl (KC.keep' hC p57.2.2.scr p57.1 ?_); unfold seenR; ((repeat (first | rw [if_pos (by omega)] | rw [if_neg (by omega)])) <;> rfl)) | (refine q_xl (KC.keep' hC p57.2.2.scr p57.2.1 ?_); unfold seenR; ((repeat (first | rw [if_pos (by omega)] | rw [if_neg (by omega)])) <;> rfl))
        · (first | replace h34 := of_decide_eq_true h34 | replace h34 := of_decide_eq_false h34 | skip)
          refine w_ldc2 dX9_seen_37 cl9_302 ?_
          refine w_lret dX9_seen_40 rfl (by omega) ?_ ⟨Nat.le_refl _, Nat.le_refl _⟩
          exact (q_xl (KC.stay hC (by unfold seenR; ((repeat (first | rw [if_pos (by omega)] | rw [if_neg (by omega)])) <;> rfl))))
  · (first | replace h4 := of_decide_eq_true h4 | replace h4 := of_decide_eq_false h4 | skip)
    refine w_ldc2 dX9_seen_7 cl9_300 ?_
    refine w_lret dX9_seen_10 rfl (by omega) ?_ ⟨Nat.le_refl _, Nat.le_refl _⟩
    exact (q_xl (KC.stay hC (by unfold seenR; ((repeat (first | rw [if_pos (by omega)] | rw [if_neg (by omega)])) <;> rfl))))
/-! the reference's sums over the sets of clouds -/
def ptN (a s p : Nat) : Nat → Nat
  | 0 => 1
  | c + 1 => ptN a s p c * (if a.testBit c = true then (if s.testBit c = true then p else 10 - p) else 1)
def mnF : Nat → Nat → Nat
  | 0, _ => 0
  | k + 1, x => if x = 0 then 0 else 1 + mnF k (x &&& (x - 1))
def smB (a p : Nat) : Nat → Nat
  | 0 => 0
  | t + 1 => smB a p t + (if t &&& a = t then ptN a t p 5 else 0)
def smA (a k p : Nat) : Nat → Nat
  | 0 => 0
  | t + 1 => smA a k p t + (if t &&& a = t then (if k ≤ mnF 32 t then ptN a t p 5 else 0) else 0)
theorem seen_all : ∀ a, a < 32 → ∀ p, p < 11 → (smB a p (a + 1) ≤ 100000 ∧ 0 < smB a p (a + 1)) ∧ ∀ k, k < 6 → wqA (p : Int) (bcN a) k = ((smA a k p (a + 1) / Nat.gcd (smA a k p (a + 1)) (smB a p (a + 1)) : Nat) : Int) ∧ wqB (p : Int) (bcN a) k = ((smB a p (a + 1) / Nat.gcd (smA a k p (a + 1)) (smB a p (a + 1)) : Nat) : Int) ∧ smA a k p (a + 1) ≤ 100000 := by decide +kernel
theorem sub_all : ∀ s : Nat, s < 33 → ∀ a : Nat, a < 32 → i32 (s : Int) &&& i32 (-1 - (a : Int)) = i32 ((s - (s &&& a) : Nat) : Int) := by decide +kernel
theorem not_all : ∀ a : Nat, a < 32 → i32 (a : Int) ^^^ i32 (-1) = i32 (-1 - (a : Int)) := by decide +kernel
theorem sub_iff : ∀ s : Nat, s < 33 → ∀ a : Nat, a < 32 → ((s - (s &&& a) = 0) ↔ (s &&& a = s)) := by decide +kernel
theorem l_X10_many {E : EV} {M : MM} {x9 : Int} :
    ∀ (k x n : Nat) (z y : Int), z = (n : Int) → y = (x : Int) → x < k → x < 64 → n + x ≤ 100 → Wp E mX10_many (kd 0) 4 [some (vi x9), some (vi z), some (vi y)] [] N0 G0 M (Pm (((n + mnF k x : Nat) : Int)) M) := by
  intro k
  induction k with
  | zero => intro x n z y hz hy hx; exact absurd hx (by omega)
  | succ k ih =>
    intro x n z y hz hy hx h64 hn
    subst hz
    subst hy
    have al : (x &&& (x - 1)) ≤ x - 1 := Nat.and_le_right
    refine w_iload_n dX10_many_4 rfl ?_
    refine w_if_eq (tgt := 20) dX10_many_5 (by decide) (by omega) (fun h5 => ?_) (fun h5 => ?_)
    · refine w_iload_n dX10_many_20 rfl ?_
      refine w_iret dX10_many_21 rfl (by omega) ?_ ⟨Nat.le_refl _, Nat.le_refl _⟩
      exact (q_i (by rw [mnF, if_pos (by omega)]; rfl))
    · refine w_iinc dX10_many_8 rfl (by decide) ?_
      refine w_iload_n dX10_many_11 rfl ?_
      refine w_iload_n dX10_many_12 rfl ?_
      refine w_iconst dX10_many_13 ?_
      refine w_isub dX10_many_14 ?_
      rw [show (x : Int) - 1 = ((x - 1 : Nat) : Int) by omega]
      refine w_ibin (r := ((x &&& (x - 1) : Nat) : Int)) dX10_many_15 (Or.inl ⟨rfl, b_and _ _⟩) ?_
      refine w_istore_n dX10_many_16 (by decide) ?_
      refine w_goto (tgt := 4) dX10_many_17 (by decide) ?_
      rw [show n + mnF (k + 1) x = (n + 1) + mnF k (x &&& (x - 1)) from by rw [mnF, if_neg (by omega)]; omega]
      exact ih _ (n + 1) _ _ (by omega) rfl (by omega) (by omega) (by omega)
theorem c_X10_many {E : EV} {M : MM} {x : Nat} (hx : x < 32) : Cm E mX10_many 0 [vi (x : Int)] M ((mnF 32 x : Nat) : Int) M := by
  refine Ct.of [some (vi (x : Int)), none, none] rfl rfl rfl (Nat.le_of_ble_eq_true rfl) ?_
  have e := l_X10_many (E := E) (M := M) (x9 := (x : Int)) 32 x 0 _ _ rfl rfl (by omega) (by omega) (by omega)
  rw [Nat.zero_add] at e
  refine w_iconst dX10_many_0 ?_
  refine w_istore_n dX10_many_1 (by decide) ?_
  refine w_iload_n dX10_many_2 rfl ?_
  refine w_istore_n dX10_many_3 (by decide) ?_
  exact e
theorem l_X10_common {E : EV} {M : MM} {a b : Int} :
    ∀ (k x y : Nat) (u v : Int) (x8 x9 : Option AV), u = (x : Int) → v = (y : Int) → y < k → x < 1000000 → y < 1000000 → Wp E mX10_common (kd 0) 6 [some (vl a), none, some (vl b), none, some (vl u), none, some (vl v), none, x8, x9] [] N0 G0 M (Pl ((Nat.gcd x y : Nat) : Int) M) := by
  intro k
  induction k with
  | zero => intro x y u v x8 x9 hu hv hy; exact absurd hy (by omega)
  | succ k ih =>
    intro x y u v x8 x9 hu hv hy hx hy2
    subst hu
    subst hv
    refine w_lload dX10_common_6 rfl ?_
    refine w_lconst0 dX10_common_8 ?_
    refine w_lcmp dX10_common_9 (by omega) (by omega) ?_
    refine w_ifL_eq (tgt := 31) dX10_common_10 (by decide) (fun h10 => ?_) (fun h10 => ?_)
    · refine w_lload dX10_common_31 rfl ?_
      refine w_lret dX10_common_33 rfl (by omega) ?_ ⟨Nat.le_refl _, Nat.le_refl _⟩
      exact (show Pl ((Nat.gcd x y : Nat) : Int) M (some (vl (x : Int))) N0 G0 M from ⟨by rw [show y = 0 by omega, Nat.gcd_zero_right], rfl, rfl, rfl⟩)
    · refine w_lload dX10_common_13 rfl ?_
      refine w_lload dX10_common_15 rfl ?_
      have ml := Nat.mod_lt x (show 0 < y by omega)
      have ee : (x : Int) % (y : Int) = ((x % y : Nat) : Int) := by omega
      refine w_lrem dX10_common_17 (by omega) (by omega) (by omega) (by omega) ?_
      refine w_lstore dX10_common_18 (by decide) ?_
      refine w_lload dX10_common_20 rfl ?_
      refine w_lstore dX10_common_22 (by decide) ?_
      refine w_lload dX10_common_24 rfl ?_
      refine w_lstore dX10_common_26 (by decide) ?_
      refine w_goto (tgt := 6) dX10_common_28 (by decide) ?_
      rw [show Nat.gcd x y = Nat.gcd y (x % y) from by rw [Nat.gcd_comm x y, Nat.gcd_rec y x, Nat.gcd_comm]]
      exact ih y (x % y) _ _ _ _ rfl ee (by omega) (by omega) (by omega)
theorem c_X10_common {E : EV} {M : MM} {x y : Nat} (hx : x < 1000000) (hy : y < 1000000) : Cl E mX10_common 0 [vl (x : Int), vl (y : Int)] M ((Nat.gcd x y : Nat) : Int) M := by
  refine Ct.of [some (vl (x : Int)), none, some (vl (y : Int)), none, none, none, none, none, none, none] rfl rfl rfl (Nat.le_of_ble_eq_true rfl) ?_
  refine w_lload_n dX10_common_0 rfl ?_
  refine w_lstore dX10_common_1 (by decide) ?_
  refine w_lload_n dX10_common_3 rfl ?_
  refine w_lstore dX10_common_4 (by decide) ?_
  exact l_X10_common (y + 1) x y _ _ _ _ rfl rfl (by omega) hx hy
theorem pt_le {a s p : Nat} (hp : p ≤ 10) : ∀ c, ptN a s p c ≤ 10 ^ c
  | 0 => Nat.le_refl _
  | c + 1 => by
    rw [ptN, Nat.pow_succ]
    refine Nat.mul_le_mul (pt_le hp c) ?_
    (repeat' split) <;> omega
theorem pt_more {a s p n : Nat} (ha : a < 2 ^ n) : ∀ d, ptN a s p (n + d) = ptN a s p n
  | 0 => rfl
  | d + 1 => by
    rw [← Nat.add_assoc, ptN, if_neg (by rw [Nat.testBit_lt_two_pow (Nat.lt_of_lt_of_le ha (Nat.pow_le_pow_right (by decide) (by omega)))]; decide), Nat.mul_one, pt_more ha d]
theorem l_X10_seenIn {E : EV} {M : MM} {S : SS} {B : Int} {k w A9 B9 : Int} {q s : Nat} {Q : PP} (hM : M 243 = S) (hO : SOK B S) (hq : q ≤ 10) (hs : s < 32)
    (hQ : Wp E mX10_seen (kd 9) 143 [some (vr 238), some (vi k), some (vi (q : Int)), some (vi w), some (vi ((aliveF S : Nat) : Int)), some (vl A9), none, some (vl B9), none, some (vi (s : Int)), some (vl ((ptN (aliveF S) s q 5 : Nat) : Int)), none, some (vi (S 0))] [] N0 G0 M Q) :
    ∀ (j c : Nat) (z y : Int), z = (c : Int) → y = ((ptN (aliveF S) s q c : Nat) : Int) → c + j = (S 0).toNat → Wp E mX10_seen (kd 9) 87 [some (vr 238), some (vi k), some (vi (q : Int)), some (vi w), some (vi ((aliveF S : Nat) : Int)), some (vl A9), none, some (vl B9), none, some (vi (s : Int)), some (vl y), none, some (vi z)] [] N0 G0 M Q := by
  intro j
  have hn := hO.1
  have e0 : M 243 0 = S 0 := by rw [hM]
  induction j with
  | zero =>
    intro c z y hz hy hc
    subst hz
    subst hy
    have ea : ptN (aliveF S) s q 5 = ptN (aliveF S) s q c := by
      have := pt_more (s := s) (p := q) (show aliveF S < 2 ^ c by rw [show c = (S 0).toNat by omega]; exact setN_lt _ _) (5 - c)
      rw [show c + (5 - c) = 5 by omega] at this
      exact this
    refine w_iload dX10_seen_87 rfl ?_
    refine w_aload_n dX10_seen_89 rfl ?_
    refine w_getR (r := 243) dX10_seen_90 fl10_22 g0_238 (by decide) rfl ?_
    refine w_iconst dX10_seen_93 ?_
    refine r_ild dX10_seen_94 g0_243 (by decide) (by omega) (by omega) (by decide) (fun r94 => ?_)
    refine w_icmp_ge (tgt := 143) dX10_seen_95 (by decide) (by omega) (by omega) (fun h95 => ?_) (fun h95 => ?_)
    · rw [ea] at hQ
      rw [show (c : Int) = S 0 by omega]
      exact hQ
    · exact absurd h95 (by omega)
  | succ j ih =>
    intro c z y hz hy hc
    subst hz
    subst hy
    have hp := pt_le (a := aliveF S) (s := s) hq c
    have h5 : 10 ^ c ≤ 10 ^ 5 := Nat.pow_le_pow_right (by decide) (by omega)
    have bit : (aliveF S).testBit c = decide (S (7 + 5 * (c : Int)) ≠ 0) := by unfold aliveF; rw [setN_bit, decide_eq_true (show c < (S 0).toNat by omega), Bool.true_and]
    have e7 : M 243 (7 + 5 * (c : Int)) = S (7 + 5 * (c : Int)) := by rw [hM]
    have hb := b_bit s c
    have e2 : ((s / 2 ^ c : Nat) : Int) % 2 = ((s / 2 ^ c % 2 : Nat) : Int) := by omega
    have tail : ∀ v : Nat, (if (aliveF S).testBit c = true then (if s.testBit c = true then q else 10 - q) else 1) = v → Wp E mX10_seen (kd 9) 134 [some (vr 238), some (vi k), some (vi (q : Int)), some (vi w), some (vi ((aliveF S : Nat) : Int)), some (vl A9), none, some (vl B9), none, some (vi (s : Int)), some (vl ((ptN (aliveF S) s q c : Nat) : Int)), none, some (vi (c : Int))] [vl (v : Int), vl ((ptN (aliveF S) s q c : Nat) : Int)] N0 G0 M Q := by
      intro v hv
      refine w_lmul dX10_seen_134 ?_
      refine w_lstore dX10_seen_135 (by decide) ?_
      refine w_iinc dX10_seen_137 rfl (by decide) ?_
      refine w_goto (tgt := 87) dX10_seen_140 (by decide) ?_
      exact ih (c + 1) _ _ (by omega) (by rw [ptN, hv, Int.natCast_mul]) (by omega)
    refine w_iload dX10_seen_87 rfl ?_
    refine w_aload_n dX10_seen_89 rfl ?_
    refine w_getR (r := 243) dX10_seen_90 fl10_22 g0_238 (by decide) rfl ?_
    refine w_iconst dX10_seen_93 ?_
    refine r_ild dX10_seen_94 g0_243 (by decide) (by omega) (by omega) (by decide) (fun r94 => ?_)
    refine w_icmp_ge (tgt := 143) dX10_seen_95 (by decide) (by omega) (by omega) (fun h95 => ?_) (fun h95 => ?_)
    · exact absurd h95 (by omega)
    · refine w_lload dX10_seen_98 rfl ?_
      refine w_aload_n dX10_seen_100 rfl ?_
      refine w_iload dX10_seen_101 rfl ?_
      refine cVm dX10_seen_103 ok_X10_isGone lv10_129 (c_X10_isGone (by omega) (by omega)) rfl (congrArg Prod.fst g0_238) (by decide) (by decide) rfl (by decide) (Nat.le_of_ble_eq_true rfl) (fun r103 => ?_)
      refine w_ifB_eq (tgt := 113) dX10_seen_106 (by decide) (fun h106 => ?_) (fun h106 => ?_)
      · (first | replace h106 := of_decide_eq_true h106 | replace h106 := of_decide_eq_false h106 | skip)
        refine w_iload dX10_seen_113 rfl ?_
        refine w_iload dX10_seen_115 rfl ?_
        refine w_ibin (r := ((s / 2 ^ c : Nat) : Int)) dX10_seen_117 (Or.inr <| Or.inr <| Or.inr <| Or.inr <| Or.inl ⟨rfl, b_shr (by omega) (by omega)⟩) ?_
        refine w_iconst dX10_seen_118 ?_
        refine w_ibin (r := ((s / 2 ^ c % 2 : Nat) : Int)) dX10_seen_119 (Or.inl ⟨rfl, by rw [← e2]; exact b_m1 _⟩) ?_
        refine w_iconst dX10_seen_120 ?_
        refine w_icmp_ne (tgt := 129) dX10_seen_121 (by decide) (by omega) (by omega) (fun h121 => ?_) (fun h121 => ?_)
        · refine w_bipush dX10_seen_129 (by decide +kernel) ?_
          refine w_iload_n dX10_seen_131 rfl ?_
          refine w_isub dX10_seen_132 ?_
          refine w_i2l dX10_seen_133 (by omega) ?_
          first | exact tail 1 (by rw [if_neg (by rw [bit]; simp only [decide_eq_true_eq]; omega)]) | (have tb : s.testBit c = true := (by cases hq2 : s.testBit c with | true => rfl | false => rw [hq2, if_neg (by decide)] at hb; omega); exact tail q (by rw [if_pos (by rw [bit]; simp only [decide_eq_true_eq]; omega), if_pos tb])) | (have tb : s.testBit c = false := (by cases hq2 : s.testBit c with | false => rfl | true => rw [hq2, if_pos rfl] at hb; omega); rw [show (10 : Int) - (q : Int) = ((10 - q : Nat) : Int) by omega]; exact tail (10 - q) (by rw [if_pos (by rw [bit]; simp only [decide_eq_true_eq]; omega), if_neg (by rw [tb]; decide)]))
        · refine w_iload_n dX10_seen_124 rfl ?_
          refine w_i2l dX10_seen_125 (by omega) ?_
          refine w_goto (tgt := 134) dX10_seen_126 (by decide) ?_
          first | exact tail 1 (by rw [if_neg (by rw [bit]; simp only [decide_eq_true_eq]; omega)]) | (have tb : s.testBit c = true := (by cases hq2 : s.testBit c with | true => rfl | false => rw [hq2, if_neg (by decide)] at hb; omega); exact tail q (by rw [if_pos (by rw [bit]; simp only [decide_eq_true_eq]; omega), if_pos tb])) | (have tb : s.testBit c = false := (by cases hq2 : s.testBit c with | false => rfl | true => rw [hq2, if_pos rfl] at hb; omega); rw [show (10 : Int) - (q : Int) = ((10 - q : Nat) : Int) by omega]; exact tail (10 - q) (by rw [if_pos (by rw [bit]; simp only [decide_eq_true_eq]; omega), if_neg (by rw [tb]; decide)]))
      · (first | replace h106 := of_decide_eq_true h106 | replace h106 := of_decide_eq_false h106 | skip)
        refine w_lconst1 dX10_seen_109 ?_
        refine w_goto (tgt := 134) dX10_seen_110 (by decide) ?_
        first | exact tail 1 (by rw [if_neg (by rw [bit]; simp only [decide_eq_true_eq]; omega)]) | (have tb : s.testBit c = true := (by cases hq2 : s.testBit c with | true => rfl | false => rw [hq2, if_neg (by decide)] at hb; omega); exact tail q (by rw [if_pos (by rw [bit]; simp only [decide_eq_true_eq]; omega), if_pos tb])) | (have tb : s.testBit c = false := (by cases hq2 : s.testBit c with | false => rfl | true => rw [hq2, if_pos rfl] at hb; omega); rw [show (10 : Int) - (q : Int) = ((10 - q : Nat) : Int) by omega]; exact tail (10 - q) (by rw [if_pos (by rw [bit]; simp only [decide_eq_true_eq]; omega), if_neg (by rw [tb]; decide)]))
theorem l_X10_seen {E : EV} {M : MM} {S : SS} {B : Int} {w : Int} {k q : Nat} {Q : PP} (hM : M 243 = S) (hO : SOK B S) (hq : q ≤ 10) (hk : k ≤ 5)
    (hQ : ∀ (z : Int) (x10 x11 x12 : Option AV), Wp E mX10_seen (kd 9) 176 [some (vr 238), some (vi (k : Int)), some (vi (q : Int)), some (vi w), some (vi ((aliveF S : Nat) : Int)), some (vl ((smA (aliveF S) k q (aliveF S + 1) : Nat) : Int)), none, some (vl ((smB (aliveF S) q (aliveF S + 1) : Nat) : Int)), none, some (vi z), x10, x11, x12] [] N0 G0 M Q) :
    ∀ (j s : Nat) (z a b : Int) (x10 x11 x12 : Option AV), z = (s : Int) → a = ((smA (aliveF S) k q s : Nat) : Int) → b = ((smB (aliveF S) q s : Nat) : Int) → s + j = aliveF S + 1 → Wp E mX10_seen (kd 9) 64 [some (vr 238), some (vi (k : Int)), some (vi (q : Int)), some (vi w), some (vi ((aliveF S : Nat) : Int)), some (vl a), none, some (vl b), none, some (vi z), x10, x11, x12] [] N0 G0 M Q := by
  intro j
  have hn := hO.1
  have ha := aliveF_r hO
  induction j with
  | zero =>
    intro s z a b x10 x11 x12 hz h1 h2 hs
    subst hz
    subst h1
    subst h2
    refine w_iload dX10_seen_64 rfl ?_
    refine w_iload dX10_seen_66 rfl ?_
    refine w_icmp_gt (tgt := 176) dX10_seen_68 (by decide) (by omega) (by omega) (fun h68 => ?_) (fun h68 => ?_)
    · rw [← show s = aliveF S + 1 by omega] at hQ
      exact hQ _ _ _ _
    · exact absurd h68 (by omega)
  | succ j ih =>
    intro s z a b x10 x11 x12 hz h1 h2 hs
    subst hz
    subst h1
    subst h2
    have si := sub_iff s (by omega) _ ha
    have sa := sub_all s (by omega) _ ha
    have na := not_all _ ha
    have hp := pt_le (a := aliveF S) (s := s) hq 5
    have tail : (s &&& aliveF S = s) → ∀ x12 : Option AV, Wp E mX10_seen (kd 9) 143 [some (vr 238), some (vi (k : Int)), some (vi (q : Int)), some (vi w), some (vi ((aliveF S : Nat) : Int)), some (vl ((smA (aliveF S) k q s : Nat) : Int)), none, some (vl ((smB (aliveF S) q s : Nat) : Int)), none, some (vi (s : Int)), some (vl ((ptN (aliveF S) s q 5 : Nat) : Int)), none, x12] [] N0 G0 M Q := by
      intro hb x12
      refine w_lload dX10_seen_143 rfl ?_
      refine w_lload dX10_seen_145 rfl ?_
      refine w_ladd dX10_seen_147 ?_
      refine w_lstore dX10_seen_148 (by decide) ?_
      refine w_lload dX10_seen_150 rfl ?_
      refine w_iload dX10_seen_152 rfl ?_
      refine cSm dX10_seen_154 ok_X10_many (Or.inl ls10_211) (c_X10_many (x := s) (by omega)) rfl  rfl (by decide) (Nat.le_of_ble_eq_true rfl) (fun r154 => ?_)
      refine w_iload_n dX10_seen_157 rfl ?_
      refine w_icmp_lt (tgt := 166) dX10_seen_158 (by decide) (by omega) (by omega) (fun h158 => ?_) (fun h158 => ?_)
      · refine w_lconst0 dX10_seen_166 ?_
        refine w_ladd dX10_seen_167 ?_
        refine w_lstore dX10_seen_168 (by decide) ?_
        refine w_iinc dX10_seen_170 rfl (by decide) ?_
        refine w_goto (tgt := 64) dX10_seen_173 (by decide) ?_
        first | exact ih (s + 1) _ _ _ _ _ _ (by omega) (by rw [smA, if_pos hb, if_pos (by omega)]; omega) (by rw [smB, if_pos hb]; omega) (by omega) | exact ih (s + 1) _ _ _ _ _ _ (by omega) (by rw [smA, if_pos hb, if_neg (by omega)]; omega) (by rw [smB, if_pos hb]; omega) (by omega)
      · refine w_lload dX10_seen_161 rfl ?_
        refine w_goto (tgt := 167) dX10_seen_163 (by decide) ?_
        refine w_ladd dX10_seen_167 ?_
        refine w_lstore dX10_seen_168 (by decide) ?_
        refine w_iinc dX10_seen_170 rfl (by decide) ?_
        refine w_goto (tgt := 64) dX10_seen_173 (by decide) ?_
        first | exact ih (s + 1) _ _ _ _ _ _ (by omega) (by rw [smA, if_pos hb, if_pos (by omega)]; omega) (by rw [smB, if_pos hb]; omega) (by omega) | exact ih (s + 1) _ _ _ _ _ _ (by omega) (by rw [smA, if_pos hb, if_neg (by omega)]; omega) (by rw [smB, if_pos hb]; omega) (by omega)
    refine w_iload dX10_seen_64 rfl ?_
    refine w_iload dX10_seen_66 rfl ?_
    refine w_icmp_gt (tgt := 176) dX10_seen_68 (by decide) (by omega) (by omega) (fun h68 => ?_) (fun h68 => ?_)
    · exact absurd h68 (by omega)
    · refine w_iload dX10_seen_71 rfl ?_
      refine w_iload dX10_seen_73 rfl ?_
      refine w_iconst dX10_seen_75 ?_
      refine w_ibin (r := -1 - ((aliveF S : Nat) : Int)) dX10_seen_76 (Or.inr <| Or.inr <| Or.inl ⟨rfl, na⟩) ?_
      refine w_ibin (r := ((s - (s &&& aliveF S) : Nat) : Int)) dX10_seen_77 (Or.inl ⟨rfl, sa⟩) ?_
      refine w_if_ne (tgt := 170) dX10_seen_78 (by decide) (by omega) (fun h78 => ?_) (fun h78 => ?_)
      · refine w_iinc dX10_seen_170 rfl (by decide) ?_
        refine w_goto (tgt := 64) dX10_seen_173 (by decide) ?_
        exact ih (s + 1) _ _ _ _ _ _ (by omega) (by rw [smA, if_neg (by omega)]; omega) (by rw [smB, if_neg (by omega)]; omega) (by omega)
      · refine w_lconst1 dX10_seen_81 ?_
        refine w_lstore dX10_seen_82 (by decide) ?_
        refine w_iconst dX10_seen_84 ?_
        refine w_istore dX10_seen_85 (by decide) ?_
        exact l_X10_seenIn hM hO hq (by omega) (tail (by omega) _) (S 0).toNat 0 _ _ rfl rfl (by omega)
theorem c_X10_seen {E : EV} {M : MM} {p : PS} {k q w : Int} (hI : MI M p) (hP : POK p) (hk9 : R32 k) (hq9 : R32 q) (hw : R32 w) : Cxl E mX10_seen 9 [vr 238, vi k, vi q, vi w] M (KM M (seenR p k q w)) := by
  refine Ct.of [some (vr 238), some (vi k), some (vi q), some (vi w), none, none, none, none, none, none, none, none, none] rfl rfl rfl (Nat.le_of_ble_eq_true rfl) ?_
  have hs := hI.sn
  have ha := aliveF_r hP.hs.ok
  have cn : Cm E mX10_notGone 2 [vr 238] M ((aliveF p.S : Nat) : Int) M := by
    have := c_X10_notGone (E := E) (M := M) (B := 9990) (by rw [hI.S]; exact hP.hs.ok)
    rw [hI.S] at this
    exact this
  have fin : ∀ (g h : Nat), g ≤ 5 → h ≤ 10 → p.S 0 ≠ 0 → (w = 0 ∨ w = 1) → ∀ (z : Int) (x10 x11 x12 : Option AV), Wp E mX10_seen (kd 9) 176 [some (vr 238), some (vi (g : Int)), some (vi (h : Int)), some (vi w), some (vi ((aliveF p.S : Nat) : Int)), some (vl ((smA (aliveF p.S) g h (aliveF p.S + 1) : Nat) : Int)), none, some (vl ((smB (aliveF p.S) h (aliveF p.S + 1) : Nat) : Int)), none, some (vi z), x10, x11, x12] [] N0 G0 M (Pxl (KM M (seenR p (g : Int) (h : Int) w))) := by
    intro g h hg hh h0 hw2 z x10 x11 x12
    obtain ⟨⟨s1, s2⟩, s3⟩ := seen_all _ ha h (by omega)
    obtain ⟨s4, s5, s6⟩ := s3 g (by omega)
    have g1 : 0 < Nat.gcd (smA (aliveF p.S) g h (aliveF p.S + 1)) (smB (aliveF p.S) h (aliveF p.S + 1)) := Nat.gcd_pos_of_pos_right _ s2
    have g2 : Nat.gcd (smA (aliveF p.S) g h (aliveF p.S + 1)) (smB (aliveF p.S) h (aliveF p.S + 1)) ≤ 100000 := Nat.le_trans (Nat.gcd_le_right _ s2) s1
    have d1 : smA (aliveF p.S) g h (aliveF p.S + 1) / Nat.gcd (smA (aliveF p.S) g h (aliveF p.S + 1)) (smB (aliveF p.S) h (aliveF p.S + 1)) ≤ 100000 := Nat.le_trans (Nat.div_le_self _ _) s6
    have d2 : smB (aliveF p.S) h (aliveF p.S + 1) / Nat.gcd (smA (aliveF p.S) g h (aliveF p.S + 1)) (smB (aliveF p.S) h (aliveF p.S + 1)) ≤ 100000 := Nat.le_trans (Nat.div_le_self _ _) s1
    have n1 : (0 : Int) ≤ ((smA (aliveF p.S) g h (aliveF p.S + 1) / Nat.gcd (smA (aliveF p.S) g h (aliveF p.S + 1)) (smB (aliveF p.S) h (aliveF p.S + 1)) : Nat) : Int) := Int.natCast_nonneg _
    have n2 : (0 : Int) ≤ ((smB (aliveF p.S) h (aliveF p.S + 1) / Nat.gcd (smA (aliveF p.S) g h (aliveF p.S + 1)) (smB (aliveF p.S) h (aliveF p.S + 1)) : Nat) : Int) := Int.natCast_nonneg _
    refine w_lload dX10_seen_176 rfl ?_
    refine w_lload dX10_seen_178 rfl ?_
    refine cSl dX10_seen_180 ok_X10_common (Or.inl ls10_214) (c_X10_common (by omega) (by omega)) rfl  rfl (by decide) (Nat.le_of_ble_eq_true rfl) (fun r180 => ?_)
    refine w_lstore dX10_seen_183 (by decide) ?_
    refine w_iload_n dX10_seen_185 rfl ?_
    refine w_if_ne (tgt := 197) dX10_seen_186 (by decide) (by omega) (fun h186 => ?_) (fun h186 => ?_)
    · refine w_lload dX10_seen_197 rfl ?_
      refine w_lload dX10_seen_199 rfl ?_
      refine w_ldiv dX10_seen_201 (by omega) (by omega) (by omega) (by omega) ?_
      try rw [← Int.natCast_ediv]
      refine w_lret dX10_seen_202 rfl (by omega) ?_ ⟨Nat.le_refl _, Nat.le_refl _⟩
      first | (refine q_xl (KM.stay' hI s4.symm ?_); unfold seenR; ((repeat (first | rw [if_pos (by omega)] | rw [if_neg (by omega)])) <;> rfl)) | (refine q_xl (KM.stay' hI s5.symm ?_); unfold seenR; ((repeat (first | rw [if_pos (by omega)] | rw [if_neg (by omega)])) <;> rfl))
    · refine w_lload dX10_seen_189 rfl ?_
      refine w_lload dX10_seen_191 rfl ?_
      refine w_ldiv dX10_seen_193 (by omega) (by omega) (by omega) (by omega) ?_
      refine w_goto (tgt := 202) dX10_seen_194 (by decide) ?_
      try rw [← Int.natCast_ediv]
      refine w_lret dX10_seen_202 rfl (by omega) ?_ ⟨Nat.le_refl _, Nat.le_refl _⟩
      first | (refine q_xl (KM.stay' hI s4.symm ?_); unfold seenR; ((repeat (first | rw [if_pos (by omega)] | rw [if_neg (by omega)])) <;> rfl)) | (refine q_xl (KM.stay' hI s5.symm ?_); unfold seenR; ((repeat (first | rw [if_pos (by omega)] | rw [if_neg (by omega)])) <;> rfl))
  refine w_aload_n dX10_seen_0 rfl ?_
  refine r_getI (q := 13) dX10_seen_1 fl10_117 g0_238 (by decide) rfl (by decide) rfl (fun r1 => ?_)
  refine w_if_ne (tgt := 11) dX10_seen_4 (by decide) (by omega) (fun h4 => ?_) (fun h4 => ?_)
  · refine w_iload_n dX10_seen_11 rfl ?_
    refine w_i2l dX10_seen_12 (by omega) ?_
    refine w_lconst0 dX10_seen_13 ?_
    refine w_ldc2 dX10_seen_14 cl10_161 ?_
    refine cSm dX10_seen_17 ok_X10_in (Or.inl ls10_50) (c_X10_in (by omega) (by omega) (by omega)) rfl  rfl (by decide) (Nat.le_of_ble_eq_true rfl) (fun r17 => ?_)
    refine w_ifB_eq (tgt := 45) dX10_seen_20 (by decide) (fun h20 => ?_) (fun h20 => ?_)
    · (first | replace h20 := of_decide_eq_true h20 | replace h20 := of_decide_eq_false h20 | skip)
      refine w_ldc2 dX10_seen_45 cl10_206 ?_
      refine w_lret dX10_seen_48 rfl (by omega) ?_ ⟨Nat.le_refl _, Nat.le_refl _⟩
      exact (q_xl (KM.stay hI (by unfold seenR; ((repeat (first | rw [if_pos (by omega)] | rw [if_neg (by omega)])) <;> rfl))))
    · (first | replace h20 := of_decide_eq_true h20 | replace h20 := of_decide_eq_false h20 | skip)
      refine w_iload_n dX10_seen_23 rfl ?_
      refine w_i2l dX10_seen_24 (by omega) ?_
      refine w_lconst0 dX10_seen_25 ?_
      refine w_ldc2 dX10_seen_26 cl10_204 ?_
      refine cSm dX10_seen_29 ok_X10_in (Or.inl ls10_50) (c_X10_in (by omega) (by omega) (by omega)) rfl  rfl (by decide) (Nat.le_of_ble_eq_true rfl) (fun r29 => ?_)
      refine w_ifB_eq (tgt := 45) dX10_seen_32 (by decide) (fun h32 => ?_) (fun h32 => ?_)
      · (first | replace h32 := of_decide_eq_true h32 | replace h32 := of_decide_eq_false h32 | skip)
        refine w_ldc2 dX10_seen_45 cl10_206 ?_
        refine w_lret dX10_seen_48 rfl (by omega) ?_ ⟨Nat.le_refl _, Nat.le_refl _⟩
        exact (q_xl (KM.stay hI (by unfold seenR; ((repeat (first | rw [if_pos (by omega)] | rw [if_neg (by omega)])) <;> rfl))))
      · (first | replace h32 := of_decide_eq_true h32 | replace h32 := of_decide_eq_false h32 | skip)
        refine w_iload_n dX10_seen_35 rfl ?_
        refine w_i2l dX10_seen_36 (by omega) ?_
        refine w_lconst0 dX10_seen_37 ?_
        refine w_lconst1 dX10_seen_38 ?_
        refine cSm dX10_seen_39 ok_X10_in (Or.inl ls10_50) (c_X10_in (by omega) (by omega) (by omega)) rfl  rfl (by decide) (Nat.le_of_ble_eq_true rfl) (fun r39 => ?_)
        refine w_ifB_ne (tgt := 49) dX10_seen_42 (by decide) (fun h42 => ?_) (fun h42 => ?_)
        · (first | replace h42 := of_decide_eq_true h42 | replace h42 := of_decide_eq_false h42 | skip)
          refine w_aload_n dX10_seen_49 rfl ?_
          refine cVm dX10_seen_50 ok_X10_notGone lv10_208 cn rfl (congrArg Prod.fst g0_238) (by decide) (by decide) rfl (by decide) (Nat.le_of_ble_eq_true rfl) (fun r50 => ?_)
          refine w_istore dX10_seen_53 (by decide) ?_
          refine w_lconst0 dX10_seen_55 ?_
          refine w_lstore dX10_seen_56 (by decide) ?_
          refine w_lconst0 dX10_seen_58 ?_
          refine w_lstore dX10_seen_59 (by decide) ?_
          refine w_iconst dX10_seen_61 ?_
          refine w_istore dX10_seen_62 (by decide) ?_
          obtain ⟨g, rfl⟩ : ∃ g : Nat, k = g := ⟨k.toNat, by omega⟩
          obtain ⟨h, rfl⟩ : ∃ h : Nat, q = h := ⟨q.toNat, by omega⟩
          exact l_X10_seen hI.S hP.hs.ok (by omega) (by omega) (fin g h (by omega) (by omega) (by omega) (by omega)) (aliveF p.S + 1) 0 _ _ _ _ _ _ rfl rfl rfl (by omega)
        · (first | replace h42 := of_decide_eq_true h42 | replace h42 := of_decide_eq_false h42 | skip)
          refine w_ldc2 dX10_seen_45 cl10_206 ?_
          refine w_lret dX10_seen_48 rfl (by omega) ?_ ⟨Nat.le_refl _, Nat.le_refl _⟩
          exact (q_xl (KM.stay hI (by unfold seenR; ((repeat (first | rw [if_pos (by omega)] | rw [if_neg (by omega)])) <;> rfl))))
  · refine w_ldc2 dX10_seen_7 cl10_202 ?_
    refine w_lret dX10_seen_10 rfl (by omega) ?_ ⟨Nat.le_refl _, Nat.le_refl _⟩
    exact (q_xl (KM.stay hI (by unfold seenR; ((repeat (first | rw [if_pos (by omega)] | rw [if_neg (by omega)])) <;> rfl))))
