/-! ===== Chances ===== -/
def gcdK : Nat → Int → Int → Int
  | 0, x, _ => x
  | k + 1, x, y => if y = 0 then x else gcdK k y (x % y)
theorem gcdK_r : ∀ (k : Nat) (x y : Int), 0 ≤ x → x < 4611686018427387904 → 0 ≤ y → y < 4611686018427387904 → 0 ≤ gcdK k x y ∧ gcdK k x y < 4611686018427387904
  | 0, x, y, h1, h2, _, _ => ⟨h1, h2⟩
  | k + 1, x, y, h1, h2, h3, h4 => by
    rw [gcdK]
    split
    · exact ⟨h1, h2⟩
    · rename_i h
      have a := Int.emod_nonneg x h
      have b := Int.emod_lt_of_pos x (show 0 < y by omega)
      exact gcdK_r k y (x % y) h3 h4 a (by omega)
theorem l_X2_commonDivisor {E : EV} {M : MM} {a b : Int} {x9 : Option AV} :
    ∀ (k s : Nat) (z x y : Int) (x9 x10 : Option AV), z = s → s + k = 64 → 0 ≤ x → x < 4611686018427387904 → 0 ≤ y → y < 4611686018427387904 → Wp E mX2_commonDivisor (kd 0) 9 [some (vl a), none, some (vl b), none, some (vl x), none, some (vl y), none, some (vi z), x9, x10] [] N0 G0 M (Pl (gcdK k x y) M) := by
  intro k
  induction k with
  | zero =>
    intro s z x y x9 x10 hz hs h1 h2 h3 h4
    subst hz
    refine w_iload dX2_commonDivisor_9 rfl ?_
    refine w_bipush dX2_commonDivisor_11 (by decide +kernel) ?_
    refine w_icmp_ge (tgt := 44) dX2_commonDivisor_13 (by decide) (by omega) (by omega) (fun h13 => ?_) (fun h13 => ?_)
    · refine w_lload dX2_commonDivisor_44 rfl ?_
      refine w_lret dX2_commonDivisor_46 rfl (by omega) ?_ ⟨Nat.le_refl _, Nat.le_refl _⟩
      exact ⟨rfl, rfl, rfl, rfl⟩
    · exact absurd h13 (by omega)
  | succ k ih =>
    intro s z x y x9 x10 hz hs h1 h2 h3 h4
    subst hz
    refine w_iload dX2_commonDivisor_9 rfl ?_
    refine w_bipush dX2_commonDivisor_11 (by decide +kernel) ?_
    refine w_icmp_ge (tgt := 44) dX2_commonDivisor_13 (by decide) (by omega) (by omega) (fun h13 => ?_) (fun h13 => ?_)
    · refine w_lload dX2_commonDivisor_44 rfl ?_
      refine w_lret dX2_commonDivisor_46 rfl (by omega) ?_ ⟨Nat.le_refl _, Nat.le_refl _⟩
      first | exact absurd h13 (by omega) | exact ⟨by rw [gcdK, if_pos h20], rfl, rfl, rfl⟩
    · refine w_lload dX2_commonDivisor_16 rfl ?_
      refine w_lconst0 dX2_commonDivisor_18 ?_
      refine w_lcmp dX2_commonDivisor_19 (by omega) (by omega) ?_
      refine w_ifL_eq (tgt := 44) dX2_commonDivisor_20 (by decide) (fun h20 => ?_) (fun h20 => ?_)
      · refine w_lload dX2_commonDivisor_44 rfl ?_
        refine w_lret dX2_commonDivisor_46 rfl (by omega) ?_ ⟨Nat.le_refl _, Nat.le_refl _⟩
        first | exact absurd h13 (by omega) | exact ⟨by rw [gcdK, if_pos h20], rfl, rfl, rfl⟩
      · refine w_lload dX2_commonDivisor_23 rfl ?_
        refine w_lload dX2_commonDivisor_25 rfl ?_
        refine w_lrem dX2_commonDivisor_27 (by omega) (by omega) (by omega) (by omega) ?_
        refine w_lstore dX2_commonDivisor_28 (by decide) ?_
        refine w_lload dX2_commonDivisor_30 rfl ?_
        refine w_lstore dX2_commonDivisor_32 (by decide) ?_
        refine w_lload dX2_commonDivisor_34 rfl ?_
        refine w_lstore dX2_commonDivisor_36 (by decide) ?_
        refine w_iinc dX2_commonDivisor_38 rfl (by decide) ?_
        refine w_goto (tgt := 9) dX2_commonDivisor_41 (by decide) ?_
        rw [show gcdK (k + 1) x y = gcdK k y (x % y) from if_neg h20]
        have q1 := Int.emod_nonneg x h20
        have q2 := Int.emod_lt_of_pos x (show 0 < y by omega)
        exact ih (s + 1) _ _ _ _ _ (by omega) (by omega) h3 h4 q1 (by omega)
theorem c_X2_commonDivisor {E : EV} {M : MM} {a b : Int} (h1 : 0 ≤ a) (h2 : a < 4611686018427387904) (h3 : 0 ≤ b) (h4 : b < 4611686018427387904) : Cl E mX2_commonDivisor 0 [vl a, vl b] M (gcdK 64 a b) M := by
  refine Ct.of [some (vl a), none, some (vl b), none, none, none, none, none, none, none, none] rfl rfl rfl (Nat.le_of_ble_eq_true rfl) ?_
  refine w_lload_n dX2_commonDivisor_0 rfl ?_
  refine w_lstore dX2_commonDivisor_1 (by decide) ?_
  refine w_lload_n dX2_commonDivisor_3 rfl ?_
  refine w_lstore dX2_commonDivisor_4 (by decide) ?_
  refine w_iconst dX2_commonDivisor_6 ?_
  refine w_istore dX2_commonDivisor_7 (by decide) ?_
  exact l_X2_commonDivisor (x9 := none) 64 0 _ _ _ _ _ rfl (by omega) h1 h2 h3 h4
def csF (p : Int) : Nat → Nat → Int
  | 0, j => if j = 0 then 1 else 0
  | m + 1, j => csF p m j * (10 - p) + (if j = 0 then 0 else csF p m (j - 1) * p)
theorem mulr {x p : Int} {B : Int} (h1 : 0 ≤ x) (h2 : x ≤ B) (h3 : 0 ≤ p) (h4 : p ≤ 10) : 0 ≤ x * p ∧ x * p ≤ B * 10 :=
  ⟨Int.mul_nonneg h1 h3, Int.mul_le_mul h2 h4 h3 (by omega)⟩
theorem csF_r {p : Int} (h0 : 0 ≤ p) (h1 : p ≤ 10) : ∀ (m j : Nat), 0 ≤ csF p m j ∧ csF p m j ≤ (20 ^ m : Nat)
  | 0, j => by rw [csF]; split <;> simp
  | m + 1, j => by
    have a := csF_r h0 h1 m j
    have b := csF_r h0 h1 m (j - 1)
    have a2 := mulr a.1 a.2 (show 0 ≤ 10 - p by omega) (show 10 - p ≤ 10 by omega)
    have b2 := mulr b.1 b.2 h0 h1
    rw [csF, Nat.pow_succ]
    split <;> omega
theorem csF_r5 {p : Int} (h0 : 0 ≤ p) (h1 : p ≤ 10) {m : Nat} (hm : m ≤ 5) (j : Nat) : 0 ≤ csF p m j ∧ csF p m j ≤ 3200000 := by
  have := csF_r h0 h1 m j
  have h2 : 20 ^ m ≤ 20 ^ 5 := Nat.pow_le_pow_right (by decide) hm
  omega
def wbF (m : Nat) : Int := ((10 ^ m : Nat) : Int)
def waF (p : Int) (m k : Nat) : Int := sumI (6 - k) (fun t => csF p m (k + t))
def wgG (p : Int) (m k : Nat) : Int := gcdK 64 (wbF m) (waF p m k)
/-- nothing but the two cells of the chances has changed -/
def FrC (M m : MM) : Prop := ∀ i : Nat, i ≠ 220 → i ≠ 221 → m i = M i
theorem FrC.up {M m : MM} {b : Nat} {j v : Int} (h : FrC M m) (hb : b = 220 ∨ b = 221) : FrC M (upM m b j v) := fun i h1 h2 => by
  rw [← h i h1 h2]
  exact upM_cell (by omega)
theorem l_X2_w1 {E : EV} {M : MM} {n9 k9 p9 : Int} {Q : PP} (hQ : ∀ m, FrC M m → m 220 1 = 1 → (∀ j : Nat, j < 6 → m 221 (j : Int) = csF p9 0 j) → Wp E mX2_weigh (kd 1) 37 [some (vr 220), some (vi n9), some (vi k9), some (vi p9), some (vi 6), none, none, none] [] N0 G0 m Q) :
    ∀ (k c : Nat) (z : Int) (m : MM), z = c → c ≤ 6 → 6 - c < k → FrC M m → m 220 1 = 1 → (∀ j : Nat, j < c → m 221 (j : Int) = csF p9 0 j) → Wp E mX2_weigh (kd 1) 8 [some (vr 220), some (vi n9), some (vi k9), some (vi p9), some (vi z), none, none, none] [] N0 G0 m Q := by
  intro k
  induction k with
  | zero => intro c z m hz hc hk; exact absurd hk (by omega)
  | succ k ih =>
    intro c z m hz hc hk hF h1 hj
    subst hz
    have step : ∀ v : Int, v = csF p9 0 c → ∀ j : Nat, j < c + 1 → upM m 221 (c : Int) v 221 (j : Int) = csF p9 0 j := fun v hv j hj2 => by
      by_cases e : j = c
      · subst e; rw [upM_same]; exact hv
      · rw [upM_ne (fun w => e (by omega))]; exact hj j (by omega)
    refine w_iload dX2_weigh_8 rfl ?_
    refine w_iconst dX2_weigh_10 ?_
    refine w_icmp_gt (tgt := 37) dX2_weigh_11 (by decide) (by omega) (by omega) (fun h11 => ?_) (fun h11 => ?_)
    · have ec : c = 6 := by omega
      subst ec
      exact hQ m hF h1 hj
    · refine w_aload_n dX2_weigh_14 rfl ?_
      refine w_getR (r := 221) dX2_weigh_15 fl2_9 g0_220 (by decide) rfl ?_
      refine w_iload dX2_weigh_18 rfl ?_
      refine w_iload dX2_weigh_20 rfl ?_
      refine w_if_ne (tgt := 29) dX2_weigh_22 (by decide) (by omega) (fun h22 => ?_) (fun h22 => ?_)
      · refine w_lconst0 dX2_weigh_29 ?_
        refine r_lst dX2_weigh_30 g0_221 (by decide) (by omega) (by omega) (by omega) (by decide) ?_
        refine w_iinc dX2_weigh_31 rfl (by decide) ?_
        refine w_goto (tgt := 8) dX2_weigh_34 (by decide) ?_
        first | exact ih (c + 1) _ _ (by omega) (by omega) (by omega) (hF.up (by omega)) (by rw [upM_cell (by omega)]; exact h1) (step _ (by rw [csF, if_pos (by omega)])) | exact ih (c + 1) _ _ (by omega) (by omega) (by omega) (hF.up (by omega)) (by rw [upM_cell (by omega)]; exact h1) (step _ (by rw [csF, if_neg (by omega)]))
      · refine w_lconst1 dX2_weigh_25 ?_
        refine w_goto (tgt := 30) dX2_weigh_26 (by decide) ?_
        refine r_lst dX2_weigh_30 g0_221 (by decide) (by omega) (by omega) (by omega) (by decide) ?_
        refine w_iinc dX2_weigh_31 rfl (by decide) ?_
        refine w_goto (tgt := 8) dX2_weigh_34 (by decide) ?_
        first | exact ih (c + 1) _ _ (by omega) (by omega) (by omega) (hF.up (by omega)) (by rw [upM_cell (by omega)]; exact h1) (step _ (by rw [csF, if_pos (by omega)])) | exact ih (c + 1) _ _ (by omega) (by omega) (by omega) (hF.up (by omega)) (by rw [upM_cell (by omega)]; exact h1) (step _ (by rw [csF, if_neg (by omega)]))
theorem l_X2_w3 {E : EV} {M : MM} {n9 k9 p : Int} {c : Nat} {Q : PP} (p0 : 0 ≤ p) (p1 : p ≤ 10) (hc : c < 5) (hQ : ∀ (m : MM) (y6 : Int), FrC M m → m 220 1 = wbF (c + 1) → (∀ j : Nat, j < 6 → m 221 (j : Int) = csF p (c + 1) j) → Wp E mX2_weigh (kd 1) 118 [some (vr 220), some (vi n9), some (vi k9), some (vi p), some (vi (c : Int)), some (vi (-1)), some (vl y6), none] [] N0 G0 m Q) :
    ∀ (k i : Nat) (z : Int) (m : MM) (x6 : Option AV), z = (i : Int) - 1 → i ≤ 6 → i < k → FrC M m → m 220 1 = wbF (c + 1) → (∀ j : Nat, j < 6 → m 221 (j : Int) = if j < i then csF p c j else csF p (c + 1) j) → (i = 0 → ∃ y6, x6 = some (vl y6)) → Wp E mX2_weigh (kd 1) 61 [some (vr 220), some (vi n9), some (vi k9), some (vi p), some (vi (c : Int)), some (vi z), x6, none] [] N0 G0 m Q := by
  intro k
  induction k with
  | zero => intro i z m x6 hz hi hk; exact absurd hk (by omega)
  | succ k ih =>
    intro i z m x6 hz hi hk hF h1 hj hx
    subst hz
    have r1 : ∀ j, 0 ≤ csF p c j ∧ csF p c j ≤ 3200000 := csF_r5 p0 p1 (by omega)
    have e1 : 1 ≤ i → m 221 ((i : Int) - 1) = csF p c (i - 1) := fun h => by
      have := hj (i - 1) (by omega)
      rw [if_pos (by omega), show ((i - 1 : Nat) : Int) = (i : Int) - 1 by omega] at this
      exact this
    have e2 : 2 ≤ i → m 221 ((i : Int) - 1 - 1) = csF p c (i - 1 - 1) := fun h => by
      have := hj (i - 1 - 1) (by omega)
      rw [if_pos (by omega), show ((i - 1 - 1 : Nat) : Int) = (i : Int) - 1 - 1 by omega] at this
      exact this
    have b1 := mulr (r1 (i - 1)).1 (r1 (i - 1)).2 (show 0 ≤ 10 - p by omega) (show 10 - p ≤ 10 by omega)
    have b2 := mulr (r1 (i - 1 - 1)).1 (r1 (i - 1 - 1)).2 p0 p1
    have step : ∀ v : Int, 1 ≤ i → v = csF p (c + 1) (i - 1) → ∀ j : Nat, j < 6 → upM m 221 ((i : Int) - 1) v 221 (j : Int) = if j < i - 1 then csF p c j else csF p (c + 1) j := fun v h9 hv j hj2 => by
      by_cases e : j = i - 1
      · subst e; rw [show ((i - 1 : Nat) : Int) = (i : Int) - 1 by omega, upM_same, if_neg (by omega)]; exact hv
      · rw [upM_ne (fun w => e (by omega)), hj j hj2]
        by_cases h8 : j < i
        · rw [if_pos h8, if_pos (by omega)]
        · rw [if_neg h8, if_neg (by omega)]
    refine w_iload dX2_weigh_61 rfl ?_
    refine w_if_lt (tgt := 118) dX2_weigh_63 (by decide) (by omega) (fun h63 => ?_) (fun h63 => ?_)
    · have ei : i = 0 := by omega
      subst ei
      obtain ⟨y6, rfl⟩ := hx rfl
      exact hQ m y6 hF h1 (fun j hj2 => by rw [hj j hj2, if_neg (by omega)])
    · refine w_iload dX2_weigh_66 rfl ?_
      refine w_if_le (tgt := 86) dX2_weigh_68 (by decide) (by omega) (fun h68 => ?_) (fun h68 => ?_)
      · refine w_lconst0 dX2_weigh_86 ?_
        refine w_lstore dX2_weigh_87 (by decide) ?_
        refine w_aload_n dX2_weigh_89 rfl ?_
        refine w_getR (r := 221) dX2_weigh_90 fl2_9 g0_220 (by decide) rfl ?_
        refine w_iload dX2_weigh_93 rfl ?_
        refine w_aload_n dX2_weigh_95 rfl ?_
        refine w_getR (r := 221) dX2_weigh_96 fl2_9 g0_220 (by decide) rfl ?_
        refine w_iload dX2_weigh_99 rfl ?_
        refine r_lld dX2_weigh_101 g0_221 (by decide) (by omega) (by omega) (by decide) (fun r101 => ?_)
        refine w_bipush dX2_weigh_102 (by decide +kernel) ?_
        refine w_iload_n dX2_weigh_104 rfl ?_
        refine w_isub dX2_weigh_105 ?_
        refine w_i2l dX2_weigh_106 (by omega) ?_
        refine w_lmul dX2_weigh_107 ?_
        refine w_lload dX2_weigh_108 rfl ?_
        refine w_ladd dX2_weigh_110 ?_
        refine r_lst dX2_weigh_111 g0_221 (by decide) (by omega) (by omega) (by rw [e1 (by omega)]; first | (rw [e2 (by omega)]; omega) | omega) (by decide) ?_
        refine w_iinc dX2_weigh_112 rfl (by decide) ?_
        refine w_goto (tgt := 61) dX2_weigh_115 (by decide) ?_
        first | exact ih (i - 1) _ _ _ (by omega) (by omega) (by omega) (hF.up (by omega)) (by rw [upM_cell (by omega)]; exact h1) (step _ (by omega) (by rw [e1 (by omega), e2 (by omega), csF, if_neg (by omega)])) (fun _ => ⟨_, rfl⟩) | exact ih (i - 1) _ _ _ (by omega) (by omega) (by omega) (hF.up (by omega)) (by rw [upM_cell (by omega)]; exact h1) (step _ (by omega) (by rw [e1 (by omega), csF, if_pos (by omega)])) (fun _ => ⟨_, rfl⟩)
      · refine w_aload_n dX2_weigh_71 rfl ?_
        refine w_getR (r := 221) dX2_weigh_72 fl2_9 g0_220 (by decide) rfl ?_
        refine w_iload dX2_weigh_75 rfl ?_
        refine w_iconst dX2_weigh_77 ?_
        refine w_isub dX2_weigh_78 ?_
        refine r_lld dX2_weigh_79 g0_221 (by decide) (by omega) (by omega) (by decide) (fun r79 => ?_)
        refine w_iload_n dX2_weigh_80 rfl ?_
        refine w_i2l dX2_weigh_81 (by omega) ?_
        refine w_lmul dX2_weigh_82 ?_
        refine w_goto (tgt := 87) dX2_weigh_83 (by decide) ?_
        refine w_lstore dX2_weigh_87 (by decide) ?_
        refine w_aload_n dX2_weigh_89 rfl ?_
        refine w_getR (r := 221) dX2_weigh_90 fl2_9 g0_220 (by decide) rfl ?_
        refine w_iload dX2_weigh_93 rfl ?_
        refine w_aload_n dX2_weigh_95 rfl ?_
        refine w_getR (r := 221) dX2_weigh_96 fl2_9 g0_220 (by decide) rfl ?_
        refine w_iload dX2_weigh_99 rfl ?_
        refine r_lld dX2_weigh_101 g0_221 (by decide) (by omega) (by omega) (by decide) (fun r101 => ?_)
        refine w_bipush dX2_weigh_102 (by decide +kernel) ?_
        refine w_iload_n dX2_weigh_104 rfl ?_
        refine w_isub dX2_weigh_105 ?_
        refine w_i2l dX2_weigh_106 (by omega) ?_
        refine w_lmul dX2_weigh_107 ?_
        refine w_lload dX2_weigh_108 rfl ?_
        refine w_ladd dX2_weigh_110 ?_
        refine r_lst dX2_weigh_111 g0_221 (by decide) (by omega) (by omega) (by rw [e1 (by omega)]; first | (rw [e2 (by omega)]; omega) | omega) (by decide) ?_
        refine w_iinc dX2_weigh_112 rfl (by decide) ?_
        refine w_goto (tgt := 61) dX2_weigh_115 (by decide) ?_
        first | exact ih (i - 1) _ _ _ (by omega) (by omega) (by omega) (hF.up (by omega)) (by rw [upM_cell (by omega)]; exact h1) (step _ (by omega) (by rw [e1 (by omega), e2 (by omega), csF, if_neg (by omega)])) (fun _ => ⟨_, rfl⟩) | exact ih (i - 1) _ _ _ (by omega) (by omega) (by omega) (hF.up (by omega)) (by rw [upM_cell (by omega)]; exact h1) (step _ (by omega) (by rw [e1 (by omega), csF, if_pos (by omega)])) (fun _ => ⟨_, rfl⟩)
theorem wbF_r {m : Nat} (h : m ≤ 6) : 1 ≤ wbF m ∧ wbF m ≤ 1000000 := by
  unfold wbF
  have h1 : 10 ^ m ≤ 10 ^ 6 := Nat.pow_le_pow_right (by decide) h
  have h2 : 0 < 10 ^ m := Nat.pow_pos (by decide)
  omega
theorem wbF_s (m : Nat) : wbF (m + 1) = wbF m * 10 := by
  unfold wbF
  rw [Nat.pow_succ]
  omega
theorem l_X2_w2 {E : EV} {M : MM} {k9 p : Int} {n : Nat} {Q : PP} (p0 : 0 ≤ p) (p1 : p ≤ 10) (hn : n ≤ 5) (hQ : ∀ (m : MM) (x5 x6 : Option AV), FrC M m → m 220 1 = wbF n → (∀ j : Nat, j < 6 → m 221 (j : Int) = csF p n j) → Wp E mX2_weigh (kd 1) 124 [some (vr 220), some (vi (n : Int)), some (vi k9), some (vi p), some (vi (n : Int)), x5, x6, none] [] N0 G0 m Q) :
    ∀ (k c : Nat) (z : Int) (m : MM) (x5 x6 : Option AV), z = c → c ≤ n → n - c < k → FrC M m → m 220 1 = wbF c → (∀ j : Nat, j < 6 → m 221 (j : Int) = csF p c j) → Wp E mX2_weigh (kd 1) 40 [some (vr 220), some (vi (n : Int)), some (vi k9), some (vi p), some (vi z), x5, x6, none] [] N0 G0 m Q := by
  intro k
  induction k with
  | zero => intro c z m x5 x6 hz hc hk; exact absurd hk (by omega)
  | succ k ih =>
    intro c z m x5 x6 hz hc hk hF h1 hj
    subst hz
    have hb := wbF_r (m := c) (by omega)
    have hs := wbF_s c
    refine w_iload dX2_weigh_40 rfl ?_
    refine w_iload_n dX2_weigh_42 rfl ?_
    refine w_icmp_ge (tgt := 124) dX2_weigh_43 (by decide) (by omega) (by omega) (fun h43 => ?_) (fun h43 => ?_)
    · have ec : c = n := by omega
      subst ec
      exact hQ m x5 x6 hF h1 hj
    · refine w_aload_n dX2_weigh_46 rfl ?_
      refine w_dup dX2_weigh_47 rfl ?_
      refine r_getL (q := 1) dX2_weigh_48 fl2_15 g0_220 (by decide) rfl rfl (fun r48 => ?_)
      refine w_ldc2 dX2_weigh_51 cl2_19 ?_
      refine w_lmul dX2_weigh_54 ?_
      refine r_putL (q := 1) dX2_weigh_55 fl2_15 g0_220 (by decide) rfl rfl (by rw [h1]; omega) rfl (by decide +kernel) rfl ?_
      refine w_iconst dX2_weigh_58 ?_
      refine w_istore dX2_weigh_59 (by decide) ?_
      refine l_X2_w3 (c := c) p0 p1 (by omega) (fun m2 y6 g1 g2 g3 => ?_) 7 6 _ _ _ (by omega) (by omega) (by omega) (hF.up (by omega)) (by rw [upM_same, h1, hs]) (fun j hj2 => by rw [if_pos hj2, upM_cell (by omega)]; exact hj j hj2) (fun h => by omega)
      refine w_iinc dX2_weigh_118 rfl (by decide) ?_
      refine w_goto (tgt := 40) dX2_weigh_121 (by decide) ?_
      exact ih (c + 1) _ _ _ _ (by omega) (by omega) (by omega) g1 g2 g3
theorem l_X2_w4 {E : EV} {M : MM} {p n9 : Int} {n : Nat} {k9 : Nat} {Q : PP} (p0 : 0 ≤ p) (p1 : p ≤ 10) (hn : n ≤ 5) (hk9 : k9 ≤ 5) (hQ : ∀ (m : MM) (x5 x6 : Option AV), FrC M m → m 220 1 = wbF n → m 220 0 = waF p n k9 → Wp E mX2_weigh (kd 1) 160 [some (vr 220), some (vi n9), some (vi (k9 : Int)), some (vi p), some (vi 6), x5, x6, none] [] N0 G0 m Q) :
    ∀ (k c : Nat) (z : Int) (m : MM) (x5 x6 : Option AV), z = (k9 : Int) + c → k9 + c ≤ 6 → 6 - c < k → FrC M m → m 220 1 = wbF n → m 220 0 = sumI c (fun t => csF p n (k9 + t)) → (∀ j : Nat, j < 6 → m 221 (j : Int) = csF p n j) → Wp E mX2_weigh (kd 1) 132 [some (vr 220), some (vi n9), some (vi (k9 : Int)), some (vi p), some (vi z), x5, x6, none] [] N0 G0 m Q := by
  intro k
  induction k with
  | zero => intro c z m x5 x6 hz hc hk; exact absurd hk (by omega)
  | succ k ih =>
    intro c z m x5 x6 hz hc hk hF h1 h2 hj
    subst hz
    have hle := sumI_le (n := c) (g := fun t => csF p n (k9 + t)) (B := 3200000) (fun i hi => csF_r5 p0 p1 hn _)
    have r9 := csF_r5 p0 p1 hn (k9 + c)
    have e1 : k9 + c < 6 → m 221 ((k9 : Int) + c) = csF p n (k9 + c) := fun h => by
      have := hj (k9 + c) h
      rw [show ((k9 + c : Nat) : Int) = (k9 : Int) + c by omega] at this
      exact this
    refine w_iload dX2_weigh_132 rfl ?_
    refine w_iconst dX2_weigh_134 ?_
    refine w_icmp_gt (tgt := 160) dX2_weigh_135 (by decide) (by omega) (by omega) (fun h135 => ?_) (fun h135 => ?_)
    · have ec : 6 - k9 = c := by omega
      rw [show (k9 : Int) + c = 6 by omega]
      exact hQ m x5 x6 hF h1 (by rw [h2]; unfold waF; rw [ec])
    · refine w_aload_n dX2_weigh_138 rfl ?_
      refine w_dup dX2_weigh_139 rfl ?_
      refine r_getL (q := 0) dX2_weigh_140 fl2_21 g0_220 (by decide) rfl rfl (fun r140 => ?_)
      refine w_aload_n dX2_weigh_143 rfl ?_
      refine w_getR (r := 221) dX2_weigh_144 fl2_9 g0_220 (by decide) rfl ?_
      refine w_iload dX2_weigh_147 rfl ?_
      refine r_lld dX2_weigh_149 g0_221 (by decide) (by omega) (by omega) (by decide) (fun r149 => ?_)
      refine w_ladd dX2_weigh_150 ?_
      refine r_putL (q := 0) dX2_weigh_151 fl2_21 g0_220 (by decide) rfl rfl (by rw [h2, e1 (by omega)]; omega) rfl (by decide +kernel) rfl ?_
      refine w_iinc dX2_weigh_154 rfl (by decide) ?_
      refine w_goto (tgt := 132) dX2_weigh_157 (by decide) ?_
      exact ih (c + 1) _ _ _ _ (by omega) (by omega) (by omega) (hF.up (by omega)) (by rw [upM_ne (by omega)]; exact h1) (by rw [upM_same, h2, e1 (by omega), sumI]) (fun j hj2 => by rw [upM_cell (by omega)]; exact hj j hj2)
theorem waF_r {p : Int} (p0 : 0 ≤ p) (p1 : p ≤ 10) {n k : Nat} (hn : n ≤ 5) : 0 ≤ waF p n k ∧ waF p n k ≤ 19200000 := by
  have hle := sumI_le (n := 6 - k) (g := fun t => csF p n (k + t)) (B := 3200000) (fun i hi => csF_r5 p0 p1 hn _)
  unfold waF
  omega
def wqA (p : Int) (n k : Nat) : Int := if 1 < wgG p n k then waF p n k / wgG p n k else waF p n k
def wqB (p : Int) (n k : Nat) : Int := if 1 < wgG p n k then wbF n / wgG p n k else wbF n
theorem t_X2_weigh {E : EV} {M m : MM} {p n9 : Int} {n k : Nat} {x5 x6 : Option AV} (p0 : 0 ≤ p) (p1 : p ≤ 10) (hn : n ≤ 5) (hk : k ≤ 5) (g1 : FrC M m) (g2 : m 220 1 = wbF n) (g3 : m 220 0 = waF p n k) : Wp E mX2_weigh (kd 1) 160 [some (vr 220), some (vi n9), some (vi (k : Int)), some (vi p), some (vi 6), x5, x6, none] [] N0 G0 m (Pxv (fun m => m 220 0 = wqA p n k ∧ m 220 1 = wqB p n k ∧ FrC M m)) := by
  have ra := waF_r p0 p1 (k := k) hn
  have rb := wbF_r (m := n) (by omega)
  have rg := gcdK_r 64 (wbF n) (waF p n k) (by omega) (by omega) (by omega) (by omega)
  have d1 : 1 < wgG p n k → 0 ≤ waF p n k / wgG p n k ∧ waF p n k / wgG p n k ≤ waF p n k := fun h => ⟨Int.ediv_nonneg (by omega) (by omega), Int.ediv_le_self _ (by omega)⟩
  have d2 : 1 < wgG p n k → 0 ≤ wbF n / wgG p n k ∧ wbF n / wgG p n k ≤ wbF n := fun h => ⟨Int.ediv_nonneg (by omega) (by omega), Int.ediv_le_self _ (by omega)⟩
  have eg : wgG p n k = gcdK 64 (wbF n) (waF p n k) := rfl
  refine w_aload_n dX2_weigh_160 rfl ?_
  refine r_getL (q := 1) dX2_weigh_161 fl2_15 g0_220 (by decide) rfl rfl (fun r161 => ?_)
  refine w_aload_n dX2_weigh_164 rfl ?_
  refine r_getL (q := 0) dX2_weigh_165 fl2_21 g0_220 (by decide) rfl rfl (fun r165 => ?_)
  refine cSl dX2_weigh_168 ok_X2_commonDivisor (Or.inl ls2_24) (c_X2_commonDivisor (by omega) (by omega) (by omega) (by omega)) rfl  rfl (by decide) (Nat.le_of_ble_eq_true rfl) (fun r168 => ?_)
  rw [g2, g3]
  refine w_lstore dX2_weigh_171 (by decide) ?_
  refine w_lload dX2_weigh_173 rfl ?_
  refine w_lconst1 dX2_weigh_175 ?_
  refine w_lcmp dX2_weigh_176 (by omega) (by omega) ?_
  refine w_ifL_le (tgt := 202) dX2_weigh_177 (by decide) (fun h177 => ?_) (fun h177 => ?_)
  · refine w_vret dX2_weigh_202 rfl ?_ ⟨Nat.le_refl _, Nat.le_refl _⟩
    first | exact q_xv ⟨by rw [upM_ne (by omega), f1]; unfold wqA; rw [if_pos (by omega)], by rw [upM_same]; unfold wqB; rw [if_pos (by omega)]; rfl, f3.up (by omega)⟩ | exact q_xv ⟨by rw [g3]; unfold wqA; rw [if_neg (by omega)], by rw [g2]; unfold wqB; rw [if_neg (by omega)], g1⟩
  · refine w_aload_n dX2_weigh_180 rfl ?_
    refine w_dup dX2_weigh_181 rfl ?_
    refine r_getL (q := 0) dX2_weigh_182 fl2_21 g0_220 (by decide) rfl rfl (fun r182 => ?_)
    refine w_lload dX2_weigh_185 rfl ?_
    rw [g3]
    refine w_ldiv dX2_weigh_187 (by omega) (by omega) (by omega) (by omega) ?_
    refine r_putL (q := 0) dX2_weigh_188 fl2_21 g0_220 (by decide) rfl rfl (by have := d1 (by omega); rw [eg] at this; omega) rfl (by decide +kernel) rfl ?_
    refine wgen (fun m2 => m2 220 0 = waF p n k / wgG p n k ∧ m2 220 1 = wbF n ∧ FrC M m2) ⟨by rw [upM_same]; rfl, by rw [upM_ne (by omega)]; exact g2, g1.up (by omega)⟩ (fun m2 hm2 => ?_)
    obtain ⟨f1, f2, f3⟩ := hm2
    have hd2 := d2 (by omega)
    refine w_aload_n dX2_weigh_191 rfl ?_
    refine w_dup dX2_weigh_192 rfl ?_
    refine r_getL (q := 1) dX2_weigh_193 fl2_15 g0_220 (by decide) rfl rfl (fun r193 => ?_)
    refine w_lload dX2_weigh_196 rfl ?_
    rw [f2]
    refine w_ldiv dX2_weigh_198 (by omega) (by omega) (by omega) (by omega) ?_
    refine r_putL (q := 1) dX2_weigh_199 fl2_15 g0_220 (by decide) rfl rfl (by rw [eg] at hd2; omega) rfl (by decide +kernel) rfl ?_
    refine w_vret dX2_weigh_202 rfl ?_ ⟨Nat.le_refl _, Nat.le_refl _⟩
    first | exact q_xv ⟨by rw [upM_ne (by omega), f1]; unfold wqA; rw [if_pos (by omega)], by rw [upM_same]; unfold wqB; rw [if_pos (by omega)]; rfl, f3.up (by omega)⟩ | exact q_xv ⟨by rw [g3]; unfold wqA; rw [if_neg (by omega)], by rw [g2]; unfold wqB; rw [if_neg (by omega)], g1⟩
theorem c_X2_weigh {E : EV} {M : MM} {p : Int} {n k : Nat} (p0 : 0 ≤ p) (p1 : p ≤ 10) (hn : n ≤ 5) (hk : k ≤ 5) : Cxv E mX2_weigh 1 [vr 220, vi (n : Int), vi (k : Int), vi p] M (fun m => m 220 0 = wqA p n k ∧ m 220 1 = wqB p n k ∧ FrC M m) := by
  refine Ct.of [some (vr 220), some (vi (n : Int)), some (vi (k : Int)), some (vi p), none, none, none, none] rfl rfl rfl (Nat.le_of_ble_eq_true rfl) ?_
  have ra := waF_r p0 p1 (k := k) hn
  have rb := wbF_r (m := n) (by omega)
  have rg := gcdK_r 64 (wbF n) (waF p n k) (by omega) (by omega) (by omega) (by omega)
  have hF0 : FrC M M := fun _ _ _ => rfl
  refine w_aload_n dX2_weigh_0 rfl ?_
  refine w_lconst1 dX2_weigh_1 ?_
  refine r_putL (q := 1) dX2_weigh_2 fl2_15 g0_220 (by decide) rfl rfl (by omega) rfl (by decide +kernel) rfl ?_
  refine w_iconst dX2_weigh_5 ?_
  refine w_istore dX2_weigh_6 (by decide) ?_
  refine l_X2_w1 (M := M) (fun m g1 g2 g3 => ?_) 7 0 _ _ rfl (by omega) (by omega) (hF0.up (by omega)) (by rw [upM_same]) (fun j hj => by omega)
  refine w_iconst dX2_weigh_37 ?_
  refine w_istore dX2_weigh_38 (by decide) ?_
  refine l_X2_w2 (M := M) p0 p1 hn (fun m x5 x6 g1 g2 g3 => ?_) (n + 1) 0 _ _ _ _ rfl (by omega) (by omega) g1 g2 g3
  refine w_aload_n dX2_weigh_124 rfl ?_
  refine w_lconst0 dX2_weigh_125 ?_
  refine r_putL (q := 0) dX2_weigh_126 fl2_21 g0_220 (by decide) rfl rfl (by omega) rfl (by decide +kernel) rfl ?_
  refine w_iload_n dX2_weigh_129 rfl ?_
  refine w_istore dX2_weigh_130 (by decide) ?_
  refine l_X2_w4 (M := M) p0 p1 hn hk (fun m x5 x6 g1 g2 g3 => ?_) 7 0 _ _ _ _ (by omega) (by omega) (by omega) (g1.up (by omega)) (by rw [upM_ne (by omega)]; exact g2) (by rw [upM_same]; rfl) (fun j hj => by rw [upM_cell (by omega)]; exact g3 j hj)
  exact t_X2_weigh p0 p1 hn hk g1 g2 g3
