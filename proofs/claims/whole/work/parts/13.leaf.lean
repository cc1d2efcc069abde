/-! ===== tools of the walks ===== -/
section Tools
variable {E : EV} {X : MD} {k : KK} {pc : Nat} {ls : LV} {st : List AV} {n : Nat} {G : GG} {M : MM} {Q : PP}
theorem r_ild {a : Nat} {z N : Int} (hd : decode (mB X) pc = .ok (.iaload, 1)) (hg : G a = (0, [N])) (ha : a < n) (h0 : 0 ≤ z) (h1 : z < N) (hN : N < 2147483648) (h : R32 (M a z) → Wp E X k (pc + 1) ls (vi (M a z) :: st) n G M Q) : Wp E X k pc ls (vi z :: vr a :: st) n G M Q := w_iald hd hg ha h0 h1 hN h
theorem r_lld {a : Nat} {z N : Int} (hd : decode (mB X) pc = .ok (.laload, 1)) (hg : G a = (1, [N])) (ha : a < n) (h0 : 0 ≤ z) (h1 : z < N) (hN : N < 2147483648) (h : R64 (M a z) → Wp E X k (pc + 1) ls (vl (M a z) :: st) n G M Q) : Wp E X k pc ls (vi z :: vr a :: st) n G M Q := w_lald hd hg ha h0 h1 hN h
theorem r_ist {a : Nat} {z v N : Int} (hd : decode (mB X) pc = .ok (.iastore, 1)) (hg : G a = (0, [N])) (ha : a < n) (h0 : 0 ≤ z) (h1 : z < N) (hv : R32 v) (hN : N < 2147483648) (h : Wp E X k (pc + 1) ls st n G (upM M a z v) Q) : Wp E X k pc ls (vi v :: vi z :: vr a :: st) n G M Q := w_iast hd hg ha h0 h1 hv hN h
theorem r_lst {a : Nat} {z v N : Int} (hd : decode (mB X) pc = .ok (.lastore, 1)) (hg : G a = (1, [N])) (ha : a < n) (h0 : 0 ≤ z) (h1 : z < N) (hv : R64 v) (hN : N < 2147483648) (h : Wp E X k (pc + 1) ls st n G (upM M a z v) Q) : Wp E X k pc ls (vl v :: vi z :: vr a :: st) n G M Q := w_last hd hg ha h0 h1 hv hN h
theorem r_copy {i a b : Nat} {sp dp z N N' : Int} (hd : decode (mB X) pc = .ok (.invokestatic i, 3)) (hw : Cond.methodLink (RR (mO X)) i arraycopyName ∈ wG) (hga : G a = (0, [N])) (hgb : G b = (0, [N'])) (ha : a < N0) (hb : b < N0) (h1 : 0 ≤ sp) (h2 : 0 ≤ dp) (h3 : 0 ≤ z) (h4 : sp + z ≤ N) (h5 : dp + z ≤ N') (hz : N < 2147483648) (hz2 : N' < 2147483648) (hk : 1 ≤ k.1) (hst : scat st ≤ 8)
    (h : Wp E X k (pc + 3) ls st N0 G (cpM M a b sp dp z) Q) : Wp E X k pc ls (vi z :: vi dp :: vr b :: vi sp :: vr a :: st) N0 G M Q := w_copy hd hw acp hga hgb ha hb (by decide) h1 h2 h3 h4 h5 hz hz2 hk hst h
theorem r_getI {i ci j a : Nat} {q : Int} {fs : List Int} (hd : decode (mB X) pc = .ok (.getfield i, 3)) (hl : FLk (mO X) i ci j) (hg : G a = (ci + 4, fs)) (ha : a < n) (hf : fs[j]? = some (-1)) (h6 : ci ≠ 2) (hq : (j : Int) = q) (h : R32 (M a q) → Wp E X k (pc + 3) ls (vi (M a q) :: st) n G M Q) : Wp E X k pc ls (vr a :: st) n G M Q := by
  subst hq; exact w_getI hd hl hg ha hf h6 h
theorem r_getL {i ci j a : Nat} {q : Int} {fs : List Int} (hd : decode (mB X) pc = .ok (.getfield i, 3)) (hl : FLk (mO X) i ci j) (hg : G a = (ci + 4, fs)) (ha : a < n) (hf : fs[j]? = some (-2)) (hq : (j : Int) = q) (h : R64 (M a q) → Wp E X k (pc + 3) ls (vl (M a q) :: st) n G M Q) : Wp E X k pc ls (vr a :: st) n G M Q := by
  subst hq; exact w_getL hd hl hg ha hf h
theorem r_putI {i ci j a : Nat} {q v : Int} {fs : List Int} (hd : decode (mB X) pc = .ok (.putfield i, 3)) (hl : FLk (mO X) i ci j) (hg : G a = (ci + 4, fs)) (ha : a < n) (hf : fs[j]? = some (-1)) (h6 : ci ≠ 2) (hv : R32 v) (hz1 : (TT ci j).2.2.2 = false) (hz2 : parseFieldDescriptor (TT ci j).2.2.1 = some .int) (hq : (j : Int) = q) (h : Wp E X k (pc + 3) ls st n G (upM M a q v) Q) : Wp E X k pc ls (vi v :: vr a :: st) n G M Q := by
  subst hq; exact w_putI hd hl hg ha hf h6 hv hz1 hz2 h
theorem r_putZ {i ci j a : Nat} {q v : Int} {fs : List Int} (hd : decode (mB X) pc = .ok (.putfield i, 3)) (hl : FLk (mO X) i ci j) (hg : G a = (ci + 4, fs)) (ha : a < n) (hf : fs[j]? = some (-1)) (h6 : ci ≠ 2) (hv : v = 0 ∨ v = 1) (hz1 : (TT ci j).2.2.2 = false) (hz2 : parseFieldDescriptor (TT ci j).2.2.1 = some .boolean) (hq : (j : Int) = q) (h : Wp E X k (pc + 3) ls st n G (upM M a q v) Q) : Wp E X k pc ls (vi v :: vr a :: st) n G M Q := by
  subst hq; exact w_putZ hd hl hg ha hf h6 hv hz1 hz2 h
theorem r_putL {i ci j a : Nat} {q v : Int} {fs : List Int} (hd : decode (mB X) pc = .ok (.putfield i, 3)) (hl : FLk (mO X) i ci j) (hg : G a = (ci + 4, fs)) (ha : a < n) (hf : fs[j]? = some (-2)) (h6 : ci = 2) (hv : R64 v) (hz1 : (TT ci j).2.2.2 = false) (hz2 : parseFieldDescriptor (TT ci j).2.2.1 = some .long) (hq : (j : Int) = q) (h : Wp E X k (pc + 3) ls st n G (upM M a q v) Q) : Wp E X k pc ls (vl v :: vr a :: st) n G M Q := by
  subst hq; exact w_putL hd hl hg ha hf h6 hv hz1 hz2 h
end Tools
theorem sk_g0 {a : Nat} (h : SK a) : G0 a = (6 + 4, [-1, -1, -1, -1, ((a + 1 : Nat) : Int), ((a + 2 : Nat) : Int), ((a + 3 : Nat) : Int), ((a + 4 : Nat) : Int), ((a + 5 : Nat) : Int), ((a + 6 : Nat) : Int)]) := h.2.1
theorem sk_g1 {a : Nat} (h : SK a) : G0 (a + 1) = (0, [5]) := h.2.2.1
theorem sk_g2 {a : Nat} (h : SK a) : G0 (a + 2) = (0, [5]) := h.2.2.2.1
theorem sk_g3 {a : Nat} (h : SK a) : G0 (a + 3) = (0, [5]) := h.2.2.2.2.1
theorem sk_g4 {a : Nat} (h : SK a) : G0 (a + 4) = (0, [5]) := h.2.2.2.2.2.1
theorem sk_g5 {a : Nat} (h : SK a) : G0 (a + 5) = (0, [5]) := h.2.2.2.2.2.2.1
theorem sk_g6 {a : Nat} (h : SK a) : G0 (a + 6) = (0, [16]) := h.2.2.2.2.2.2.2
theorem sk_n6 {a : Nat} (h : SK a) : a + 6 < N0 := h.1
theorem sk_n5 {a : Nat} (h : SK a) : a + 5 < N0 := Nat.lt_of_succ_lt h.1
theorem sk_n4 {a : Nat} (h : SK a) : a + 4 < N0 := Nat.lt_of_succ_lt (sk_n5 h)
theorem sk_n3 {a : Nat} (h : SK a) : a + 3 < N0 := Nat.lt_of_succ_lt (sk_n4 h)
theorem sk_n2 {a : Nat} (h : SK a) : a + 2 < N0 := Nat.lt_of_succ_lt (sk_n3 h)
theorem sk_n1 {a : Nat} (h : SK a) : a + 1 < N0 := Nat.lt_of_succ_lt (sk_n2 h)
theorem sk_n0 {a : Nat} (h : SK a) : a < N0 := Nat.lt_of_succ_lt (sk_n1 h)
theorem sk_k {a : Nat} (h : SK a) : (G0 a).1 = 6 + 4 := congrArg Prod.fst (sk_g0 h)
theorem q_b {b b' : Bool} {M : MM} (h : b = b') : Pm (bi b') M (some (vi (bi b))) N0 G0 M := by subst h; exact ⟨rfl, rfl, rfl, rfl⟩
theorem q_i {z z' : Int} {M : MM} (h : z = z') : Pm z' M (some (vi z)) N0 G0 M := by subst h; exact ⟨rfl, rfl, rfl, rfl⟩
theorem q_im {z z' : Int} {M M' : MM} (h : z = z') (hM : M = M') : Pm z' M' (some (vi z)) N0 G0 M := by subst h; subst hM; exact ⟨rfl, rfl, rfl, rfl⟩
theorem q_v {M M' : MM} (hM : M = M') : Pv M' none N0 G0 M := by subst hM; exact ⟨rfl, rfl, rfl, rfl⟩
theorem q_x {P : Int → MM → Prop} {z : Int} {M : MM} (h : P z M) : Px P (some (vi z)) N0 G0 M := ⟨z, rfl, rfl, rfl, h⟩
theorem q_xv {P : MM → Prop} {M : MM} (h : P M) : Pxv P none N0 G0 M := ⟨rfl, rfl, rfl, h⟩
section Tools2
variable {E : EV} {X : MD} {k : KK} {pc : Nat} {ls : LV} {st : List AV} {n : Nat} {G : GG} {M : MM} {Q : PP}
theorem w_tabC {dflt lo hi : Int} {offs : Array Int} {len : Nat} {z off : Int} {tgt : Nat} (v : Int) (hd : decode (mB X) pc = .ok (.tableswitch dflt lo hi offs, len)) (hz : R32 z) (hv : lo ≤ v ∧ v ≤ hi) (ho : offs[(v - lo).toNat]? = some off) (ht : (pc : Int) + off = (tgt : Int)) (kt : z = v → Wp E X k tgt ls st n G M Q) (kf : ¬ z = v → Wp E X k pc ls (vi z :: st) n G M Q) : Wp E X k pc ls (vi z :: st) n G M Q := by
  by_cases h : z = v
  · subst h
    exact w_tabIn hd hz hv.1 hv.2 ho ht (kt rfl)
  · exact kf h
end Tools2
theorem R32_mul {x y : Int} (h1 : 0 ≤ x) (h2 : x ≤ 40000) (h3 : 0 ≤ y) (h4 : y ≤ 40000) : R32 (x * y) := by
  have a1 : 0 ≤ x * y := Int.mul_nonneg h1 h3
  have a2 : x * y ≤ 40000 * 40000 := Int.mul_le_mul h2 h4 h3 (by decide)
  omega
theorem b_1shl {k : Int} (h0 : 0 ≤ k) (h1 : k < 31) : i32 1 <<< (i32 k &&& 31) = i32 ((2 ^ k.toNat : Nat) : Int) := by
  have e : k = ((k.toNat : Nat) : Int) := by omega
  have h := b_shl 1 (k := k.toNat) (by omega) (by
    have : 2 ^ k.toNat ≤ 2 ^ 31 := Nat.pow_le_pow_right (by decide) (by omega)
    omega)
  rw [Nat.one_mul] at h
  rw [← e] at h
  exact h
theorem pow_r {k : Int} (h1 : k < 31) : ((2 ^ k.toNat : Nat) : Int) < 2147483648 ∧ 0 < ((2 ^ k.toNat : Nat) : Int) := by
  have h2 : 2 ^ k.toNat ≤ 2 ^ 30 := Nat.pow_le_pow_right (by decide) (by omega)
  have h3 : 0 < 2 ^ k.toNat := Nat.pow_pos (by decide)
  omega
/-! ===== what the class's methods share ===== -/
theorem c_X9_within {E : EV} {M : MM} {z l u : Int} (hz : R32 z) (hl : R32 l) (hu : R32 u) : Cm E mX9_within 0 [vi z, vi l, vi u] M (bi (decide (l ≤ z ∧ z ≤ u))) M := by
  refine Ct.of [some (vi z), some (vi l), some (vi u)] rfl rfl rfl (Nat.le_of_ble_eq_true rfl) ?_
  refine w_iload_n dX9_within_0 rfl ?_
  refine w_iload_n dX9_within_1 rfl ?_
  refine w_icmp_lt (tgt := 14) dX9_within_2 (by decide) (by omega) (by omega) (fun h2 => ?_) (fun h2 => ?_)
  · refine w_iconst dX9_within_14 ?_
    refine w_zret (b := false) dX9_within_15 rfl ?_ ⟨Nat.le_refl _, Nat.le_refl _⟩
    exact (q_b (decide_eq_false (by omega)).symm)
  · refine w_iload_n dX9_within_5 rfl ?_
    refine w_iload_n dX9_within_6 rfl ?_
    refine w_icmp_gt (tgt := 14) dX9_within_7 (by decide) (by omega) (by omega) (fun h7 => ?_) (fun h7 => ?_)
    · refine w_iconst dX9_within_14 ?_
      refine w_zret (b := false) dX9_within_15 rfl ?_ ⟨Nat.le_refl _, Nat.le_refl _⟩
      exact (q_b (decide_eq_false (by omega)).symm)
    · refine w_iconst dX9_within_10 ?_
      refine w_goto (tgt := 15) dX9_within_11 (by decide) ?_
      refine w_zret (b := true) dX9_within_15 rfl ?_ ⟨Nat.le_refl _, Nat.le_refl _⟩
      exact (q_b (decide_eq_true (by omega)).symm)
theorem c_X9_ring {E : EV} {M : MM} {z : Int} : Cm E mX9_ring 0 [vi z] M (z % 16) M := by
  refine Ct.of [some (vi z)] rfl rfl rfl (Nat.le_of_ble_eq_true rfl) ?_
  refine w_iload_n dX9_ring_0 rfl ?_
  refine w_bipush dX9_ring_1 (by decide +kernel) ?_
  refine w_ibin (r := z % 16) dX9_ring_3 (Or.inl ⟨rfl, b_m15 z⟩) ?_
  refine w_iret dX9_ring_4 rfl (by omega) ?_ ⟨Nat.le_refl _, Nat.le_refl _⟩
  exact ⟨rfl, rfl, rfl, rfl⟩
theorem c_X9_isField {E : EV} {M : MM} {z : Int} (hz : R32 z) : Cm E mX9_isField 1 [vi z] M (bi (decide (0 ≤ z ∧ z ≤ 15))) M := by
  refine Ct.of [some (vi z)] rfl rfl rfl (Nat.le_of_ble_eq_true rfl) ?_
  refine w_iload_n dX9_isField_0 rfl ?_
  refine w_iconst dX9_isField_1 ?_
  refine w_bipush dX9_isField_2 (by decide +kernel) ?_
  refine cSm dX9_isField_4 ok_X9_within (Or.inl ls9_86) (c_X9_within (by omega) (by omega) (by omega)) rfl  rfl (by decide) (Nat.le_of_ble_eq_true rfl) (fun r4 => ?_)
  refine w_zret dX9_isField_7 rfl ?_ ⟨Nat.le_refl _, Nat.le_refl _⟩
  exact ⟨rfl, rfl, rfl, rfl⟩
theorem c_X9_isZeroOrOne {E : EV} {M : MM} {z : Int} (hz : R32 z) : Cm E mX9_isZeroOrOne 0 [vi z] M (bi (decide (z = 0 ∨ z = 1))) M := by
  refine Ct.of [some (vi z)] rfl rfl rfl (Nat.le_of_ble_eq_true rfl) ?_
  refine w_iload_n dX9_isZeroOrOne_0 rfl ?_
  refine w_if_eq (tgt := 9) dX9_isZeroOrOne_1 (by decide) (by omega) (fun h1 => ?_) (fun h1 => ?_)
  · refine w_iconst dX9_isZeroOrOne_9 ?_
    refine w_goto (tgt := 14) dX9_isZeroOrOne_10 (by decide) ?_
    refine w_zret (b := true) dX9_isZeroOrOne_14 rfl ?_ ⟨Nat.le_refl _, Nat.le_refl _⟩
    exact (q_b (decide_eq_true (by omega)).symm)
  · refine w_iload_n dX9_isZeroOrOne_4 rfl ?_
    refine w_iconst dX9_isZeroOrOne_5 ?_
    refine w_icmp_ne (tgt := 13) dX9_isZeroOrOne_6 (by decide) (by omega) (by omega) (fun h6 => ?_) (fun h6 => ?_)
    · refine w_iconst dX9_isZeroOrOne_13 ?_
      refine w_zret (b := false) dX9_isZeroOrOne_14 rfl ?_ ⟨Nat.le_refl _, Nat.le_refl _⟩
      exact (q_b (decide_eq_false (by omega)).symm)
    · refine w_iconst dX9_isZeroOrOne_9 ?_
      refine w_goto (tgt := 14) dX9_isZeroOrOne_10 (by decide) ?_
      refine w_zret (b := true) dX9_isZeroOrOne_14 rfl ?_ ⟨Nat.le_refl _, Nat.le_refl _⟩
      exact (q_b (decide_eq_true (by omega)).symm)
theorem rotN_lt (x k : Nat) : rotN x k < 65536 := Nat.mod_lt _ (by decide)
theorem turned_ok {x r : Int} (h0 : 0 ≤ x) (h1 : x < 65536) (r0 : 0 ≤ r) (r1 : r < 16) : i32 ((x.toNat * 2 ^ r.toNat : Nat) : Int) ||| i32 ((x.toNat / 2 ^ (16 - r.toNat) : Nat) : Int) = i32 ((x.toNat * 2 ^ r.toNat ||| x.toNat / 2 ^ (16 - r.toNat) : Nat) : Int) := b_or _ _
theorem c_X9_turned {E : EV} {M : MM} {x z : Int} (h0 : 0 ≤ x) (h1 : x < 65536) (r0 : 0 ≤ z) (r1 : z < 16) : Cm E mX9_turned 1 [vi x, vi z] M ((rotN x.toNat z.toNat : Nat) : Int) M := by
  refine Ct.of [some (vi x), some (vi z)] rfl rfl rfl (Nat.le_of_ble_eq_true rfl) ?_
  have hx : x = ((x.toNat : Nat) : Int) := by omega
  have hz : z = ((z.toNat : Nat) : Int) := by omega
  have hp : 2 ^ z.toNat ≤ 2 ^ 15 := Nat.pow_le_pow_right (by decide) (by omega)
  have hm : x.toNat * 2 ^ z.toNat ≤ 65535 * 2 ^ 15 := Nat.mul_le_mul (by omega) hp
  have ex : i32 x = i32 ((x.toNat : Nat) : Int) := by rw [← hx]
  have ez : i32 z = i32 ((z.toNat : Nat) : Int) := by rw [← hz]
  have em : i32 (16 - z) = i32 ((16 - z.toNat : Nat) : Int) := by congr 1; omega
  have hr := rotN_lt x.toNat z.toNat
  refine w_iload_n dX9_turned_0 rfl ?_
  refine w_iload_n dX9_turned_1 rfl ?_
  refine w_ibin (r := ((x.toNat * 2 ^ z.toNat : Nat) : Int)) dX9_turned_2 (Or.inr <| Or.inr <| Or.inr <| Or.inl ⟨rfl, by rw [ex, ez]; exact b_shl _ (by omega) (by omega)⟩) ?_
  refine w_iload_n dX9_turned_3 rfl ?_
  refine w_bipush dX9_turned_4 (by decide +kernel) ?_
  refine w_iload_n dX9_turned_6 rfl ?_
  refine w_isub dX9_turned_7 ?_
  refine w_ibin (r := ((x.toNat / 2 ^ (16 - z.toNat) : Nat) : Int)) dX9_turned_8 (Or.inr <| Or.inr <| Or.inr <| Or.inr <| Or.inr ⟨rfl, by rw [ex, em]; exact b_ushr (by omega) (by omega)⟩) ?_
  refine w_ibin (r := ((x.toNat * 2 ^ z.toNat ||| x.toNat / 2 ^ (16 - z.toNat) : Nat) : Int)) dX9_turned_9 (Or.inr <| Or.inl ⟨rfl, b_or _ _⟩) ?_
  refine w_ldc dX9_turned_10 co9_254 ?_
  refine w_ibin (r := ((rotN x.toNat z.toNat : Nat) : Int)) dX9_turned_12 (Or.inl ⟨rfl, by rw [show i32 65535 = i32 ((65535 : Nat) : Int) from rfl, b_and, rotN, show (65535 : Nat) = 2 ^ 16 - 1 from rfl, Nat.and_two_pow_sub_one_eq_mod]⟩) ?_
  refine w_iret dX9_turned_13 rfl (by omega) ?_ ⟨Nat.le_refl _, Nat.le_refl _⟩
  exact ⟨rfl, rfl, rfl, rfl⟩
/-! ===== Sky: what asks nothing of others ===== -/
theorem c_X6_isGone {E : EV} {M : MM} {a : Nat} {c : Int} (hS : SK a) (h0 : 0 ≤ c) (h1 : c < 5) : Cm E mX6_isGone 0 [vr a, vi c] M (bi (decide (M (a + 4) c = 0))) M := by
  refine Ct.of [some (vr a), some (vi c)] rfl rfl rfl (Nat.le_of_ble_eq_true rfl) ?_
  refine w_aload_n dX6_isGone_0 rfl ?_
  refine w_getR (r := (a + 4)) dX6_isGone_1 fl6_21 (sk_g0 hS) (sk_n0 hS) rfl ?_
  refine w_iload_n dX6_isGone_4 rfl ?_
  refine r_ild dX6_isGone_5 (sk_g4 hS) (sk_n4 hS) (by omega) (by omega) (by decide) (fun r5 => ?_)
  refine w_if_ne (tgt := 13) dX6_isGone_6 (by decide) (by omega) (fun h6 => ?_) (fun h6 => ?_)
  · refine w_iconst dX6_isGone_13 ?_
    refine w_zret (b := false) dX6_isGone_14 rfl ?_ ⟨Nat.le_refl _, Nat.le_refl _⟩
    exact (q_b (decide_eq_false (by omega)).symm)
  · refine w_iconst dX6_isGone_9 ?_
    refine w_goto (tgt := 14) dX6_isGone_10 (by decide) ?_
    refine w_zret (b := true) dX6_isGone_14 rfl ?_ ⟨Nat.le_refl _, Nat.le_refl _⟩
    exact (q_b (decide_eq_true (by omega)).symm)
def speedF (k w : Int) : Int := if k = 2 then w + 1 else if k = 1 ∨ k = 3 then w else 0
theorem c_X6_speed {E : EV} {M : MM} {a : Nat} {c : Int} (hS : SK a) (h0 : 0 ≤ c) (h1 : c < 5) (h2 : M a 1 ≤ 1000) : Cm E mX6_speed 0 [vr a, vi c] M (speedF (M (a + 1) c) (M a 1)) M := by
  refine Ct.of [some (vr a), some (vi c)] rfl rfl rfl (Nat.le_of_ble_eq_true rfl) ?_
  refine w_aload_n dX6_speed_0 rfl ?_
  refine w_getR (r := (a + 1)) dX6_speed_1 fl6_9 (sk_g0 hS) (sk_n0 hS) rfl ?_
  refine w_iload_n dX6_speed_4 rfl ?_
  refine r_ild dX6_speed_5 (sk_g1 hS) (sk_n1 hS) (by omega) (by omega) (by decide) (fun r5 => ?_)
  refine w_tabC (1) (tgt := 32) dX6_speed_6 (by omega) (by decide) rfl (by decide) (fun t1 => ?_) (fun t1 => ?_)
  · refine w_aload_n dX6_speed_32 rfl ?_
    refine r_getI (q := 1) dX6_speed_33 fl6_34 (sk_g0 hS) (sk_n0 hS) rfl (by decide) rfl (fun r33 => ?_)
    refine w_iret dX6_speed_36 rfl (by omega) ?_ ⟨Nat.le_refl _, Nat.le_refl _⟩
    exact (q_i (by unfold speedF; (repeat' split) <;> omega))
  refine w_tabC (2) (tgt := 37) dX6_speed_6 (by omega) (by decide) rfl (by decide) (fun t2 => ?_) (fun t2 => ?_)
  · refine w_aload_n dX6_speed_37 rfl ?_
    refine r_getI (q := 1) dX6_speed_38 fl6_34 (sk_g0 hS) (sk_n0 hS) rfl (by decide) rfl (fun r38 => ?_)
    refine w_iconst dX6_speed_41 ?_
    refine w_iadd dX6_speed_42 ?_
    refine w_iret dX6_speed_43 rfl (by omega) ?_ ⟨Nat.le_refl _, Nat.le_refl _⟩
    exact (q_i (by unfold speedF; (repeat' split) <;> omega))
  refine w_tabC (3) (tgt := 32) dX6_speed_6 (by omega) (by decide) rfl (by decide) (fun t3 => ?_) (fun t3 => ?_)
  · refine w_aload_n dX6_speed_32 rfl ?_
    refine r_getI (q := 1) dX6_speed_33 fl6_34 (sk_g0 hS) (sk_n0 hS) rfl (by decide) rfl (fun r33 => ?_)
    refine w_iret dX6_speed_36 rfl (by omega) ?_ ⟨Nat.le_refl _, Nat.le_refl _⟩
    exact (q_i (by unfold speedF; (repeat' split) <;> omega))
  refine w_tabOut (tgt := 44) dX6_speed_6 (by omega) (by omega) (by decide) ?_
  refine w_iconst dX6_speed_44 ?_
  refine w_iret dX6_speed_45 rfl (by omega) ?_ ⟨Nat.le_refl _, Nat.le_refl _⟩
  exact (q_i (by unfold speedF; (repeat' split) <;> omega))
def rainF (k d : Int) : Int := if k = 1 ∨ k = 4 then 1 else if k = 2 then 2 else if k = 5 then d % 2 else 0
theorem rainF_r (k d : Int) : 0 ≤ rainF k d ∧ rainF k d ≤ 2 := by unfold rainF; (repeat' split) <;> omega
theorem c_X6_rain {E : EV} {M : MM} {a : Nat} {c : Int} (hS : SK a) (h0 : 0 ≤ c) (h1 : c < 5) : Cm E mX6_rain 0 [vr a, vi c] M (rainF (M (a + 1) c) (M a 3)) M := by
  refine Ct.of [some (vr a), some (vi c)] rfl rfl rfl (Nat.le_of_ble_eq_true rfl) ?_
  refine w_aload_n dX6_rain_0 rfl ?_
  refine w_getR (r := (a + 1)) dX6_rain_1 fl6_9 (sk_g0 hS) (sk_n0 hS) rfl ?_
  refine w_iload_n dX6_rain_4 rfl ?_
  refine r_ild dX6_rain_5 (sk_g1 hS) (sk_n1 hS) (by omega) (by omega) (by decide) (fun r5 => ?_)
  refine w_tabC (1) (tgt := 40) dX6_rain_6 (by omega) (by decide) rfl (by decide) (fun t1 => ?_) (fun t1 => ?_)
  · refine w_iconst dX6_rain_40 ?_
    refine w_iret dX6_rain_41 rfl (by omega) ?_ ⟨Nat.le_refl _, Nat.le_refl _⟩
    exact (q_i (by unfold rainF; (repeat' split) <;> omega))
  refine w_tabC (2) (tgt := 42) dX6_rain_6 (by omega) (by decide) rfl (by decide) (fun t2 => ?_) (fun t2 => ?_)
  · refine w_iconst dX6_rain_42 ?_
    refine w_iret dX6_rain_43 rfl (by omega) ?_ ⟨Nat.le_refl _, Nat.le_refl _⟩
    exact (q_i (by unfold rainF; (repeat' split) <;> omega))
  refine w_tabC (3) (tgt := 51) dX6_rain_6 (by omega) (by decide) rfl (by decide) (fun t3 => ?_) (fun t3 => ?_)
  · refine w_iconst dX6_rain_51 ?_
    refine w_iret dX6_rain_52 rfl (by omega) ?_ ⟨Nat.le_refl _, Nat.le_refl _⟩
    exact (q_i (by unfold rainF; (repeat' split) <;> omega))
  refine w_tabC (4) (tgt := 40) dX6_rain_6 (by omega) (by decide) rfl (by decide) (fun t4 => ?_) (fun t4 => ?_)
  · refine w_iconst dX6_rain_40 ?_
    refine w_iret dX6_rain_41 rfl (by omega) ?_ ⟨Nat.le_refl _, Nat.le_refl _⟩
    exact (q_i (by unfold rainF; (repeat' split) <;> omega))
  refine w_tabC (5) (tgt := 44) dX6_rain_6 (by omega) (by decide) rfl (by decide) (fun t5 => ?_) (fun t5 => ?_)
  · refine w_aload_n dX6_rain_44 rfl ?_
    refine r_getI (q := 3) dX6_rain_45 fl6_40 (sk_g0 hS) (sk_n0 hS) rfl (by decide) rfl (fun r45 => ?_)
    refine w_iconst dX6_rain_48 ?_
    refine w_ibin (r := (M a 3 % 2)) dX6_rain_49 (Or.inl ⟨rfl, b_m1 _⟩) ?_
    refine w_iret dX6_rain_50 rfl (by omega) ?_ ⟨Nat.le_refl _, Nat.le_refl _⟩
    exact (q_i (by unfold rainF; (repeat' split) <;> omega))
  refine w_tabOut (tgt := 51) dX6_rain_6 (by omega) (by omega) (by decide) ?_
  refine w_iconst dX6_rain_51 ?_
  refine w_iret dX6_rain_52 rfl (by omega) ?_ ⟨Nat.le_refl _, Nat.le_refl _⟩
  exact (q_i (by unfold rainF; (repeat' split) <;> omega))
theorem c_X6_need {E : EV} {M : MM} {a : Nat} {c : Int} (hS : SK a) (h0 : 0 ≤ c) (h1 : c < 5) (h2 : 0 ≤ M (a + 3) c) (h3 : M (a + 3) c ≤ 1000) : Cm E mX6_need 1 [vr a, vi c] M (M (a + 3) c * rainF (M (a + 1) c) (M a 3)) M := by
  refine Ct.of [some (vr a), some (vi c)] rfl rfl rfl (Nat.le_of_ble_eq_true rfl) ?_
  have hr := rainF_r (M (a + 1) c) (M a 3)
  refine w_aload_n dX6_need_0 rfl ?_
  refine w_getR (r := (a + 3)) dX6_need_1 fl6_18 (sk_g0 hS) (sk_n0 hS) rfl ?_
  refine w_iload_n dX6_need_4 rfl ?_
  refine r_ild dX6_need_5 (sk_g3 hS) (sk_n3 hS) (by omega) (by omega) (by decide) (fun r5 => ?_)
  refine w_aload_n dX6_need_6 rfl ?_
  refine w_iload_n dX6_need_7 rfl ?_
  refine cVm dX6_need_8 ok_X6_rain lv6_53 (c_X6_rain hS (by omega) (by omega)) rfl (sk_k hS) (sk_n0 hS) (by decide) rfl (by decide) (Nat.le_of_ble_eq_true rfl) (fun r8 => ?_)
  refine w_imul dX6_need_11 ?_
  refine w_iret dX6_need_12 rfl (R32_mul (by omega) (by omega) (by omega) (by omega)) ?_ ⟨Nat.le_refl _, Nat.le_refl _⟩
  exact ⟨rfl, rfl, rfl, rfl⟩
theorem c_X6_reach {E : EV} {M : MM} {a : Nat} {c : Int} (hS : SK a) (h0 : 0 ≤ c) (h1 : c < 5) (h2 : 0 ≤ M (a + 3) c) (h3 : M (a + 3) c ≤ 8) (h4 : 0 ≤ M (a + 2) c) (h5 : M (a + 2) c ≤ 15) : Cm E mX6_reach 2 [vr a, vi c] M ((spanF (M (a + 2) c) (M (a + 3) c) : Nat) : Int) M := by
  refine Ct.of [some (vr a), some (vi c)] rfl rfl rfl (Nat.le_of_ble_eq_true rfl) ?_
  have hp : 2 ^ (M (a + 3) c).toNat ≤ 2 ^ 8 := Nat.pow_le_pow_right (by decide) (by omega)
  have hp0 : 0 < 2 ^ (M (a + 3) c).toNat := Nat.pow_pos (by decide)
  have hs := spanF_lt (M (a + 2) c) (M (a + 3) c)
  have key : rotN (((2 ^ (M (a + 3) c).toNat : Nat) : Int) - 1).toNat (M (a + 2) c).toNat = spanF (M (a + 2) c) (M (a + 3) c) := by
    have k1 := rotN_span (M (a + 2) c).toNat (by omega) (M (a + 3) c).toNat (by omega)
    rw [show (((M (a + 2) c).toNat : Nat) : Int) = M (a + 2) c by omega, show (((M (a + 3) c).toNat : Nat) : Int) = M (a + 3) c by omega] at k1
    rw [← k1]
    congr 1
    omega
  refine w_iconst dX6_reach_0 ?_
  refine w_aload_n dX6_reach_1 rfl ?_
  refine w_getR (r := (a + 3)) dX6_reach_2 fl6_18 (sk_g0 hS) (sk_n0 hS) rfl ?_
  refine w_iload_n dX6_reach_5 rfl ?_
  refine r_ild dX6_reach_6 (sk_g3 hS) (sk_n3 hS) (by omega) (by omega) (by decide) (fun r6 => ?_)
  refine w_ibin (r := ((2 ^ (M (a + 3) c).toNat : Nat) : Int)) dX6_reach_7 (Or.inr <| Or.inr <| Or.inr <| Or.inl ⟨rfl, b_1shl (by omega) (by omega)⟩) ?_
  refine w_iconst dX6_reach_8 ?_
  refine w_isub dX6_reach_9 ?_
  refine w_aload_n dX6_reach_10 rfl ?_
  refine w_getR (r := (a + 2)) dX6_reach_11 fl6_15 (sk_g0 hS) (sk_n0 hS) rfl ?_
  refine w_iload_n dX6_reach_14 rfl ?_
  refine r_ild dX6_reach_15 (sk_g2 hS) (sk_n2 hS) (by omega) (by omega) (by decide) (fun r15 => ?_)
  refine cSm dX6_reach_16 ok_X9_turned (Or.inr ln6_57) (c_X9_turned (by omega) (by omega) (by omega) (by omega)) rfl  rfl (by decide) (Nat.le_of_ble_eq_true rfl) (fun r16 => ?_)
  refine w_iret dX6_reach_19 rfl (by omega) ?_ ⟨Nat.le_refl _, Nat.le_refl _⟩
  exact (q_i (by rw [key]))
def shadeF (p w t : Int) : Nat := if t = 0 then 0 else spanF p w
theorem shadeF_lt (p w t : Int) : shadeF p w t < 65536 := by
  unfold shadeF
  split
  · omega
  · exact spanF_lt p w
theorem c_X6_shade {E : EV} {M : MM} {a : Nat} {c : Int} (hS : SK a) (h0 : 0 ≤ c) (h1 : c < 5) (h2 : 0 ≤ M (a + 3) c) (h3 : M (a + 3) c ≤ 8) (h4 : 0 ≤ M (a + 2) c) (h5 : M (a + 2) c ≤ 15) : Cm E mX6_shade 3 [vr a, vi c] M ((shadeF (M (a + 2) c) (M (a + 3) c) (M (a + 4) c) : Nat) : Int) M := by
  refine Ct.of [some (vr a), some (vi c)] rfl rfl rfl (Nat.le_of_ble_eq_true rfl) ?_
  refine w_aload_n dX6_shade_0 rfl ?_
  refine w_iload_n dX6_shade_1 rfl ?_
  refine cVm dX6_shade_2 ok_X6_isGone lv6_49 (c_X6_isGone hS (by omega) (by omega)) rfl (sk_k hS) (sk_n0 hS) (by decide) rfl (by decide) (Nat.le_of_ble_eq_true rfl) (fun r2 => ?_)
  refine w_ifB_eq (tgt := 12) dX6_shade_5 (by decide) (fun h5 => ?_) (fun h5 => ?_)
  · refine w_aload_n dX6_shade_12 rfl ?_
    refine w_iload_n dX6_shade_13 rfl ?_
    refine cVm dX6_shade_14 ok_X6_reach lv6_61 (c_X6_reach hS (by omega) (by omega) (by omega) (by omega) (by omega) (by omega)) rfl (sk_k hS) (sk_n0 hS) (by decide) rfl (by decide) (Nat.le_of_ble_eq_true rfl) (fun r14 => ?_)
    refine w_iret dX6_shade_17 rfl (by omega) ?_ ⟨Nat.le_refl _, Nat.le_refl _⟩
    exact (q_i (by unfold shadeF; simp at h5; simp [h5]))
  · refine w_iconst dX6_shade_8 ?_
    refine w_goto (tgt := 17) dX6_shade_9 (by decide) ?_
    refine w_iret dX6_shade_17 rfl (by omega) ?_ ⟨Nat.le_refl _, Nat.le_refl _⟩
    exact (q_i (by unfold shadeF; simp at h5; simp [h5]))
theorem c_X6_mend {E : EV} {M : MM} {a : Nat} {c : Int} (hS : SK a) (h0 : 0 ≤ c) (h1 : c < 5) (h2 : 0 ≤ M (a + 4) c) (h3 : M (a + 4) c ≤ 1000) (h4 : 0 ≤ M a 2) (h5 : M a 2 ≤ 1000) : Cv E mX6_mend 1 [vr a, vi c] M (upM M (a + 4) c (if 99 < M (a + 4) c + M a 2 then 99 else M (a + 4) c + M a 2)) := by
  refine Ct.of [some (vr a), some (vi c)] rfl rfl rfl (Nat.le_of_ble_eq_true rfl) ?_
  refine w_aload_n dX6_mend_0 rfl ?_
  refine w_getR (r := (a + 4)) dX6_mend_1 fl6_21 (sk_g0 hS) (sk_n0 hS) rfl ?_
  refine w_iload_n dX6_mend_4 rfl ?_
  refine w_aload_n dX6_mend_5 rfl ?_
  refine w_getR (r := (a + 4)) dX6_mend_6 fl6_21 (sk_g0 hS) (sk_n0 hS) rfl ?_
  refine w_iload_n dX6_mend_9 rfl ?_
  refine r_ild dX6_mend_10 (sk_g4 hS) (sk_n4 hS) (by omega) (by omega) (by decide) (fun r10 => ?_)
  refine w_aload_n dX6_mend_11 rfl ?_
  refine r_getI (q := 2) dX6_mend_12 fl6_37 (sk_g0 hS) (sk_n0 hS) rfl (by decide) rfl (fun r12 => ?_)
  refine w_iadd dX6_mend_15 ?_
  refine w_bipush dX6_mend_16 (by decide +kernel) ?_
  refine w_mmin dX6_mend_18 lm6_67 (by omega) (by omega) ⟨by decide, by decide, by decide⟩ (Nat.le_of_ble_eq_true rfl) ?_
  refine r_ist dX6_mend_21 (sk_g4 hS) (sk_n4 hS) (by omega) (by omega) (by split <;> omega) (by decide) ?_
  refine w_vret dX6_mend_22 rfl ?_ ⟨Nat.le_refl _, Nat.le_refl _⟩
  exact ⟨rfl, rfl, rfl, rfl⟩
