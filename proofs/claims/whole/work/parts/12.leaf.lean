/-! ===== tools of the walks ===== -/
section Tools
variable {E : EV} {X : MD} {k : KK} {pc : Nat} {ls : LV} {st : List AV} {n : Nat} {G : GG} {M : MM} {Q : PP}
theorem r_ild {a : Nat} {z N : Int} (hd : decode (mB X) pc = .ok (.iaload, 1)) (hg : G a = (0, [N])) (ha : a < n) (h0 : 0 ≤ z) (h1 : z < N) (hN : N < 2147483648) (h : R32 (M a z) → Wp E X k (pc + 1) ls (vi (M a z) :: st) n G M Q) : Wp E X k pc ls (vi z :: vr a :: st) n G M Q := w_iald hd hg ha h0 h1 hN h
theorem r_lld {a : Nat} {z N : Int} (hd : decode (mB X) pc = .ok (.laload, 1)) (hg : G a = (1, [N])) (ha : a < n) (h0 : 0 ≤ z) (h1 : z < N) (hN : N < 2147483648) (h : R64 (M a z) → Wp E X k (pc + 1) ls (vl (M a z) :: st) n G M Q) : Wp E X k pc ls (vi z :: vr a :: st) n G M Q := w_lald hd hg ha h0 h1 hN h
theorem r_ist {a : Nat} {z v N : Int} (hd : decode (mB X) pc = .ok (.iastore, 1)) (hg : G a = (0, [N])) (ha : a < n) (h0 : 0 ≤ z) (h1 : z < N) (hv : R32 v) (hN : N < 2147483648) (h : Wp E X k (pc + 1) ls st n G (upM M a z v) Q) : Wp E X k pc ls (vi v :: vi z :: vr a :: st) n G M Q := w_iast hd hg ha h0 h1 hv hN h
theorem r_lst {a : Nat} {z v N : Int} (hd : decode (mB X) pc = .ok (.lastore, 1)) (hg : G a = (1, [N])) (ha : a < n) (h0 : 0 ≤ z) (h1 : z < N) (hv : R64 v) (hN : N < 2147483648) (h : Wp E X k (pc + 1) ls st n G (upM M a z v) Q) : Wp E X k pc ls (vl v :: vi z :: vr a :: st) n G M Q := w_last hd hg ha h0 h1 hv hN h
theorem r_copy {i a b : Nat} {sp dp z N N' : Int} (hd : decode (mB X) pc = .ok (.invokestatic i, 3)) (hw : Cond.methodLink (RR (mO X)) i arraycopyName ∈ wG) (hga : G a = (0, [N])) (hgb : G b = (0, [N'])) (ha : a < N0) (hb : b < N0) (h1 : 0 ≤ sp) (h2 : 0 ≤ dp) (h3 : 0 ≤ z) (h4 : sp + z ≤ N) (h5 : dp + z ≤ N') (hz : N < 2147483648) (hz2 : N' < 2147483648) (hk : 1 ≤ k.1) (hst : scat st ≤ 8)
    (h : Wp E X k (pc + 3) ls st N0 G (cpM M a b sp dp z) Q) : Wp E X k pc ls (vi z :: vi dp :: vr b :: vi sp :: vr a :: st) N0 G M Q := w_copy hd hw acp hga hgb ha hb (by decide) h1 h2 h3 h4 h5 hz hz2 hk hst h
end Tools
theorem sk_g0 {a : Nat} (h : SK a) : G0 a = (6 + 4, [-1, -1, -1, -1, ((a + 1 : Nat) : Int), ((a + 2 : Nat) : Int), ((a + 3 : Nat) : Int), ((a + 4 : Nat) : Int), ((a + 5 : Nat) : Int), ((a + 6 : Nat) : Int)]) := h.2.1
theorem sk_g1 {a : Nat} (h : SK a) : G0 (a + 1) = (0, [5]) := h.2.2.1
theorem sk_g2 {a : Nat} (h : SK a) : G0 (a + 2) = (0, [5]) := h.2.2.2.1
theorem sk_g3 {a : Nat} (h : SK a) : G0 (a + 3) = (0, [5]) := h.2.2.2.2.1
theorem sk_g4 {a : Nat} (h : SK a) : G0 (a + 4) = (0, [5]) := h.2.2.2.2.2.1
theorem sk_g5 {a : Nat} (h : SK a) : G0 (a + 5) = (0, [5]) := h.2.2.2.2.2.2.1
theorem sk_g6 {a : Nat} (h : SK a) : G0 (a + 6) = (0, [16]) := h.2.2.2.2.2.2.2
theorem sk_n6 {a : Nat} (h : SK a) : a + 6 < N0 := h.1
theorem sk_n5 {a : Nat} (h : SK a) : a + 5 < N0 := Nat.lt_of_succ_lt h.1
theorem sk_n4 {a : Nat} (h : SK a) : a + 4 < N0 := Nat.lt_of_succ_lt (sk_n5 h)
theorem sk_n3 {a : Nat} (h : SK a) : a + 3 < N0 := Nat.lt_of_succ_lt (sk_n4 h)
theorem sk_n2 {a : Nat} (h : SK a) : a + 2 < N0 := Nat.lt_of_succ_lt (sk_n3 h)
theorem sk_n1 {a : Nat} (h : SK a) : a + 1 < N0 := Nat.lt_of_succ_lt (sk_n2 h)
theorem sk_n0 {a : Nat} (h : SK a) : a < N0 := Nat.lt_of_succ_lt (sk_n1 h)
theorem sk_k {a : Nat} (h : SK a) : (G0 a).1 = 6 + 4 := congrArg Prod.fst (sk_g0 h)
theorem q_b {b b' : Bool} {M : MM} (h : b = b') : Pm (bi b') M (some (vi (bi b))) N0 G0 M := by subst h; exact ⟨rfl, rfl, rfl, rfl⟩
theorem q_i {z z' : Int} {M : MM} (h : z = z') : Pm z' M (some (vi z)) N0 G0 M := by subst h; exact ⟨rfl, rfl, rfl, rfl⟩
theorem q_im {z z' : Int} {M M' : MM} (h : z = z') (hM : M = M') : Pm z' M' (some (vi z)) N0 G0 M := by subst h; subst hM; exact ⟨rfl, rfl, rfl, rfl⟩
theorem q_v {M M' : MM} (hM : M = M') : Pv M' none N0 G0 M := by subst hM; exact ⟨rfl, rfl, rfl, rfl⟩
theorem q_x {P : Int → MM → Prop} {z : Int} {M : MM} (h : P z M) : Px P (some (vi z)) N0 G0 M := ⟨z, rfl, rfl, rfl, h⟩
theorem q_xv {P : MM → Prop} {M : MM} (h : P M) : Pxv P none N0 G0 M := ⟨rfl, rfl, rfl, h⟩
/-! ===== Sky: what asks nothing of others ===== -/
theorem c_X6_isGone {E : EV} {M : MM} {a : Nat} {c : Int} (hS : SK a) (h0 : 0 ≤ c) (h1 : c < 5) : Cm E mX6_isGone 0 [vr a, vi c] M (bi (decide (M (a + 4) c = 0))) M := by
  refine Ct.of [some (vr a), some (vi c)] rfl rfl rfl (Nat.le_of_ble_eq_true rfl) ?_
  refine w_aload_n dX6_isGone_0 rfl ?_
  refine w_getR (r := (a + 4)) dX6_isGone_1 fl6_21 (sk_g0 hS) (sk_n0 hS) rfl ?_
  refine w_iload_n dX6_isGone_4 rfl ?_
  refine r_ild dX6_isGone_5 (sk_g4 hS) (sk_n4 hS) (by omega) (by omega) (by decide) (fun r5 => ?_)
  refine w_if_ne (tgt := 13) dX6_isGone_6 (by decide) (by omega) (fun h6 => ?_) (fun h6 => ?_)
  · refine w_iconst dX6_isGone_13 ?_
    refine w_zret (b := false) dX6_isGone_14 rfl ?_ (by decide)
    exact (q_b (decide_eq_false (by omega)).symm)
  · refine w_iconst dX6_isGone_9 ?_
    refine w_goto (tgt := 14) dX6_isGone_10 (by decide) ?_
    refine w_zret (b := true) dX6_isGone_14 rfl ?_ (by decide)
    exact (q_b (decide_eq_true (by omega)).symm)
theorem c_X9_within {E : EV} {M : MM} {z l u : Int} (hz : R32 z) (hl : R32 l) (hu : R32 u) : Cm E mX9_within 0 [vi z, vi l, vi u] M (bi (decide (l ≤ z ∧ z ≤ u))) M := by
  refine Ct.of [some (vi z), some (vi l), some (vi u)] rfl rfl rfl (Nat.le_of_ble_eq_true rfl) ?_
  refine w_iload_n dX9_within_0 rfl ?_
  refine w_iload_n dX9_within_1 rfl ?_
  refine w_icmp_lt (tgt := 14) dX9_within_2 (by decide) (by omega) (by omega) (fun h2 => ?_) (fun h2 => ?_)
  · refine w_iconst dX9_within_14 ?_
    refine w_zret (b := false) dX9_within_15 rfl ?_ (by decide)
    exact (q_b (decide_eq_false (by omega)).symm)
  · refine w_iload_n dX9_within_5 rfl ?_
    refine w_iload_n dX9_within_6 rfl ?_
    refine w_icmp_gt (tgt := 14) dX9_within_7 (by decide) (by omega) (by omega) (fun h7 => ?_) (fun h7 => ?_)
    · refine w_iconst dX9_within_14 ?_
      refine w_zret (b := false) dX9_within_15 rfl ?_ (by decide)
      exact (q_b (decide_eq_false (by omega)).symm)
    · refine w_iconst dX9_within_10 ?_
      refine w_goto (tgt := 15) dX9_within_11 (by decide) ?_
      refine w_zret (b := true) dX9_within_15 rfl ?_ (by decide)
      exact (q_b (decide_eq_true (by omega)).symm)
