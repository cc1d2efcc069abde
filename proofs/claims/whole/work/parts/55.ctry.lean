/-! ===== the class: the search ===== -/
def nx (w : Nat) : Int := (i32 (w : Int) ^^^ i32 (-1)).toInt
theorem nx_ok (w : Nat) : i32 (w : Int) ^^^ i32 (-1) = i32 (nx w) := by unfold nx; rw [i32_self]
theorem nx_and (F w : Nat) : i32 (F : Int) &&& i32 (nx w) = i32 ((F ^^^ (F &&& w) : Nat) : Int) := by
  rw [← nx_ok, i32_N, i32_N, i32_N]
  apply Int32.toBitVec.inj
  show BitVec.ofNat 32 F &&& (BitVec.ofNat 32 w ^^^ (i32 (-1)).toBitVec) = BitVec.ofNat 32 (F ^^^ (F &&& w))
  rw [show (i32 (-1)).toBitVec = BitVec.allOnes 32 by decide +kernel]
  apply BitVec.eq_of_getLsbD_eq
  intro i hi
  simp only [BitVec.getLsbD_and, BitVec.getLsbD_xor, BitVec.getLsbD_ofNat, BitVec.getLsbD_allOnes, Nat.testBit_xor, Nat.testBit_and, hi, decide_true, Bool.true_and]
  cases F.testBit i <;> cases w.testBit i <;> rfl
theorem xor_sub {F w : Nat} : (F ^^^ (F &&& w) = 0) ↔ (F &&& w = F) := by
  constructor
  · intro h
    apply Nat.eq_of_testBit_eq
    intro i
    have := congrArg (fun x => x.testBit i) h
    simp only [Nat.testBit_xor, Nat.testBit_and, Nat.zero_testBit] at this
    rw [Nat.testBit_and]
    revert this
    cases F.testBit i <;> cases w.testBit i <;> decide
  · intro h
    rw [h, Nat.xor_self]
theorem sm_le : ∀ c P, smC c P ≤ 3 * c
  | 0, _ => Nat.le_refl _
  | c + 1, P => by
    have := sm_le c (P / 4)
    show smC c (P / 4) + P % 4 ≤ 3 * (c + 1)
    omega
theorem stp_r {S : SS} {n F N W : Nat} {x : LB} (h : 0 ≤ x.1 ∧ x.1 ≤ 16) : 0 ≤ (stp S n F N W x).1 ∧ (stp S n F N W x).1 ≤ 16 := by
  unfold stp
  by_cases e : myC S N W = true ∧ ((smC N W : Nat) : Int) < x.1 ∧ F &&& wtC S n N W = F
  · rw [if_pos e]
    have q := e.2.1
    show 0 ≤ ((smC N W : Nat) : Int) ∧ ((smC N W : Nat) : Int) ≤ 16
    omega
  · rw [if_neg e]; exact h
theorem fo_r {S : SS} {n F N a : Nat} {x : LB} (h : 0 ≤ x.1 ∧ x.1 ≤ 16) : ∀ k, 0 ≤ (fo (stp S n F N) a k x).1 ∧ (fo (stp S n F N) a k x).1 ≤ 16
  | 0 => h
  | k + 1 => by rw [fo]; exact stp_r (fo_r h k)
def FrY (M m : MM) : Prop := (∀ i : Nat, i ≠ 209 → i ≠ 210 → i ≠ 219 → m i = M i) ∧ ∀ k : Int, k ≠ 0 → m 209 k = M 209 k
theorem FrY.refl (M : MM) : FrY M M := ⟨fun _ _ _ _ => rfl, fun _ _ => rfl⟩
theorem FrY.trans {M m m2 : MM} (h : FrY M m) (h2 : FrY m m2) : FrY M m2 := ⟨fun i a b c => (h2.1 i a b c).trans (h.1 i a b c), fun k hk => (h2.2 k hk).trans (h.2 k hk)⟩
/-- what the search needs to find -/
def ENV (M : MM) (S : SS) (n F : Nat) : Prop := SV M 23 S ∧ M 209 6 = (F : Int) ∧ ∀ i : Nat, (i : Int) < S 0 → M 218 (i : Int) = ((wtd S n i : Nat) : Int)
theorem ENV.fr {M m : MM} {S : SS} {n F : Nat} (h : ENV M S n F) (f : FrY M m) : ENV m S n F := ⟨h.1.same (fun i a b => f.1 i (by omega) (by omega) (by omega)), by rw [f.2 6 (by omega)]; exact h.2.1, fun i hi => by rw [f.1 218 (by omega) (by omega) (by omega)]; exact h.2.2 i hi⟩
def LBS (M : MM) (N : Nat) (x : LB) : Prop := M 209 0 = x.1 ∧ ∀ i : Nat, i < N → M 210 (i : Int) = x.2 (i : Int)
theorem fo_one (f : Nat → LB → LB) (a : Nat) (x : LB) : fo f a 1 x = f a x := rfl
theorem l_X8_tryIn {E : EV} {S : SS} {n F c j P : Nat} {q : Nat} {M : MM} {x : LB} (hN : c + (j + 1) = (S 0).toNat) (h5 : S 0 ≤ 5) (hP : myC S c P = true) (hx : 0 ≤ x.1 ∧ x.1 ≤ 16) (hE : ENV M S n F) (hq : q = (if S (7 + 5 * (c : Int)) = 0 then 0 else 3))
    (ih : ∀ (P' : Nat) (x' : LB) (m : MM), myC S (c + 1) P' = true → 0 ≤ x'.1 ∧ x'.1 ≤ 16 → ENV m S n F → LBS m (S 0).toNat x' → (∀ i : Nat, i < c + 1 → m 219 (i : Int) = wyC (c + 1) P' (i : Int)) → Cxv E mX8_tryFrom (j + 2) [vr 209, vi ((c + 1 : Nat) : Int), vi ((smC (c + 1) P' : Nat) : Int), vi ((wtC S n (c + 1) P' : Nat) : Int)] m (fun m2 => LBS m2 (S 0).toNat (fo (stp S n F (S 0).toNat) (P' * 4 ^ j) (4 ^ j) x') ∧ (∀ i : Nat, i < c + 1 → m2 219 (i : Int) = m 219 (i : Int)) ∧ FrY m m2)) :
    ∀ (k f : Nat) (z : Int) (m : MM), z = (f : Int) → f + k = q + 1 → LBS m (S 0).toNat (fo (stp S n F (S 0).toNat) (4 * P * 4 ^ j) (f * 4 ^ j) x) → (∀ i : Nat, i < c → m 219 (i : Int) = wyC c P (i : Int)) → FrY M m → Wp E mX8_tryFrom (kd (j + 1 + 2)) 77 [some (vr 209), some (vi (c : Int)), some (vi ((smC c P : Nat) : Int)), some (vi ((wtC S n c P : Nat) : Int)), some (vi (q : Int)), some (vi z)] [] N0 G0 m (Pxv (fun m2 => LBS m2 (S 0).toNat (fo (stp S n F (S 0).toNat) (4 * P * 4 ^ j) ((q + 1) * 4 ^ j) x) ∧ (∀ i : Nat, i < c → m2 219 (i : Int) = wyC c P (i : Int)) ∧ FrY M m2)) := by
  intro k
  have q3 : q ≤ 3 := by rw [hq]; split <;> omega
  have sl := sm_le c P
  have wl := wtC_lt S n c P
  induction k with
  | zero =>
    intro f z m hz hk hL hW hF
    subst hz
    obtain rfl : f = q + 1 := by omega
    refine w_iload dX8_tryFrom_77 rfl ?_
    refine w_iload dX8_tryFrom_79 rfl ?_
    refine w_icmp_gt (tgt := 122) dX8_tryFrom_81 (by decide) (by omega) (by omega) (fun h81 => ?_) (fun h81 => ?_)
    · refine w_vret dX8_tryFrom_122 rfl ?_ ⟨Nat.le_refl _, Nat.le_refl _⟩
      exact (q_xv ⟨hL, hW, hF⟩)
    · exact absurd h81 (by omega)
  | succ k ihk =>
    intro f z m hz hk hL hW hF
    subst hz
    have hE2 := hE.fr hF
    have ew := hE2.2.2 c (by omega)
    have wd := wtd_lt S n c
    have p4 : (4 * P + f) / 4 = P := by omega
    have m4 : (4 * P + f) % 4 = f := by omega
    have hs : ((smC c P : Nat) : Int) + (f : Int) = ((smC (c + 1) (4 * P + f) : Nat) : Int) := by
      show _ = ((smC c ((4 * P + f) / 4) + (4 * P + f) % 4 : Nat) : Int)
      rw [p4, m4]; omega
    have hw : wtC S n (c + 1) (4 * P + f) = (wtC S n c P ||| rotN (wtd S n c) f) := by
      show (wtC S n c ((4 * P + f) / 4) ||| rotN (wtd S n c) ((4 * P + f) % 4)) = _
      rw [p4, m4]
    have hmy : myC S (c + 1) (4 * P + f) = true := by
      show (myC S c ((4 * P + f) / 4) && (decide ((4 * P + f) % 4 = 0) || decide (S (7 + 5 * (c : Int)) ≠ 0))) = true
      rw [p4, m4, hP, Bool.true_and]
      by_cases e : S (7 + 5 * (c : Int)) = 0
      · rw [if_pos e] at hq
        rw [decide_eq_true (show f = 0 by omega), Bool.true_or]
      · rw [decide_eq_true e, Bool.or_true]
    have hb : ∀ y : LB, fo (stp S n F (S 0).toNat) ((4 * P + f) * 4 ^ j) (4 ^ j) (fo (stp S n F (S 0).toNat) (4 * P * 4 ^ j) (f * 4 ^ j) y) = fo (stp S n F (S 0).toNat) (4 * P * 4 ^ j) ((f + 1) * 4 ^ j) y := fun y => by
      rw [show (f + 1) * 4 ^ j = f * 4 ^ j + 4 ^ j by rw [Nat.add_mul, Nat.one_mul], fo_add, Nat.add_mul]
    refine w_iload dX8_tryFrom_77 rfl ?_
    refine w_iload dX8_tryFrom_79 rfl ?_
    refine w_icmp_gt (tgt := 122) dX8_tryFrom_81 (by decide) (by omega) (by omega) (fun h81 => ?_) (fun h81 => ?_)
    · exact absurd h81 (by omega)
    · refine w_aload_n dX8_tryFrom_84 rfl ?_
      refine w_getR (r := 219) dX8_tryFrom_85 fl8_25 g0_209 (by decide) rfl ?_
      refine w_iload_n dX8_tryFrom_88 rfl ?_
      refine w_iload dX8_tryFrom_89 rfl ?_
      refine r_ist dX8_tryFrom_91 g0_219 (by decide) (by omega) (by omega) (by omega) (by decide) ?_
      refine wgen (fun m1 => ENV m1 S n F ∧ LBS m1 (S 0).toNat (fo (stp S n F (S 0).toNat) (4 * P * 4 ^ j) (f * 4 ^ j) x) ∧ (∀ i : Nat, i < c + 1 → m1 219 (i : Int) = wyC (c + 1) (4 * P + f) (i : Int)) ∧ FrY M m1) ⟨⟨hE2.1.same (fun i a b => upM_cell (by omega)), by rw [upM_cell (by omega)]; exact hE2.2.1, fun i hi => by rw [upM_cell (by omega)]; exact hE2.2.2 i hi⟩, ⟨by rw [upM_cell (by omega)]; exact hL.1, fun i hi => by rw [upM_cell (by omega)]; exact hL.2 i hi⟩, fun i hi => by show _ = upS (wyC c ((4 * P + f) / 4)) (c : Int) (((4 * P + f) % 4 : Nat) : Int) (i : Int); rw [p4, m4, upS_at]; exact (if e : i = c then (by subst e; rw [upM_same, if_pos rfl]) else (by rw [upM_ne (by omega), if_neg (by omega)]; exact hW i (by omega))), ⟨fun i a b d => by rw [upM_cell d]; exact hF.1 i a b d, fun k hk => by rw [upM_cell (by omega)]; exact hF.2 k hk⟩⟩ (fun m1 hm1 => ?_)
      obtain ⟨u1, u2, u3, u4⟩ := hm1
      have ew := u1.2.2 c (by omega)
      refine w_aload_n dX8_tryFrom_92 rfl ?_
      refine w_iload_n dX8_tryFrom_93 rfl ?_
      refine w_iconst dX8_tryFrom_94 ?_
      refine w_iadd dX8_tryFrom_95 ?_
      refine w_iload_n dX8_tryFrom_96 rfl ?_
      refine w_iload dX8_tryFrom_97 rfl ?_
      refine w_iadd dX8_tryFrom_99 ?_
      refine w_iload_n dX8_tryFrom_100 rfl ?_
      refine w_aload_n dX8_tryFrom_101 rfl ?_
      refine w_getR (r := 218) dX8_tryFrom_102 fl8_22 g0_209 (by decide) rfl ?_
      refine w_iload_n dX8_tryFrom_105 rfl ?_
      refine r_ild dX8_tryFrom_106 g0_218 (by decide) (by omega) (by omega) (by decide) (fun r106 => ?_)
      refine w_iload dX8_tryFrom_107 rfl ?_
      rw [ew]
      refine cSm dX8_tryFrom_109 ok_X9_turned (Or.inr ln8_70) (c_X9_turned (x := ((wtd S n c : Nat) : Int)) (z := (f : Int)) (by omega) (by omega) (by omega) (by omega)) rfl  rfl (by omega) (Nat.le_of_ble_eq_true rfl) (fun r109 => ?_)
      rw [Int.toNat_natCast, Int.toNat_natCast]
      refine w_ibin (r := ((wtC S n c P ||| rotN (wtd S n c) f : Nat) : Int)) dX8_tryFrom_112 (Or.inr <| Or.inl ⟨rfl, b_or _ _⟩) ?_
      rw [hs, ← hw, show (c : Int) + 1 = ((c + 1 : Nat) : Int) by omega]
      refine cVxv dX8_tryFrom_113 ok_X8_tryFrom lv8_42 (ih (4 * P + f) _ m1 hmy (fo_r hx _) u1 u2 u3) rfl (congrArg Prod.fst g0_209) (by decide) (by decide) rfl (by omega) (Nat.le_of_ble_eq_true rfl) (fun m113 p113 => ?_)
      refine w_iinc dX8_tryFrom_116 rfl (by decide) ?_
      refine w_goto (tgt := 77) dX8_tryFrom_119 (by decide) ?_
      exact ihk (f + 1) _ _ (by omega) (by omega) (by rw [← hb]; exact p113.1) (fun i hi => by rw [p113.2.1 i (by omega), u3 i (by omega)]; show upS (wyC c ((4 * P + f) / 4)) (c : Int) (((4 * P + f) % 4 : Nat) : Int) (i : Int) = _; rw [p4, upS_at, if_neg (by omega)]) (u4.trans p113.2.2)
