/-! ===== the class: the search, all of it ===== -/
theorem c_tryFrom {E : EV} {S : SS} {n F : Nat} (h0 : 0 ≤ S 0) (h5 : S 0 ≤ 5) (hF9 : F < 65536) : ∀ (j c P : Nat) (x : LB) (M : MM), c + j = (S 0).toNat → myC S c P = true → 0 ≤ x.1 ∧ x.1 ≤ 16 → ENV M S n F → LBS M (S 0).toNat x → (∀ i : Nat, i < c → M 219 (i : Int) = wyC c P (i : Int)) → Cxv E mX8_tryFrom (j + 2) [vr 209, vi (c : Int), vi ((smC c P : Nat) : Int), vi ((wtC S n c P : Nat) : Int)] M (fun m2 => LBS m2 (S 0).toNat (fo (stp S n F (S 0).toNat) (P * 4 ^ j) (4 ^ j) x) ∧ (∀ i : Nat, i < c → m2 219 (i : Int) = M 219 (i : Int)) ∧ FrY M m2) := by
  intro j
  induction j with
  | zero =>
    intro c P x M hN hP hx hE hL hW
    refine Ct.of [some (vr 209), some (vi (c : Int)), some (vi ((smC c P : Nat) : Int)), some (vi ((wtC S n c P : Nat) : Int)), none, none] rfl rfl rfl (Nat.le_of_ble_eq_true rfl) ?_
    have e0 := hE.1.num
    have eF := hE.2.1
    have eL := hL.1
    have sl := sm_le c P
    have hc : (S 0).toNat = c := by omega
    have xl : F ^^^ (F &&& wtC S n c P) < 2 ^ 16 := Nat.xor_lt_two_pow hF9 (Nat.lt_of_le_of_lt Nat.and_le_left hF9)
    have xs := xor_sub (F := F) (w := wtC S n c P)
    have ew : fo (stp S n F (S 0).toNat) (P * 4 ^ 0) (4 ^ 0) x = stp S n F c P x := by
      rw [hc, Nat.pow_zero, Nat.mul_one]; rfl
    rw [ew, hc]
    rw [hc] at hL
    refine w_iload_n dX8_tryFrom_0 rfl ?_
    refine w_aload_n dX8_tryFrom_1 rfl ?_
    refine r_getI (q := 0) dX8_tryFrom_2 fl8_39 g0_209 (by decide) rfl (by decide) rfl (fun r2 => ?_)
    refine w_icmp_lt (tgt := 9) dX8_tryFrom_5 (by decide) (by omega) (by omega) (fun h5 => ?_) (fun h5 => ?_)
    · refine w_iload_n dX8_tryFrom_9 rfl ?_
      refine w_aload_n dX8_tryFrom_10 rfl ?_
      refine w_getR (r := 23) dX8_tryFrom_11 fl8_28 g0_209 (by decide) rfl ?_
      refine r_getI (q := 0) dX8_tryFrom_14 fl8_50 (sk_g0 sk_23) (sk_n0 sk_23) rfl (by decide) rfl (fun r14 => ?_)
      refine w_icmp_ge (tgt := 25) dX8_tryFrom_17 (by decide) (by omega) (by omega) (fun h17 => ?_) (fun h17 => ?_)
      · refine w_aload_n dX8_tryFrom_25 rfl ?_
        refine r_getI (q := 6) dX8_tryFrom_26 fl8_31 g0_209 (by decide) rfl (by decide) rfl (fun r26 => ?_)
        refine w_iload_n dX8_tryFrom_29 rfl ?_
        refine w_iconst dX8_tryFrom_30 ?_
        refine w_ibin (r := nx (wtC S n c P)) dX8_tryFrom_31 (Or.inr <| Or.inr <| Or.inl ⟨rfl, nx_ok _⟩) ?_
        rw [eF]
        refine w_ibin (r := ((F ^^^ (F &&& wtC S n c P) : Nat) : Int)) dX8_tryFrom_32 (Or.inl ⟨rfl, nx_and F _⟩) ?_
        refine w_if_ne (tgt := 55) dX8_tryFrom_33 (by decide) (by omega) (fun h33 => ?_) (fun h33 => ?_)
        · refine w_vret dX8_tryFrom_55 rfl ?_ ⟨Nat.le_refl _, Nat.le_refl _⟩
          first | (have nf : ¬ F &&& wtC S n c P = F := (fun w => h33 (by rw [xs.mpr w]; rfl)); exact q_xv ⟨by unfold stp; rw [if_neg (fun w => nf w.2.2)]; exact hL, fun i _ => rfl, FrY.refl M⟩) | (have yf : F &&& wtC S n c P = F := xs.mp (by omega); refine q_xv ⟨?_, fun i _ => by rw [cpM_cell (by omega), upM_cell (by omega)], ⟨fun i a b d => by rw [cpM_cell b, upM_cell a], fun k hk => by rw [cpM_cell (by omega), upM_ne (fun w => hk w.2)]⟩⟩; unfold stp; rw [if_pos ⟨hP, by omega, yf⟩]; exact ⟨by rw [cpM_cell (by omega), upM_same], fun i hi => by unfold cpM; rw [if_pos ⟨rfl, by omega, by omega⟩, upM_cell (by omega), show (0 : Int) + ((i : Int) - 0) = (i : Int) by omega]; exact hW i hi⟩)
        · refine w_aload_n dX8_tryFrom_36 rfl ?_
          refine w_iload_n dX8_tryFrom_37 rfl ?_
          refine r_putI (q := 0) dX8_tryFrom_38 fl8_39 g0_209 (by decide) rfl (by decide) (by omega) rfl (by decide +kernel) rfl ?_
          refine w_aload_n dX8_tryFrom_41 rfl ?_
          refine w_getR (r := 219) dX8_tryFrom_42 fl8_25 g0_209 (by decide) rfl ?_
          refine w_iconst dX8_tryFrom_45 ?_
          refine w_aload_n dX8_tryFrom_46 rfl ?_
          refine w_getR (r := 210) dX8_tryFrom_47 fl8_9 g0_209 (by decide) rfl ?_
          refine w_iconst dX8_tryFrom_50 ?_
          refine w_iconst dX8_tryFrom_51 ?_
          refine r_copy dX8_tryFrom_52 lc8_60 g0_219 g0_210 (by decide) (by decide) (by omega) (by omega) (by omega) (by omega) (by omega) (by decide) (by decide) (by decide) (Nat.le_of_ble_eq_true rfl) ?_
          refine w_vret dX8_tryFrom_55 rfl ?_ ⟨Nat.le_refl _, Nat.le_refl _⟩
          first | (have nf : ¬ F &&& wtC S n c P = F := (fun w => h33 (by rw [xs.mpr w]; rfl)); exact q_xv ⟨by unfold stp; rw [if_neg (fun w => nf w.2.2)]; exact hL, fun i _ => rfl, FrY.refl M⟩) | (have yf : F &&& wtC S n c P = F := xs.mp (by omega); refine q_xv ⟨?_, fun i _ => by rw [cpM_cell (by omega), upM_cell (by omega)], ⟨fun i a b d => by rw [cpM_cell b, upM_cell a], fun k hk => by rw [cpM_cell (by omega), upM_ne (fun w => hk w.2)]⟩⟩; unfold stp; rw [if_pos ⟨hP, by omega, yf⟩]; exact ⟨by rw [cpM_cell (by omega), upM_same], fun i hi => by unfold cpM; rw [if_pos ⟨rfl, by omega, by omega⟩, upM_cell (by omega), show (0 : Int) + ((i : Int) - 0) = (i : Int) by omega]; exact hW i hi⟩)
      · exact absurd h17 (by omega)
    · refine w_vret dX8_tryFrom_8 rfl ?_ ⟨Nat.le_refl _, Nat.le_refl _⟩
      exact (q_xv ⟨by unfold stp; rw [if_neg (fun w => by omega)]; exact hL, fun i _ => rfl, FrY.refl M⟩)
  | succ j ih =>
    intro c P x M hN hP hx hE hL hW
    refine Ct.of [some (vr 209), some (vi (c : Int)), some (vi ((smC c P : Nat) : Int)), some (vi ((wtC S n c P : Nat) : Int)), none, none] rfl rfl rfl (Nat.le_of_ble_eq_true rfl) ?_
    have e0 := hE.1.num
    have eL := hL.1
    have sl := sm_le c P
    have e7 := hE.1.wet (c := (c : Int)) (by omega) (by omega)
    have eb : P * 4 ^ (j + 1) = 4 * P * 4 ^ j := by rw [Nat.pow_succ]; rw [Nat.mul_comm (4 ^ j) 4, ← Nat.mul_assoc, Nat.mul_comm P 4]
    have ek : 4 ^ (j + 1) = (3 + 1) * 4 ^ j := by rw [Nat.pow_succ, Nat.mul_comm]
    have fin : ∀ q : Nat, q = (if S (7 + 5 * (c : Int)) = 0 then 0 else 3) → fo (stp S n F (S 0).toNat) (4 * P * 4 ^ j) ((q + 1) * 4 ^ j) x = fo (stp S n F (S 0).toNat) (P * 4 ^ (j + 1)) (4 ^ (j + 1)) x := by
      intro q hq
      rw [eb, ek]
      by_cases e : S (7 + 5 * (c : Int)) = 0
      · rw [if_pos e] at hq
        subst hq
        rw [show (3 + 1) * 4 ^ j = (0 + 1) * 4 ^ j + 3 * 4 ^ j by omega, fo_add, show 4 * P * 4 ^ j + (0 + 1) * 4 ^ j = (4 * P + 1) * 4 ^ j by rw [Nat.zero_add, Nat.add_mul (4 * P) 1], ← hN, show c + (j + 1) = c + 1 + j by omega, fo_gone e (by omega) (by omega)]
      · rw [if_neg e] at hq
        subst hq
        rfl
    have go : ∀ q : Nat, q = (if S (7 + 5 * (c : Int)) = 0 then 0 else 3) → Wp E mX8_tryFrom (kd (j + 1 + 2)) 77 [some (vr 209), some (vi (c : Int)), some (vi ((smC c P : Nat) : Int)), some (vi ((wtC S n c P : Nat) : Int)), some (vi (q : Int)), some (vi 0)] [] N0 G0 M (Pxv (fun m2 => LBS m2 (S 0).toNat (fo (stp S n F (S 0).toNat) (P * 4 ^ (j + 1)) (4 ^ (j + 1)) x) ∧ (∀ i : Nat, i < c → m2 219 (i : Int) = M 219 (i : Int)) ∧ FrY M m2)) := by
      intro q hq
      rw [← fin q hq]
      have l := l_X8_tryIn (E := E) (x := x) (M := M) hN h5 hP hx hE hq (fun P' x' m a b d f g => ih (c + 1) P' x' m (by omega) a b d f g) (q + 1) 0 _ M rfl (by omega) (by rw [Nat.zero_mul]; exact hL) hW (FrY.refl M)
      refine l.mono ?_
      intro r n' g' m' hh
      obtain ⟨r1, r2, r3, r4, r5, r6⟩ := hh
      exact ⟨r1, r2, r3, r4, fun i hi => by rw [r5 i hi, hW i hi], r6⟩
    refine w_iload_n dX8_tryFrom_0 rfl ?_
    refine w_aload_n dX8_tryFrom_1 rfl ?_
    refine r_getI (q := 0) dX8_tryFrom_2 fl8_39 g0_209 (by decide) rfl (by decide) rfl (fun r2 => ?_)
    refine w_icmp_lt (tgt := 9) dX8_tryFrom_5 (by decide) (by omega) (by omega) (fun h5 => ?_) (fun h5 => ?_)
    · refine w_iload_n dX8_tryFrom_9 rfl ?_
      refine w_aload_n dX8_tryFrom_10 rfl ?_
      refine w_getR (r := 23) dX8_tryFrom_11 fl8_28 g0_209 (by decide) rfl ?_
      refine r_getI (q := 0) dX8_tryFrom_14 fl8_50 (sk_g0 sk_23) (sk_n0 sk_23) rfl (by decide) rfl (fun r14 => ?_)
      refine w_icmp_ge (tgt := 25) dX8_tryFrom_17 (by decide) (by omega) (by omega) (fun h17 => ?_) (fun h17 => ?_)
      · exact absurd h17 (by omega)
      · refine w_iload_n dX8_tryFrom_20 rfl ?_
        refine w_iconst dX8_tryFrom_21 ?_
        refine w_icmp_lt (tgt := 56) dX8_tryFrom_22 (by decide) (by omega) (by omega) (fun h22 => ?_) (fun h22 => ?_)
        · refine w_aload_n dX8_tryFrom_56 rfl ?_
          refine w_getR (r := 23) dX8_tryFrom_57 fl8_28 g0_209 (by decide) rfl ?_
          refine w_iload_n dX8_tryFrom_60 rfl ?_
          refine cVm dX8_tryFrom_61 ok_X6_isGone lv8_66 (c_X6_isGone sk_23 (by omega) (by omega)) rfl (sk_k sk_23) (sk_n0 sk_23) (by decide) rfl (by omega) (Nat.le_of_ble_eq_true rfl) (fun r61 => ?_)
          refine w_ifB_eq (tgt := 71) dX8_tryFrom_64 (by decide) (fun h64 => ?_) (fun h64 => ?_)
          · (first | replace h64 := of_decide_eq_true h64 | replace h64 := of_decide_eq_false h64 | skip)
            refine w_iconst dX8_tryFrom_71 ?_
            refine w_istore dX8_tryFrom_72 (by decide) ?_
            refine w_iconst dX8_tryFrom_74 ?_
            refine w_istore dX8_tryFrom_75 (by decide) ?_
            first | exact go 0 (by rw [if_pos (by omega)]) | exact go 3 (by rw [if_neg (by omega)])
          · (first | replace h64 := of_decide_eq_true h64 | replace h64 := of_decide_eq_false h64 | skip)
            refine w_iconst dX8_tryFrom_67 ?_
            refine w_goto (tgt := 72) dX8_tryFrom_68 (by decide) ?_
            refine w_istore dX8_tryFrom_72 (by decide) ?_
            refine w_iconst dX8_tryFrom_74 ?_
            refine w_istore dX8_tryFrom_75 (by decide) ?_
            first | exact go 0 (by rw [if_pos (by omega)]) | exact go 3 (by rw [if_neg (by omega)])
        · exact absurd h22 (by omega)
    · refine w_vret dX8_tryFrom_8 rfl ?_ ⟨Nat.le_refl _, Nat.le_refl _⟩
      exact (q_xv ⟨by rw [← hN, fo_prune (by omega), hN]; exact hL, fun i _ => rfl, FrY.refl M⟩)
