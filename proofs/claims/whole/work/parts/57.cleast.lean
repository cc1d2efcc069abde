/-! ===== the class: leastTow ===== -/
def lsF (S : SS) (n F : Nat) : LB := fo (stp S n F (S 0).toNat) 0 (4 ^ (S 0).toNat) (16, fun _ => 0)
def lstR (p : PS) (f n k : Int) : Int × PS := if p.S 0 = 0 then (-1000002, p) else if (0 ≤ f ∧ f ≤ 65535) ∧ (1 ≤ n ∧ n ≤ 24) ∧ -1 ≤ k ∧ k ≤ p.S 0 - 1 then ((if (lsF p.S n.toNat f.toNat).1 = 16 then -1000000 else if k < 0 then (lsF p.S n.toNat f.toNat).1 else (lsF p.S n.toNat f.toNat).2 k), p) else (-1000001, p)
theorem fo_ind {S : SS} {n F N a : Nat} {b1 b2 : Int → Int} : ∀ k, (fo (stp S n F N) a k (16, b1)).1 = (fo (stp S n F N) a k (16, b2)).1 ∧ ((fo (stp S n F N) a k (16, b1)).1 < 16 → fo (stp S n F N) a k (16, b1) = fo (stp S n F N) a k (16, b2))
  | 0 => ⟨rfl, fun h => absurd (show (16 : Int) < 16 from h) (by decide)⟩
  | k + 1 => by
    obtain ⟨i1, i2⟩ := fo_ind (S := S) (n := n) (F := F) (N := N) (a := a) (b1 := b1) (b2 := b2) k
    rw [fo, fo]
    generalize fo (stp S n F N) a k (16, b1) = x at i1 i2 ⊢
    generalize fo (stp S n F N) a k (16, b2) = y at i1 i2 ⊢
    unfold stp
    by_cases e : myC S N (a + k) = true ∧ ((smC N (a + k) : Nat) : Int) < x.1 ∧ F &&& wtC S n N (a + k) = F
    · rw [if_pos e, if_pos ⟨e.1, by rw [← i1]; exact e.2.1, e.2.2⟩]
      exact ⟨rfl, fun _ => rfl⟩
    · rw [if_neg e, if_neg (fun w => e ⟨w.1, by rw [i1]; exact w.2.1, w.2.2⟩)]
      exact ⟨i1, i2⟩
theorem c_X8_find {E : EV} {M : MM} {S : SS} {n F : Nat} (hV : SV M 23 S) (hO : SOK 9990 S) (hD : S 3 ≤ 1000) (n1 : n ≤ 24) (hF : F < 65536) : Cx E mX8_find 8 [vr 209, vi (F : Int), vi (n : Int)] M (fun z m => z = bi (decide ((lsF S n F).1 < 16)) ∧ m 209 0 = (lsF S n F).1 ∧ ((lsF S n F).1 < 16 → ∀ i : Nat, i < (S 0).toNat → m 210 (i : Int) = (lsF S n F).2 (i : Int)) ∧ Scr M m) := by
  refine Ct.of [some (vr 209), some (vi (F : Int)), some (vi (n : Int)), none] rfl rfl rfl (Nat.le_of_ble_eq_true rfl) ?_
  have hn := hO.1
  have lr := fo_r (S := S) (n := n) (F := F) (N := (S 0).toNat) (a := 0) (x := (16, fun _ => 0)) ⟨by decide, by decide⟩ (4 ^ (S 0).toNat)
  have lr2 : 0 ≤ (lsF S n F).1 ∧ (lsF S n F).1 ≤ 16 := lr
  refine w_aload_n dX8_find_0 rfl ?_
  refine w_iload_n dX8_find_1 rfl ?_
  refine r_putI (q := 6) dX8_find_2 fl8_31 g0_209 (by decide) rfl (by decide) (by omega) rfl (by decide +kernel) rfl ?_
  refine w_aload_n dX8_find_5 rfl ?_
  refine w_iload_n dX8_find_6 rfl ?_
  refine cVxv dX8_find_7 ok_X8_findWetted lv8_35 (c_X8_findWetted (S := S) (hV.same (fun i a b => upM_cell (by omega))) hO hD n1) rfl (congrArg Prod.fst g0_209) (by decide) (by decide) rfl (by omega) (Nat.le_of_ble_eq_true rfl) (fun m7 p7 => ?_)
  refine w_bipush dX8_find_10 (by decide +kernel) ?_
  refine w_istore_n dX8_find_12 (by decide) ?_
  refine w_aload_n dX8_find_13 rfl ?_
  refine w_iload_n dX8_find_14 rfl ?_
  refine r_putI (q := 0) dX8_find_15 fl8_39 g0_209 (by decide) rfl (by decide) (by omega) rfl (by decide +kernel) rfl ?_
  refine wgen (fun m => ENV m S n F ∧ m 209 0 = 16 ∧ Scr M m) ⟨⟨hV.same (fun i a b => by rw [upM_cell (by omega), p7.2 i (by omega), upM_cell (by omega)]), by rw [upM_ne (by omega), p7.2 209 (by omega), upM_same], fun i hi => by rw [upM_cell (by omega)]; exact p7.1 i hi⟩, by rw [upM_same], fun i hi => by rw [upM_cell (by omega), p7.2 i (by omega), upM_cell (by omega)]⟩ (fun m hm => ?_)
  obtain ⟨a1, a2, a3⟩ := hm
  refine w_aload_n dX8_find_18 rfl ?_
  refine w_iconst dX8_find_19 ?_
  refine w_iconst dX8_find_20 ?_
  refine w_iconst dX8_find_21 ?_
  refine cVxv dX8_find_22 ok_X8_tryFrom lv8_42 (c_tryFrom (n := n) (F := F) hn.1 hn.2 hF (S 0).toNat 0 0 (16, m 210) m (by omega) rfl (show (0 : Int) ≤ 16 ∧ (16 : Int) ≤ 16 by decide) a1 ⟨a2, fun i _ => rfl⟩ (fun i hi => absurd hi (Nat.not_lt_zero i))) rfl (congrArg Prod.fst g0_209) (by decide) (by decide) rfl (by omega) (Nat.le_of_ble_eq_true rfl) (fun m22 p22 => ?_)
  have fi := fo_ind (S := S) (n := n) (F := F) (N := (S 0).toNat) (a := 0) (b1 := m 210) (b2 := fun _ => 0) (4 ^ (S 0).toNat)
  obtain ⟨⟨y1, y2⟩, y3, y4⟩ := p22
  rw [Nat.zero_mul] at y1 y2
  have y5 : m22 209 0 = (lsF S n F).1 := y1.trans fi.1
  have y6 : (lsF S n F).1 < 16 → ∀ i : Nat, i < (S 0).toNat → m22 210 (i : Int) = (lsF S n F).2 (i : Int) := fun h i hi => by rw [y2 i hi, fi.2 (by rw [fi.1]; exact h)]; rfl
  have y7 : Scr M m22 := fun i hi => by rw [y4.1 i (by omega) (by omega) (by omega)]; exact a3 i hi
  refine w_aload_n dX8_find_25 rfl ?_
  refine r_getI (q := 0) dX8_find_26 fl8_39 g0_209 (by decide) rfl (by decide) rfl (fun r26 => ?_)
  refine w_iload_n dX8_find_29 rfl ?_
  refine w_icmp_ge (tgt := 37) dX8_find_30 (by decide) (by omega) (by omega) (fun h30 => ?_) (fun h30 => ?_)
  · refine w_iconst dX8_find_37 ?_
    refine w_zret (b := false) dX8_find_38 rfl ?_ ⟨Nat.le_refl _, Nat.le_refl _⟩
    first | exact q_x ⟨by rw [decide_eq_true (by omega)], y5, y6, y7⟩ | exact q_x ⟨by rw [decide_eq_false (by omega)], y5, y6, y7⟩
  · refine w_iconst dX8_find_33 ?_
    refine w_goto (tgt := 38) dX8_find_34 (by decide) ?_
    refine w_zret (b := true) dX8_find_38 rfl ?_ ⟨Nat.le_refl _, Nat.le_refl _⟩
    first | exact q_x ⟨by rw [decide_eq_true (by omega)], y5, y6, y7⟩ | exact q_x ⟨by rw [decide_eq_false (by omega)], y5, y6, y7⟩
theorem c_X9_leastTow {E : EV} {M : MM} {p : PS} {f n k : Int} (hC : CI M p) (hP : POK p) (hf : R32 f) (hn9 : R32 n) (hk : R32 k) : Cx E mX9_leastTow 9 [vr 0, vi f, vi n, vi k] M (KC M (lstR p f n k)) := by
  refine Ct.of [some (vr 0), some (vi f), some (vi n), some (vi k)] rfl rfl rfl (Nat.le_of_ble_eq_true rfl) ?_
  have e0 := hC.S.num
  have hn := hP.hs.n
  have hd := hP.hs.d
  refine w_aload_n dX9_leastTow_0 rfl ?_
  refine cVm dX9_leastTow_1 ok_X9_noSky lv9_165 c_X9_noSky rfl (congrArg Prod.fst g0_0) (by decide) (by decide) rfl (by omega) (Nat.le_of_ble_eq_true rfl) (fun r1 => ?_)
  refine w_ifB_eq (tgt := 10) dX9_leastTow_4 (by decide) (fun h4 => ?_) (fun h4 => ?_)
  · (first | replace h4 := of_decide_eq_true h4 | replace h4 := of_decide_eq_false h4 | skip)
    refine w_iload_n dX9_leastTow_10 rfl ?_
    refine w_iconst dX9_leastTow_11 ?_
    refine w_bipush dX9_leastTow_12 (by decide +kernel) ?_
    refine cSm dX9_leastTow_14 ok_X9_within (Or.inl ls9_86) (c_X9_within (by omega) (by omega) (by omega)) rfl  rfl (by omega) (Nat.le_of_ble_eq_true rfl) (fun r14 => ?_)
    refine w_ifB_eq (tgt := 47) dX9_leastTow_17 (by decide) (fun h17 => ?_) (fun h17 => ?_)
    · (first | replace h17 := of_decide_eq_true h17 | replace h17 := of_decide_eq_false h17 | skip)
      refine w_ldc dX9_leastTow_47 co9_90 ?_
      refine w_iret dX9_leastTow_49 rfl (by omega) ?_ ⟨Nat.le_refl _, Nat.le_refl _⟩
      exact (q_x (KC.stay hC (by unfold lstR; ((repeat (first | rw [if_pos (by omega)] | rw [if_neg (by omega)])) <;> rfl))))
    · (first | replace h17 := of_decide_eq_true h17 | replace h17 := of_decide_eq_false h17 | skip)
      refine w_iload_n dX9_leastTow_20 rfl ?_
      refine w_iconst dX9_leastTow_21 ?_
      refine w_ldc dX9_leastTow_22 co9_254 ?_
      refine cSm dX9_leastTow_24 ok_X9_within (Or.inl ls9_86) (c_X9_within (by omega) (by omega) (by omega)) rfl  rfl (by omega) (Nat.le_of_ble_eq_true rfl) (fun r24 => ?_)
      refine w_ifB_eq (tgt := 47) dX9_leastTow_27 (by decide) (fun h27 => ?_) (fun h27 => ?_)
      · (first | replace h27 := of_decide_eq_true h27 | replace h27 := of_decide_eq_false h27 | skip)
        refine w_ldc dX9_leastTow_47 co9_90 ?_
        refine w_iret dX9_leastTow_49 rfl (by omega) ?_ ⟨Nat.le_refl _, Nat.le_refl _⟩
        exact (q_x (KC.stay hC (by unfold lstR; ((repeat (first | rw [if_pos (by omega)] | rw [if_neg (by omega)])) <;> rfl))))
      · (first | replace h27 := of_decide_eq_true h27 | replace h27 := of_decide_eq_false h27 | skip)
        refine w_iload_n dX9_leastTow_30 rfl ?_
        refine w_iconst dX9_leastTow_31 ?_
        refine w_aload_n dX9_leastTow_32 rfl ?_
        refine w_getR (r := 23) dX9_leastTow_33 fl9_35 g0_0 (by decide) rfl ?_
        refine r_getI (q := 0) dX9_leastTow_36 fl9_155 (sk_g0 sk_23) (sk_n0 sk_23) rfl (by decide) rfl (fun r36 => ?_)
        refine w_iconst dX9_leastTow_39 ?_
        refine w_isub dX9_leastTow_40 ?_
        refine cSm dX9_leastTow_41 ok_X9_within (Or.inl ls9_86) (c_X9_within (by omega) (by omega) (by omega)) rfl  rfl (by omega) (Nat.le_of_ble_eq_true rfl) (fun r41 => ?_)
        refine w_ifB_ne (tgt := 50) dX9_leastTow_44 (by decide) (fun h44 => ?_) (fun h44 => ?_)
        · (first | replace h44 := of_decide_eq_true h44 | replace h44 := of_decide_eq_false h44 | skip)
          obtain ⟨g, rfl⟩ : ∃ g : Nat, f = g := ⟨f.toNat, by omega⟩
          obtain ⟨h, rfl⟩ : ∃ h : Nat, n = h := ⟨n.toNat, by omega⟩
          refine w_aload_n dX9_leastTow_50 rfl ?_
          refine w_getR (r := 209) dX9_leastTow_51 fl9_64 g0_0 (by decide) rfl ?_
          refine w_iload_n dX9_leastTow_54 rfl ?_
          refine w_iload_n dX9_leastTow_55 rfl ?_
          refine cVx dX9_leastTow_56 ok_X8_find lv9_255 (c_X8_find (n := h) (F := g) hC.S hP.hs.ok (by omega) (by omega) (by omega)) rfl (congrArg Prod.fst g0_209) (by decide) (by decide) rfl (by omega) (Nat.le_of_ble_eq_true rfl) (fun z56 m56 r56 p56 => ?_)
          obtain ⟨pz, p1, p2, pS⟩ := p56
          subst pz
          have lr : 0 ≤ (lsF p.S h g).1 ∧ (lsF p.S h g).1 ≤ 16 := fo_r (show (0 : Int) ≤ 16 ∧ (16 : Int) ≤ 16 by decide) _
          refine w_ifB_ne (tgt := 65) dX9_leastTow_59 (by decide) (fun h59 => ?_) (fun h59 => ?_)
          · (first | replace h59 := of_decide_eq_true h59 | replace h59 := of_decide_eq_false h59 | skip)
            refine w_iload_n dX9_leastTow_65 rfl ?_
            refine w_if_ge (tgt := 79) dX9_leastTow_66 (by decide) (by omega) (fun h66 => ?_) (fun h66 => ?_)
            · have kk := p2 h59 k.toNat (by omega)
              rw [show ((k.toNat : Nat) : Int) = k by omega] at kk
              refine w_aload_n dX9_leastTow_79 rfl ?_
              refine w_getR (r := 209) dX9_leastTow_80 fl9_64 g0_0 (by decide) rfl ?_
              refine w_getR (r := 210) dX9_leastTow_83 fl9_261 g0_209 (by decide) rfl ?_
              refine w_iload_n dX9_leastTow_86 rfl ?_
              refine r_ild dX9_leastTow_87 g0_210 (by decide) (by omega) (by omega) (by decide) (fun r87 => ?_)
              refine w_iret dX9_leastTow_88 rfl (by omega) ?_ ⟨Nat.le_refl _, Nat.le_refl _⟩
              first | (refine q_x (KC.keep' hC pS (z' := (lsF p.S h g).1) p1 ?_); unfold lstR; rw [if_neg (by omega), if_pos (by omega), Int.toNat_natCast, Int.toNat_natCast, if_neg (by omega), if_pos (by omega)]; done) | (refine q_x (KC.keep' hC pS (z' := (lsF p.S h g).2 k) kk ?_); unfold lstR; rw [if_neg (by omega), if_pos (by omega), Int.toNat_natCast, Int.toNat_natCast, if_neg (by omega), if_neg (by omega)]; done)
            · refine w_aload_n dX9_leastTow_69 rfl ?_
              refine w_getR (r := 209) dX9_leastTow_70 fl9_64 g0_0 (by decide) rfl ?_
              refine r_getI (q := 0) dX9_leastTow_73 fl9_258 g0_209 (by decide) rfl (by decide) rfl (fun r73 => ?_)
              refine w_goto (tgt := 88) dX9_leastTow_76 (by decide) ?_
              refine w_iret dX9_leastTow_88 rfl (by omega) ?_ ⟨Nat.le_refl _, Nat.le_refl _⟩
              first | (refine q_x (KC.keep' hC pS (z' := (lsF p.S h g).1) p1 ?_); unfold lstR; rw [if_neg (by omega), if_pos (by omega), Int.toNat_natCast, Int.toNat_natCast, if_neg (by omega), if_pos (by omega)]; done) | (refine q_x (KC.keep' hC pS (z' := (lsF p.S h g).2 k) kk ?_); unfold lstR; rw [if_neg (by omega), if_pos (by omega), Int.toNat_natCast, Int.toNat_natCast, if_neg (by omega), if_neg (by omega)]; done)
          · (first | replace h59 := of_decide_eq_true h59 | replace h59 := of_decide_eq_false h59 | skip)
            refine w_ldc dX9_leastTow_62 co9_230 ?_
            refine w_iret dX9_leastTow_64 rfl (by omega) ?_ ⟨Nat.le_refl _, Nat.le_refl _⟩
            exact (q_x (KC.keep hC pS (by unfold lstR; rw [if_neg (by omega), if_pos (by omega), Int.toNat_natCast, Int.toNat_natCast, if_pos (by omega)])))
        · (first | replace h44 := of_decide_eq_true h44 | replace h44 := of_decide_eq_false h44 | skip)
          refine w_ldc dX9_leastTow_47 co9_90 ?_
          refine w_iret dX9_leastTow_49 rfl (by omega) ?_ ⟨Nat.le_refl _, Nat.le_refl _⟩
          exact (q_x (KC.stay hC (by unfold lstR; ((repeat (first | rw [if_pos (by omega)] | rw [if_neg (by omega)])) <;> rfl))))
  · (first | replace h4 := of_decide_eq_true h4 | replace h4 := of_decide_eq_false h4 | skip)
    refine w_ldc dX9_leastTow_7 co9_161 ?_
    refine w_iret dX9_leastTow_9 rfl (by omega) ?_ ⟨Nat.le_refl _, Nat.le_refl _⟩
    exact (q_x (KC.stay hC (by unfold lstR; ((repeat (first | rw [if_pos (by omega)] | rw [if_neg (by omega)])) <;> rfl))))
