/-! ===== the class's sky; the reference's reader ===== -/
theorem GT_rd {L : Int → Int} {n : Int} : ∀ (j : Nat) (T : SS) (s : RS), GT T → GT (rdL L n j T s).1
  | 0, _, _, h => h
  | j + 1, T, s, h => by
    rw [rdL]
    by_cases e : s.2 = 0 ∧ (T 0 = 0 ∨ s.1 < n)
    · rw [if_pos e]
      by_cases e2 : (rcS L n (T 0) s).2 = 0
      · rw [if_pos e2]; exact GT_rd j _ _ (GT_rc h e2).1
      · rw [if_neg e2]; exact h
    · rw [if_neg e]; exact h
theorem rd_some {L : Int → Int} {n : Int} : ∀ (j : Nat) (T : SS) (s : RS), GT T → (rdL L n j T s).2.2 = 0 → (0 < j ∧ s.2 = 0 ∨ 1 ≤ T 0) → 1 ≤ (rdL L n j T s).1 0
  | 0, _, _, _, _, h => h.resolve_left (fun w => absurd w.1 (Nat.lt_irrefl 0))
  | j + 1, T, s, hT, hz, h => by
    rw [rdL] at hz ⊢
    have hn := hT.2.1.1
    by_cases e : s.2 = 0 ∧ (T 0 = 0 ∨ s.1 < n)
    · rw [if_pos e] at hz ⊢
      by_cases e2 : (rcS L n (T 0) s).2 = 0
      · rw [if_pos e2] at hz ⊢
        have g := GT_rc hT e2
        exact rd_some j _ _ g.1 hz (Or.inr (by omega))
      · rw [if_neg e2] at hz
        exact absurd hz e2
    · rw [if_neg e] at hz ⊢
      rcases h with h | h
      · have : ¬ T 0 = 0 := fun q => e ⟨h.2, Or.inl q⟩
        show 1 ≤ T 0
        omega
      · exact h
theorem GT_lw {L : Int → Int} {n : Int} (h : (lwS L n).2 = 0) : GT (lwT L n) := by
  have eb := nm_0 (tk_0 h)
  have ea := nm_0 (tk_0 eb.1)
  have v1 : 0 ≤ nmV L n (lwA L n).1 ∧ nmV L n (lwA L n).1 ≤ 15 := ea.2
  have v2 : 1 ≤ nmV L n (lwB L n).1 ∧ nmV L n (lwB L n).1 ≤ 20 := eb.2
  have l0 : lwT L n 0 = 0 := rfl
  have l1 : lwT L n 1 = nmV L n (lwA L n).1 := rfl
  have l2 : lwT L n 2 = nmV L n (lwB L n).1 := rfl
  have l3 : lwT L n 3 = 0 := rfl
  refine ⟨fun q hq => ?_, ⟨by omega, by omega, by omega, by omega, fun c c0 c1 => absurd c1 (by omega), fun f f0 f1 => ?_⟩, l3⟩
  · unfold lwT
    rw [if_neg (by omega), if_neg (by omega)]
  · unfold lwT
    rw [if_neg (by omega), if_neg (by omega)]
    omega
theorem sky_good {L : Int → Int} {n : Int} {T9 : SS} {s9 : RS} (he : (T9, s9) = rdL L n 6 (lwT L n) (lwS L n)) (h : s9.2 = 0) : GS T9 ∧ 1 ≤ T9 0 := by
  have e1 : T9 = (rdL L n 6 (lwT L n) (lwS L n)).1 := congrArg Prod.fst he
  have e2 : s9 = (rdL L n 6 (lwT L n) (lwS L n)).2 := congrArg Prod.snd he
  have l0 : (lwS L n).2 = 0 := Decidable.by_contra (fun e => e (by rw [rdL_f e] at e2; have e3 : s9 = lwS L n := e2; rw [← e3]; exact h))
  have g := GT_rd (L := L) (n := n) 6 (lwT L n) (lwS L n) (GT_lw l0)
  have g1 := rd_some (L := L) (n := n) 6 (lwT L n) (lwS L n) (GT_lw l0) (by rw [← e2]; exact h) (Or.inl ⟨by decide, l0⟩)
  rw [← e1] at g g1
  exact ⟨⟨g.1, by rw [g.2.2]; exact g.2.1, by rw [g.2.2]; decide⟩, g1⟩
theorem POK_sky {p : PS} (h : POK p) : POK (skyR p).2 := by
  unfold skyR
  generalize hr : rdL p.tp p.tn 6 (lwT p.tp p.tn) (lwS p.tp p.tn) = r
  obtain ⟨T9, s9⟩ := r
  by_cases e : s9.2 = 0
  · have g := sky_good hr.symm e
    rw [if_pos (show ((T9, s9) : SS × RS).2.2 = 0 from e)]
    exact ⟨h.hl, (show (0 : Int) ≤ 0 ∧ (0 : Int) ≤ 100 by decide), g.1, Nat.zero_le _, fun j hj => absurd hj (Nat.not_lt_zero j), fun h0 => absurd (show T9 0 = 0 from h0) (by omega), h.hI, h.hr⟩
  · rw [if_neg (show ¬ ((T9, s9) : SS × RS).2.2 = 0 from e)]
    exact ⟨h.hl, (show (0 : Int) ≤ 0 ∧ (0 : Int) ≤ 100 by decide), h.hs, h.hu, h.hU, h.h0, h.hI, h.hr⟩
theorem CI.tp0 {M : MM} {p : PS} (h : CI M p) : CI (upM M 13 1 0) (⟨p.ln, p.sz, p.it, 0, p.tp, p.S, p.u, p.U, p.fl, p.I, p.lf, p.fd, p.tr, p.tb⟩ : PS) := by
  exact h.tape (fun i _ _ c => by rw [upM_cell (by omega)]) (by rw [upM_same]) (fun i a b => by rw [upM_cell (by omega)]; exact h.tp i a b)
theorem c_X9_sky {E : EV} {M : MM} {p : PS} (hC : CI M p) (hP : POK p) : Cx E mX9_sky 9 [vr 0] M (KC M (skyR p)) := by
  refine Ct.of [some (vr 0), none, none] rfl rfl rfl (Nat.le_of_ble_eq_true rfl) ?_
  have t : TP M p.tp p.tn := ⟨hC.tn, hC.tp, hP.ht⟩
  unfold skyR
  generalize hr : rdL p.tp p.tn 6 (lwT p.tp p.tn) (lwS p.tp p.tn) = r
  obtain ⟨T9, s9⟩ := r
  refine w_aload_n dX9_sky_0 rfl ?_
  refine w_getR (r := 15) dX9_sky_1 fl9_28 g0_0 (by decide) rfl ?_
  refine cVx dX9_sky_4 ok_X4_read lv9_131 (c_X4_read t hC.dr.1 hC.dr.2 hr.symm) rfl (congrArg Prod.fst g0_15) (by decide) (by decide) rfl (by decide) (Nat.le_of_ble_eq_true rfl) (fun z4 m4 r4 p4 => ?_)
  obtain ⟨pz, pR, pO, pV, pF⟩ := p4
  have c4 : CI m4 p := hC.read (fun i a b c => pF.1 i (by omega)) ⟨pF.2.trans hC.dr.1, fun f f0 f1 => by rw [pF.1 22 (by omega)]; exact hC.dr.2 f f0 f1⟩
  have c5 := c4.tp0
  have hH : Hi M (upM m4 13 1 0) := fun i hi => by rw [upM_cell (by omega), pF.1 i (by omega)]
  have o1 := pO.1
  have o2 := pO.2.1
  have o3 := pO.2.2
  have ht := hP.ht
  have k1 := pR.1
  refine w_istore_n dX9_sky_7 (by decide) ?_
  refine w_aload_n dX9_sky_8 rfl ?_
  refine w_getR (r := 15) dX9_sky_9 fl9_28 g0_0 (by decide) rfl ?_
  refine r_getI (q := 1) dX9_sky_12 fl9_135 g0_15 (by decide) rfl (by decide) rfl (fun r12 => ?_)
  refine w_istore_n dX9_sky_15 (by decide) ?_
  refine w_aload_n dX9_sky_16 rfl ?_
  refine w_getR (r := 13) dX9_sky_17 fl9_19 g0_0 (by decide) rfl ?_
  refine w_iconst dX9_sky_20 ?_
  refine r_putI (q := 1) dX9_sky_21 fl9_139 g0_13 (by decide) rfl (by decide) (by omega) rfl (by decide +kernel) rfl ?_
  refine w_iload_n dX9_sky_24 rfl ?_
  refine w_if_eq (tgt := 38) dX9_sky_25 (by decide) (by omega) (fun h25 => ?_) (fun h25 => ?_)
  · have e9 : s9.2 = 0 := by omega
    have g := sky_good hr.symm e9
    have hV : SV (upM m4 13 1 0) 16 T9 := (pV e9).same (fun i a b => upM_cell (by omega))
    refine w_aload_n dX9_sky_38 rfl ?_
    refine w_getR (r := 23) dX9_sky_39 fl9_35 g0_0 (by decide) rfl ?_
    refine w_aload_n dX9_sky_42 rfl ?_
    refine w_getR (r := 15) dX9_sky_43 fl9_28 g0_0 (by decide) rfl ?_
    refine w_getR (r := 16) dX9_sky_46 fl9_146 g0_15 (by decide) rfl ?_
    refine cVxv dX9_sky_49 ok_X6_become lv9_149 (c_X6_become sk_23 sk_16 (by omega) hV g.1.n.2) rfl (sk_k sk_23) (sk_n0 sk_23) (by decide) rfl (by decide) (Nat.le_of_ble_eq_true rfl) (fun m49 p49 => ?_)
    have k0 := p49.1.num
    have gn := g.1.n
    refine w_aload_n dX9_sky_52 rfl ?_
    refine w_getR (r := 30) dX9_sky_53 fl9_44 g0_0 (by decide) rfl ?_
    refine cVv dX9_sky_56 ok_X0_forgetAll lv9_152 c_X0_forgetAll rfl (congrArg Prod.fst g0_30) (by decide) (by decide) rfl (by decide) (Nat.le_of_ble_eq_true rfl) ?_
    refine w_aload_n dX9_sky_59 rfl ?_
    refine w_getR (r := 23) dX9_sky_60 fl9_35 g0_0 (by decide) rfl ?_
    refine r_getI (q := 0) dX9_sky_63 fl9_155 (sk_g0 sk_23) (sk_n0 sk_23) rfl (by decide) rfl (fun r63 => ?_)
    skip
    refine w_iret dX9_sky_66 rfl (by omega) ?_ ⟨Nat.le_refl _, Nat.le_refl _⟩
    exact (q_x (by rw [if_pos (show ((T9, s9) : SS × RS).2.2 = 0 from e9)]; exact ⟨by rw [upM_cell (by omega), upM_cell (by omega)]; exact k0, c5.sact (fun i a _ c => by rw [upM_cell (by omega), upM_cell (by omega)]; exact p49.2 i (by omega)) (p49.1.same (fun i x y => by rw [upM_cell (by omega), upM_cell (by omega)])) (by rw [upM_ne (by omega), upM_same]; rfl) ⟨0, by omega, by rw [upM_same]; rfl, fun j hj => absurd hj (by omega)⟩, fun i hi => by rw [upM_cell (by omega), upM_cell (by omega), p49.2 i (by omega)]; exact hH i hi⟩))
  · refine w_aload_n dX9_sky_28 rfl ?_
    refine w_iload_n dX9_sky_29 rfl ?_
    refine r_putI (q := 10) dX9_sky_30 fl9_142 g0_0 (by decide) rfl (by decide) (by omega) rfl (by decide +kernel) rfl ?_
    refine w_ldc dX9_sky_33 co9_145 ?_
    refine w_iload_n dX9_sky_35 rfl ?_
    refine w_isub dX9_sky_36 ?_
    refine w_iret dX9_sky_37 rfl (by omega) ?_ ⟨Nat.le_refl _, Nat.le_refl _⟩
    exact (q_x (by rw [if_neg (show ¬ ((T9, s9) : SS × RS).2.2 = 0 from (show ¬ s9.2 = 0 by omega))]; exact ⟨by show -1000100 - m4 15 1 = -1000100 - s9.1; rw [k1], by rw [pz]; exact c5.lff, hH.up (by omega)⟩))
/-! the reference's reader -/
def RM (M : MM) (s : RS) : Prop := M 238 10 = s.2 ∧ (s.2 = 0 → M 238 9 = s.1) ∧ (s.2 ≠ 0 → M 238 11 = s.1)
def TM (M : MM) (L : Int → Int) (n : Int) : Prop := M 238 8 = n ∧ (∀ i : Int, 0 ≤ i → i < 100 → M 245 i = L i) ∧ 0 ≤ n ∧ n ≤ 100
def FrW (M m : MM) : Prop := (∀ i : Nat, i ≠ 238 → m i = M i) ∧ ∀ k : Int, k < 9 ∨ 12 ≤ k → m 238 k = M 238 k
theorem FrW.refl (M : MM) : FrW M M := ⟨fun _ _ => rfl, fun _ _ => rfl⟩
theorem FrW.trans {M m m2 : MM} (h : FrW M m) (h2 : FrW m m2) : FrW M m2 := ⟨fun i hi => (h2.1 i hi).trans (h.1 i hi), fun k hk => (h2.2 k hk).trans (h.2 k hk)⟩
theorem FrW.up {M m : MM} {k v : Int} (h : FrW M m) (hk : 9 ≤ k ∧ k < 12) : FrW M (upM m 238 k v) := ⟨fun i hi => by rw [upM_cell hi]; exact h.1 i hi, fun j hj => by rw [upM_ne (by omega)]; exact h.2 j hj⟩
theorem FrW.tm {M m : MM} {L : Int → Int} {n : Int} (h : FrW M m) (t : TM M L n) : TM m L n := ⟨by rw [h.2 8 (by omega)]; exact t.1, fun i a b => by rw [h.1 245 (by omega)]; exact t.2.1 i a b, t.2.2⟩
theorem c_X10_wrong {E : EV} {M : MM} {w a : Int} (hw : R32 w) (ha : R32 a) : Cv E mX10_wrong 0 [vr 238, vi w, vi a] M (if M 238 10 = 0 then upM (upM M 238 10 w) 238 11 a else M) := by
  refine Ct.of [some (vr 238), some (vi w), some (vi a)] rfl rfl rfl (Nat.le_of_ble_eq_true rfl) ?_
  refine w_aload_n dX10_wrong_0 rfl ?_
  refine r_getI (q := 10) dX10_wrong_1 fl10_81 g0_238 (by decide) rfl (by decide) rfl (fun r1 => ?_)
  refine w_if_ne (tgt := 17) dX10_wrong_4 (by decide) (by omega) (fun h4 => ?_) (fun h4 => ?_)
  · refine w_vret dX10_wrong_17 rfl ?_ ⟨Nat.le_refl _, Nat.le_refl _⟩
    first | (refine q_v ?_; rw [if_pos (by omega)]; done) | (refine q_v ?_; rw [if_neg (by omega)]; done)
  · refine w_aload_n dX10_wrong_7 rfl ?_
    refine w_iload_n dX10_wrong_8 rfl ?_
    refine r_putI (q := 10) dX10_wrong_9 fl10_81 g0_238 (by decide) rfl (by decide) (by omega) rfl (by decide +kernel) rfl ?_
    refine w_aload_n dX10_wrong_12 rfl ?_
    refine w_iload_n dX10_wrong_13 rfl ?_
    refine r_putI (q := 11) dX10_wrong_14 fl10_84 g0_238 (by decide) rfl (by decide) (by omega) rfl (by decide +kernel) rfl ?_
    refine w_vret dX10_wrong_17 rfl ?_ ⟨Nat.le_refl _, Nat.le_refl _⟩
    first | (refine q_v ?_; rw [if_pos (by omega)]; done) | (refine q_v ?_; rw [if_neg (by omega)]; done)
theorem c_here {E : EV} {M : MM} {L : Int → Int} {n a : Int} (t : TM M L n) (h : M 238 9 = a) (a0 : 0 ≤ a) : Cm E mX10_here 0 [vr 238] M (if a < n then ltr L n a else 0) M := by
  refine Ct.of [some (vr 238)] rfl rfl rfl (Nat.le_of_ble_eq_true rfl) ?_
  have t1 := t.1
  have tn := t.2.2
  have e : a < n → M 245 (M 238 9) = ltr L n a := fun q => by rw [h, t.2.1 a a0 (by omega)]; unfold ltr; rw [if_pos ⟨a0, q⟩]
  refine w_aload_n dX10_here_0 rfl ?_
  refine r_getI (q := 9) dX10_here_1 fl10_78 g0_238 (by decide) rfl (by decide) rfl (fun r1 => ?_)
  refine w_aload_n dX10_here_4 rfl ?_
  refine r_getI (q := 8) dX10_here_5 fl10_74 g0_238 (by decide) rfl (by decide) rfl (fun r5 => ?_)
  refine w_icmp_ge (tgt := 23) dX10_here_8 (by decide) (by omega) (by omega) (fun h8 => ?_) (fun h8 => ?_)
  · refine w_iconst dX10_here_23 ?_
    refine w_iret dX10_here_24 rfl (by omega) ?_ ⟨Nat.le_refl _, Nat.le_refl _⟩
    first | exact q_i (by rw [if_neg (by omega)]) | exact q_i (by rw [if_pos (by omega)]; exact e (by omega))
  · refine w_aload_n dX10_here_11 rfl ?_
    refine w_getR (r := 245) dX10_here_12 fl10_28 g0_238 (by decide) rfl ?_
    refine w_aload_n dX10_here_15 rfl ?_
    refine r_getI (q := 9) dX10_here_16 fl10_78 g0_238 (by decide) rfl (by decide) rfl (fun r16 => ?_)
    refine r_ild dX10_here_19 g0_245 (by decide) (by omega) (by omega) (by decide) (fun r19 => ?_)
    refine w_goto (tgt := 24) dX10_here_20 (by decide) ?_
    refine w_iret dX10_here_24 rfl (by omega) ?_ ⟨Nat.le_refl _, Nat.le_refl _⟩
    first | exact q_i (by rw [if_neg (by omega)]) | exact q_i (by rw [if_pos (by omega)]; exact e (by omega))
theorem c_X10_must {E : EV} {M : MM} {L : Int → Int} {n c : Int} {s : RS} (t : TM M L n) (h : RM M s) (ho : okS n s) (c0 : 0 < c) (c1 : c ≤ 255) : Cxv E mX10_must 1 [vr 238, vi c] M (fun m => RM m (tkP L n c s) ∧ FrW M m) := by
  refine Ct.of [some (vr 238), some (vi c)] rfl rfl rfl (Nat.le_of_ble_eq_true rfl) ?_
  obtain ⟨h1, h2, h3⟩ := h
  obtain ⟨o1, o2, o3, o4⟩ := ho
  have t1 := t.1
  have tn := t.2.2
  by_cases e : s.2 = 0
  · have h2 := h2 e
    by_cases g : ltr L n s.1 = c
    · have gi := ltr_in (L := L) (n := n) (i := s.1) (by omega)
      have eP : tkP L n c s = (s.1 + 1, 0) := by unfold tkP; rw [if_neg (by omega), if_pos g]
      rw [eP]
      refine w_aload_n dX10_must_0 rfl ?_
      refine r_getI (q := 10) dX10_must_1 fl10_81 g0_238 (by decide) rfl (by decide) rfl (fun r1 => ?_)
      refine w_if_ne (tgt := 35) dX10_must_4 (by decide) (by omega) (fun h4 => ?_) (fun h4 => ?_)
      · exact absurd h4 (by omega)
      · refine w_aload_n dX10_must_7 rfl ?_
        refine r_getI (q := 9) dX10_must_8 fl10_78 g0_238 (by decide) rfl (by decide) rfl (fun r8 => ?_)
        refine w_aload_n dX10_must_11 rfl ?_
        refine r_getI (q := 8) dX10_must_12 fl10_74 g0_238 (by decide) rfl (by decide) rfl (fun r12 => ?_)
        refine w_icmp_eq (tgt := 26) dX10_must_15 (by decide) (by omega) (by omega) (fun h15 => ?_) (fun h15 => ?_)
        · exact absurd h15 (by omega)
        · refine w_aload_n dX10_must_18 rfl ?_
          refine cVm dX10_must_19 ok_X10_here lv10_87 (c_here t h2 o1) rfl (congrArg Prod.fst g0_238) (by decide) (by decide) rfl (by decide) (Nat.le_of_ble_eq_true rfl) (fun r19 => ?_)
          rw [if_pos gi.2]
          refine w_iload_n dX10_must_22 rfl ?_
          refine w_icmp_eq (tgt := 35) dX10_must_23 (by decide) (by omega) (by omega) (fun h23 => ?_) (fun h23 => ?_)
          · refine w_aload_n dX10_must_35 rfl ?_
            refine w_dup dX10_must_36 rfl ?_
            refine r_getI (q := 9) dX10_must_37 fl10_78 g0_238 (by decide) rfl (by decide) rfl (fun r37 => ?_)
            refine w_aload_n dX10_must_40 rfl ?_
            refine r_getI (q := 10) dX10_must_41 fl10_81 g0_238 (by decide) rfl (by decide) rfl (fun r41 => ?_)
            refine w_if_ne (tgt := 51) dX10_must_44 (by decide) (by omega) (fun h44 => ?_) (fun h44 => ?_)
            · exact absurd h44 (by omega)
            · refine w_iconst dX10_must_47 ?_
              refine w_goto (tgt := 52) dX10_must_48 (by decide) ?_
              refine w_iadd dX10_must_52 ?_
              refine r_putI (q := 9) dX10_must_53 fl10_78 g0_238 (by decide) rfl (by decide) (by omega) rfl (by decide +kernel) rfl ?_
              refine w_vret dX10_must_56 rfl ?_ ⟨Nat.le_refl _, Nat.le_refl _⟩
              exact (q_xv ⟨⟨by rw [upM_ne (by omega)]; omega, fun _ => by rw [upM_same, h2], fun q => absurd (show (0 : Int) = 0 from rfl) q⟩, (FrW.refl M).up (by omega)⟩)
          · exact absurd h23 (by omega)
    · have eP : tkP L n c s = (s.1, 1) := by unfold tkP; rw [if_neg (by omega), if_neg g]
      have lt : s.1 = n → ltr L n s.1 = -1 := fun q => if_neg (by omega)
      rw [eP]
      have tail : ∀ m : MM, m = upM (upM M 238 10 1) 238 11 s.1 → Wp E mX10_must (kd 1) 35 [some (vr 238), some (vi c)] [] N0 G0 m (Pxv (fun m => RM m (s.1, 1) ∧ FrW M m)) := by
        intro m hm
        subst hm
        have x1 : upM (upM M 238 10 1) 238 11 s.1 238 10 = 1 := by rw [upM_ne (by omega), upM_same]
        have x2 : upM (upM M 238 10 1) 238 11 s.1 238 9 = s.1 := by rw [upM_ne (by omega), upM_ne (by omega)]; exact h2
        refine w_aload_n dX10_must_35 rfl ?_
        refine w_dup dX10_must_36 rfl ?_
        refine r_getI (q := 9) dX10_must_37 fl10_78 g0_238 (by decide) rfl (by decide) rfl (fun r37 => ?_)
        refine w_aload_n dX10_must_40 rfl ?_
        refine r_getI (q := 10) dX10_must_41 fl10_81 g0_238 (by decide) rfl (by decide) rfl (fun r41 => ?_)
        refine w_if_ne (tgt := 51) dX10_must_44 (by decide) (by omega) (fun h44 => ?_) (fun h44 => ?_)
        · refine w_iconst dX10_must_51 ?_
          refine w_iadd dX10_must_52 ?_
          refine r_putI (q := 9) dX10_must_53 fl10_78 g0_238 (by decide) rfl (by decide) (by omega) rfl (by decide +kernel) rfl ?_
          refine w_vret dX10_must_56 rfl ?_ ⟨Nat.le_refl _, Nat.le_refl _⟩
          exact (q_xv ⟨⟨by rw [upM_ne (by omega)]; exact x1, fun q => absurd (show (1 : Int) = 0 from q) (by decide), fun _ => by rw [upM_ne (by omega), upM_same]⟩, (((FrW.refl M).up (by omega)).up (by omega)).up (by omega)⟩)
        · exact absurd h44 (by omega)
      refine w_aload_n dX10_must_0 rfl ?_
      refine r_getI (q := 10) dX10_must_1 fl10_81 g0_238 (by decide) rfl (by decide) rfl (fun r1 => ?_)
      refine w_if_ne (tgt := 35) dX10_must_4 (by decide) (by omega) (fun h4 => ?_) (fun h4 => ?_)
      · exact absurd h4 (by omega)
      · refine w_aload_n dX10_must_7 rfl ?_
        refine r_getI (q := 9) dX10_must_8 fl10_78 g0_238 (by decide) rfl (by decide) rfl (fun r8 => ?_)
        refine w_aload_n dX10_must_11 rfl ?_
        refine r_getI (q := 8) dX10_must_12 fl10_74 g0_238 (by decide) rfl (by decide) rfl (fun r12 => ?_)
        refine w_icmp_eq (tgt := 26) dX10_must_15 (by decide) (by omega) (by omega) (fun h15 => ?_) (fun h15 => ?_)
        · refine w_aload_n dX10_must_26 rfl ?_
          refine w_iconst dX10_must_27 ?_
          refine w_aload_n dX10_must_28 rfl ?_
          refine r_getI (q := 9) dX10_must_29 fl10_78 g0_238 (by decide) rfl (by decide) rfl (fun r29 => ?_)
          refine cVv dX10_must_32 ok_X10_wrong lv10_91 (c_X10_wrong (by omega) (by omega)) rfl (congrArg Prod.fst g0_238) (by decide) (by decide) rfl (by decide) (Nat.le_of_ble_eq_true rfl) ?_
          exact tail _ (by rw [if_pos (by omega), h2])
        · refine w_aload_n dX10_must_18 rfl ?_
          refine cVm dX10_must_19 ok_X10_here lv10_87 (c_here t h2 o1) rfl (congrArg Prod.fst g0_238) (by decide) (by decide) rfl (by decide) (Nat.le_of_ble_eq_true rfl) (fun r19 => ?_)
          rw [if_pos (show s.1 < n by omega)]
          refine w_iload_n dX10_must_22 rfl ?_
          refine w_icmp_eq (tgt := 35) dX10_must_23 (by decide) (by omega) (by omega) (fun h23 => ?_) (fun h23 => ?_)
          · exact absurd h23 (by omega)
          · refine w_aload_n dX10_must_26 rfl ?_
            refine w_iconst dX10_must_27 ?_
            refine w_aload_n dX10_must_28 rfl ?_
            refine r_getI (q := 9) dX10_must_29 fl10_78 g0_238 (by decide) rfl (by decide) rfl (fun r29 => ?_)
            refine cVv dX10_must_32 ok_X10_wrong lv10_91 (c_X10_wrong (by omega) (by omega)) rfl (congrArg Prod.fst g0_238) (by decide) (by decide) rfl (by decide) (Nat.le_of_ble_eq_true rfl) ?_
            exact tail _ (by rw [if_pos (by omega), h2])
  · have eP : tkP L n c s = s := if_pos e
    rw [eP]
    refine w_aload_n dX10_must_0 rfl ?_
    refine r_getI (q := 10) dX10_must_1 fl10_81 g0_238 (by decide) rfl (by decide) rfl (fun r1 => ?_)
    refine w_if_ne (tgt := 35) dX10_must_4 (by decide) (by omega) (fun h4 => ?_) (fun h4 => ?_)
    · refine w_aload_n dX10_must_35 rfl ?_
      refine w_dup dX10_must_36 rfl ?_
      refine r_getI (q := 9) dX10_must_37 fl10_78 g0_238 (by decide) rfl (by decide) rfl (fun r37 => ?_)
      refine w_aload_n dX10_must_40 rfl ?_
      refine r_getI (q := 10) dX10_must_41 fl10_81 g0_238 (by decide) rfl (by decide) rfl (fun r41 => ?_)
      refine w_if_ne (tgt := 51) dX10_must_44 (by decide) (by omega) (fun h44 => ?_) (fun h44 => ?_)
      · refine w_iconst dX10_must_51 ?_
        refine w_iadd dX10_must_52 ?_
        refine r_putI (q := 9) dX10_must_53 fl10_78 g0_238 (by decide) rfl (by decide) (by omega) rfl (by decide +kernel) rfl ?_
        refine w_vret dX10_must_56 rfl ?_ ⟨Nat.le_refl _, Nat.le_refl _⟩
        exact (q_xv ⟨⟨by rw [upM_ne (by omega)]; exact h1, fun q => absurd q e, fun q => by rw [upM_ne (by omega)]; exact h3 q⟩, (FrW.refl M).up (by omega)⟩)
      · exact absurd h44 (by omega)
    · exact absurd h4 (by omega)
