/-! ===== the reference's sky ===== -/
theorem DR.st {m : MM} {T : SS} {j v : Int} (h : DR m T) : DR (upM m 244 j v) (upS T j v) := fun q q0 q1 => by
  rw [upS_at]
  by_cases e : q = j
  · rw [e, upM_same, if_pos rfl]
  · rw [upM_ne (fun w => e w.2), if_neg e]; exact h q q0 q1
theorem DR.fr {m m2 : MM} {T : SS} (h : DR m T) (f : FrW m m2) : DR m2 T := fun q q0 q1 => by rw [f.1 244 (by omega)]; exact h q q0 q1
theorem RM.st {m : MM} {s : RS} {j v : Int} (h : RM m s) : RM (upM m 244 j v) s := ⟨by rw [upM_cell (by omega)]; exact h.1, fun e => by rw [upM_cell (by omega)]; exact h.2.1 e, fun e => by rw [upM_cell (by omega)]; exact h.2.2 e⟩
theorem l_X10_skyZ {E : EV} {M : MM} {Q : PP} (hQ : Wp E mX10_sky (kd 9) 31 [some (vr 238), some (vi 45)] [] N0 G0 (zR M 244 0 45) Q) :
    ∀ (k c : Nat) (z : Int) (m : MM), z = (c : Int) → m = zR M 244 0 (c : Int) → c ≤ 45 → 45 - c < k → Wp E mX10_sky (kd 9) 12 [some (vr 238), some (vi z)] [] N0 G0 m Q := by
  intro k
  induction k with
  | zero => intro c z m hz hm hc hk; exact absurd hk (by omega)
  | succ k ih =>
    intro c z m hz hm hc hk
    subst hz
    subst hm
    refine w_iload_n dX10_sky_12 rfl ?_
    refine w_bipush dX10_sky_13 (by decide +kernel) ?_
    refine w_icmp_ge (tgt := 31) dX10_sky_15 (by decide) (by omega) (by omega) (fun h15 => ?_) (fun h15 => ?_)
    · have ec : c = 45 := by omega
      subst ec
      exact hQ
    · refine w_aload_n dX10_sky_18 rfl ?_
      refine w_getR (r := 244) dX10_sky_19 fl10_25 g0_238 (by decide) rfl ?_
      refine w_iload_n dX10_sky_22 rfl ?_
      refine w_iconst dX10_sky_23 ?_
      refine r_ist dX10_sky_24 g0_244 (by decide) (by omega) (by omega) (by omega) (by decide) ?_
      refine w_iinc dX10_sky_25 rfl (by decide) ?_
      refine w_goto (tgt := 12) dX10_sky_28 (by decide) ?_
      exact ih (c + 1) _ _ (by omega) (by rw [zR_step M 244 (by omega)]; rfl) (by omega) (by omega)
theorem l_X10_skyC {E : EV} {M : MM} {Q : PP} (hQ : Wp E mX10_sky (kd 9) 163 [some (vr 238), some (vi 45)] [] N0 G0 (cpM M 244 243 0 0 45) Q) :
    ∀ (k c : Nat) (z : Int) (m : MM), z = (c : Int) → m = cpM M 244 243 0 0 (c : Int) → c ≤ 45 → 45 - c < k → Wp E mX10_sky (kd 9) 139 [some (vr 238), some (vi z)] [] N0 G0 m Q := by
  intro k
  induction k with
  | zero => intro c z m hz hm hc hk; exact absurd hk (by omega)
  | succ k ih =>
    intro c z m hz hm hc hk
    subst hz
    subst hm
    have er : cpM M 244 243 0 0 (c : Int) 244 (0 + (c : Int)) = M 244 (0 + (c : Int)) := by rw [cpM_cell (by omega)]
    refine w_iload_n dX10_sky_139 rfl ?_
    refine w_bipush dX10_sky_140 (by decide +kernel) ?_
    refine w_icmp_ge (tgt := 163) dX10_sky_142 (by decide) (by omega) (by omega) (fun h142 => ?_) (fun h142 => ?_)
    · have ec : c = 45 := by omega
      subst ec
      exact hQ
    · refine w_aload_n dX10_sky_145 rfl ?_
      refine w_getR (r := 243) dX10_sky_146 fl10_22 g0_238 (by decide) rfl ?_
      refine w_iload_n dX10_sky_149 rfl ?_
      refine w_aload_n dX10_sky_150 rfl ?_
      refine w_getR (r := 244) dX10_sky_151 fl10_25 g0_238 (by decide) rfl ?_
      refine w_iload_n dX10_sky_154 rfl ?_
      refine r_ildq (q := 0 + (c : Int)) dX10_sky_155 g0_244 (by decide) (by omega) (by omega) (by omega) (by decide) (fun r155 => ?_)
      refine r_istq (q := 0 + (c : Int)) dX10_sky_156 g0_243 (by decide) (by omega) (by omega) (by omega) (by omega) (by decide) ?_
      refine w_iinc dX10_sky_157 rfl (by decide) ?_
      refine w_goto (tgt := 139) dX10_sky_160 (by decide) ?_
      exact ih (c + 1) _ _ (by omega) (by rw [er, show ((c + 1 : Nat) : Int) = (c : Int) + 1 by omega, ← cp_step (by decide) (by omega)]) (by omega) (by omega)
theorem l_X10_sky {E : EV} {M : MM} {L : Int → Int} {n y : Int} {T9 : SS} {s9 : RS} {Q : PP} (hQ : ∀ m : MM, RM m s9 → okS n s9 → (s9.2 = 0 → DR m T9) → FrV M m → Wp E mX10_sky (kd 9) 109 [some (vr 238), some (vi y)] [] N0 G0 m Q) :
    ∀ (j : Nat) (T : SS) (s : RS) (m : MM), TM m L n → RM m s → okS n s → (s.2 = 0 → DR m T ∧ T 0 + (j : Int) = 6 ∧ 0 ≤ T 0 ∧ 1 ≤ j) → FrV M m → (T9, s9) = rdL L n j T s → Wp E mX10_sky (kd 9) 75 [some (vr 238), some (vi y)] [] N0 G0 m Q := by
  intro j
  induction j with
  | zero =>
    intro T s m t h ho hT hF he
    have e9 : T9 = T ∧ s9 = s := ⟨congrArg Prod.fst he, congrArg Prod.snd he⟩
    obtain ⟨rfl, rfl⟩ := e9
    have h1 := h.1
    refine w_aload_n dX10_sky_75 rfl ?_
    refine r_getI (q := 10) dX10_sky_76 fl10_81 g0_238 (by decide) rfl (by decide) rfl (fun r76 => ?_)
    refine w_if_ne (tgt := 109) dX10_sky_79 (by decide) (by omega) (fun h79 => ?_) (fun h79 => ?_)
    · exact hQ m h ho (fun e => (hT e).1) hF
    · exact absurd (hT (by omega)).2.2.2 (by omega)
  | succ j ih =>
    intro T s m t h ho hT hF he
    have h1 := h.1
    have t1 := t.1
    have tn := t.2.2
    obtain ⟨oa, ob, oc, od, oe⟩ := ok_rc (L := L) (k := T 0) ho
    have stop : ¬ (s.2 = 0 ∧ (T 0 = 0 ∨ s.1 < n)) → T9 = T ∧ s9 = s := fun hh => by
      rw [rdL, if_neg hh] at he
      exact ⟨congrArg Prod.fst he, congrArg Prod.snd he⟩
    have call : s.2 = 0 → (T 0 = 0 ∨ s.1 < n) → Wp E mX10_sky (kd 9) 102 [some (vr 238), some (vi y)] [] N0 G0 m Q := by
      intro e0 ec
      obtain ⟨d1, d2, d3, d4⟩ := hT e0
      rw [rdL, if_pos ⟨e0, ec⟩] at he
      refine w_aload_n dX10_sky_102 rfl ?_
      refine cVxv dX10_sky_103 ok_X10_readCloud lv10_110 (c_X10_readCloud t h ho e0 d1 d3 (by omega)) rfl (congrArg Prod.fst g0_238) (by decide) (by decide) rfl (by decide) (Nat.le_of_ble_eq_true rfl) (fun m103 p103 => ?_)
      refine w_goto (tgt := 75) dX10_sky_106 (by decide) ?_
      by_cases e9 : (rcS L n (T 0) s).2 = 0
      · rw [if_pos e9] at he
        have q5 := (sr_0 (rc_0 e9).2.1).2.2
        exact ih _ _ _ (p103.2.2.tm t) p103.1 oe (fun e => ⟨p103.2.1 e, by unfold rcT; rw [adC_0]; omega, by unfold rcT; rw [adC_0]; omega, by omega⟩) (hF.trans p103.2.2) he
      · rw [if_neg e9] at he
        exact ih T _ _ (p103.2.2.tm t) p103.1 oe (fun e => absurd e e9) (hF.trans p103.2.2) (by rw [rdL_f e9]; exact he)
    refine w_aload_n dX10_sky_75 rfl ?_
    refine r_getI (q := 10) dX10_sky_76 fl10_81 g0_238 (by decide) rfl (by decide) rfl (fun r76 => ?_)
    refine w_if_ne (tgt := 109) dX10_sky_79 (by decide) (by omega) (fun h79 => ?_) (fun h79 => ?_)
    · have hs9 := stop (by omega)
      obtain ⟨rfl, rfl⟩ := hs9
      exact hQ m h ho (fun e => (hT e).1) hF
    · have e0 : s.2 = 0 := by omega
      obtain ⟨d1, d2, d3, d4⟩ := hT e0
      have x0 : m 244 0 = T 0 := d1 0 (by omega) (by omega)
      have x9 := h.2.1 e0
      have o1 := ho.1
      have o2 := ho.2.1
      refine w_aload_n dX10_sky_82 rfl ?_
      refine w_getR (r := 244) dX10_sky_83 fl10_25 g0_238 (by decide) rfl ?_
      refine w_iconst dX10_sky_86 ?_
      refine r_ild dX10_sky_87 g0_244 (by decide) (by omega) (by omega) (by decide) (fun r87 => ?_)
      refine w_if_eq (tgt := 102) dX10_sky_88 (by decide) (by omega) (fun h88 => ?_) (fun h88 => ?_)
      · first | exact call e0 (Or.inl (by omega)) | exact call e0 (Or.inr (by omega))
      · refine w_aload_n dX10_sky_91 rfl ?_
        refine r_getI (q := 9) dX10_sky_92 fl10_78 g0_238 (by decide) rfl (by decide) rfl (fun r92 => ?_)
        refine w_aload_n dX10_sky_95 rfl ?_
        refine r_getI (q := 8) dX10_sky_96 fl10_74 g0_238 (by decide) rfl (by decide) rfl (fun r96 => ?_)
        refine w_icmp_ge (tgt := 109) dX10_sky_99 (by decide) (by omega) (by omega) (fun h99 => ?_) (fun h99 => ?_)
        · have hs9 := stop (by omega)
          obtain ⟨rfl, rfl⟩ := hs9
          exact hQ m h ho (fun e => (hT e).1) hF
        · first | exact call e0 (Or.inl (by omega)) | exact call e0 (Or.inr (by omega))
theorem c_X10_sky {E : EV} {M : MM} {p : PS} (hI : MI M p) (hP : POK p) : Cx E mX10_sky 9 [vr 238] M (KM M (skyR p)) := by
  refine Ct.of [some (vr 238), none] rfl rfl rfl (Nat.le_of_ble_eq_true rfl) ?_
  have ht := hP.ht
  have t : TM M p.tp p.tn := ⟨hI.tn, fun i _ _ => by rw [hI.tp], ht⟩
  obtain ⟨oa, ob, oc⟩ := ok_lw (L := p.tp) ht.1
  have z0 : okS p.tn ((0 : Int), (0 : Int)) := ⟨Int.le_refl 0, ht.1, Int.le_refl 0, by decide⟩
  unfold skyR
  generalize hr : rdL p.tp p.tn 6 (lwT p.tp p.tn) (lwS p.tp p.tn) = r
  obtain ⟨T9, s9⟩ := r
  have mi : ∀ m : MM, FrV M m → MI (upM m 238 8 0) (⟨p.ln, p.sz, p.it, 0, p.tp, p.S, p.u, p.U, p.fl, p.I, p.lf, p.fd, p.tr, p.tb⟩ : PS) ∧ Lo M (upM m 238 8 0) := fun m hF => by
    have h1 : MI m p := hI.same (fun i a b c d => hF.1 i (by omega) (by omega)) (fun k hk => hF.2 k hk)
    exact ⟨h1.tape (fun i a _ _ _ _ => by rw [upM_cell (by omega)]) (fun k _ hk => by rw [upM_ne (fun w => hk w.2)]) (by rw [upM_same]) (by rw [upM_cell (by omega)]; exact h1.tp), fun i hi => by rw [upM_cell (by omega), hF.1 i (by omega) (by omega)]⟩
  have fin : ∀ m : MM, RM m s9 → okS p.tn s9 → (s9.2 = 0 → DR m T9) → FrV M m → Wp E mX10_sky (kd 9) 109 [some (vr 238), some (vi 45)] [] N0 G0 m (Px (KM M (if (T9, s9).2.2 = 0 then ((T9, s9).1 0, (⟨p.ln, p.sz, p.it, 0, p.tp, ((T9, s9) : SS × RS).1, 0, p.U, p.fl, p.I, p.lf, p.fd, p.tr, p.tb⟩ : PS)) else (-1000100 - (T9, s9).2.1, (⟨p.ln, p.sz, p.it, 0, p.tp, p.S, p.u, p.U, p.fl, p.I, ((T9, s9) : SS × RS).2.2, p.fd, p.tr, p.tb⟩ : PS))))) := by
    intro m hm ho hD hF
    obtain ⟨i1, l1⟩ := mi m hF
    obtain ⟨o1, o2, o3, o4⟩ := ho
    have x1 : upM m 238 8 0 238 10 = s9.2 := by rw [upM_ne (by omega)]; exact hm.1
    by_cases e9 : s9.2 = 0
    · have g := sky_good hr.symm e9
      have gn := g.1.n
      rw [if_pos (show ((T9, s9) : SS × RS).2.2 = 0 from e9)]
      have eS : cpM (upM m 238 8 0) 244 243 0 0 45 243 = T9 := by
        refine cp_sky (S := p.S) (by have := i1.S; exact this) hP.hs.1 g.1.1 (fun q q0 q1 => ?_)
        rw [upM_cell (by omega), Int.zero_add]
        exact hD e9 q q0 q1
      have e0 : upM (upM (cpM (upM m 238 8 0) 244 243 0 0 45) 238 13 1) 238 15 0 243 0 = T9 0 := by rw [upM_cell (by omega), upM_cell (by omega), eS]
      refine w_aload_n dX10_sky_109 rfl ?_
      refine w_iconst dX10_sky_110 ?_
      refine r_putI (q := 8) dX10_sky_111 fl10_74 g0_238 (by decide) rfl (by decide) (by omega) rfl (by decide +kernel) rfl ?_
      refine w_aload_n dX10_sky_114 rfl ?_
      refine r_getI (q := 10) dX10_sky_115 fl10_81 g0_238 (by decide) rfl (by decide) rfl (fun r115 => ?_)
      refine w_if_eq (tgt := 137) dX10_sky_118 (by decide) (by omega) (fun h118 => ?_) (fun h118 => ?_)
      · refine w_iconst dX10_sky_137 ?_
        refine w_istore_n dX10_sky_138 (by decide) ?_
        refine l_X10_skyC ?_ 46 0 _ _ rfl (cp_none _ _ _ _ _).symm (by omega) (by omega)
        refine w_aload_n dX10_sky_163 rfl ?_
        refine w_iconst dX10_sky_164 ?_
        refine r_putZ (q := 13) dX10_sky_165 fl10_117 g0_238 (by decide) rfl (by decide) (by omega) rfl (by decide +kernel) rfl ?_
        refine w_aload_n dX10_sky_168 rfl ?_
        refine w_iconst dX10_sky_169 ?_
        refine r_putI (q := 15) dX10_sky_170 fl10_121 g0_238 (by decide) rfl (by decide) (by omega) rfl (by decide +kernel) rfl ?_
        refine w_aload_n dX10_sky_173 rfl ?_
        refine w_getR (r := 243) dX10_sky_174 fl10_22 g0_238 (by decide) rfl ?_
        refine w_iconst dX10_sky_177 ?_
        refine r_ild dX10_sky_178 g0_243 (by decide) (by omega) (by omega) (by decide) (fun r178 => ?_)
        refine w_iret dX10_sky_179 rfl (by omega) ?_ ⟨Nat.le_refl _, Nat.le_refl _⟩
        exact q_x ⟨e0, i1.sact (fun i a b c d e f => by rw [upM_cell (by omega), upM_cell (by omega), cpM_cell b]) (fun k _ k1 k2 => by rw [upM_ne (fun w => k2 w.2), upM_ne (fun w => k1 w.2), cpM_cell (by omega)]) (by rw [upM_cell (by omega), upM_cell (by omega)]; exact eS) (by rw [upM_ne (by omega), upM_same]; exact (if_neg (show ¬ T9 0 = 0 by omega)).symm) (by rw [upM_same]; rfl) (fun j hj q x y => by rw [upM_cell (by omega), upM_cell (by omega), cpM_cell (by omega)]; exact i1.U j hj q x y), ((l1.cp (by omega)).up (by omega)).up (by omega)⟩
      · exact absurd h118 (by omega)
    · rw [if_neg (show ¬ ((T9, s9) : SS × RS).2.2 = 0 from e9)]
      have x2 : upM (upM m 238 8 0) 238 12 (upM m 238 8 0 238 10) 238 11 = s9.1 := by rw [upM_ne (by omega), upM_ne (by omega)]; exact hm.2.2 e9
      refine w_aload_n dX10_sky_109 rfl ?_
      refine w_iconst dX10_sky_110 ?_
      refine r_putI (q := 8) dX10_sky_111 fl10_74 g0_238 (by decide) rfl (by decide) (by omega) rfl (by decide +kernel) rfl ?_
      refine w_aload_n dX10_sky_114 rfl ?_
      refine r_getI (q := 10) dX10_sky_115 fl10_81 g0_238 (by decide) rfl (by decide) rfl (fun r115 => ?_)
      refine w_if_eq (tgt := 137) dX10_sky_118 (by decide) (by omega) (fun h118 => ?_) (fun h118 => ?_)
      · exact absurd h118 (by omega)
      · refine w_aload_n dX10_sky_121 rfl ?_
        refine w_aload_n dX10_sky_122 rfl ?_
        refine r_getI (q := 10) dX10_sky_123 fl10_81 g0_238 (by decide) rfl (by decide) rfl (fun r123 => ?_)
        refine r_putI (q := 12) dX10_sky_126 fl10_113 g0_238 (by decide) rfl (by decide) (by omega) rfl (by decide +kernel) rfl ?_
        refine w_ldc dX10_sky_129 co10_116 ?_
        refine w_aload_n dX10_sky_131 rfl ?_
        refine r_getI (q := 11) dX10_sky_132 fl10_84 g0_238 (by decide) rfl (by decide) rfl (fun r132 => ?_)
        refine w_isub dX10_sky_135 ?_
        refine w_iret dX10_sky_136 rfl (by omega) ?_ ⟨Nat.le_refl _, Nat.le_refl _⟩
        exact (q_x ⟨by rw [x2], by rw [x1]; exact i1.lff (fun i a _ _ _ => by rw [upM_cell (by omega)]) (fun k _ hk => by rw [upM_ne (fun w => hk w.2)]) (by rw [upM_same]), l1.up (by omega)⟩)
  refine w_aload_n dX10_sky_0 rfl ?_
  refine w_iconst dX10_sky_1 ?_
  refine r_putI (q := 9) dX10_sky_2 fl10_78 g0_238 (by decide) rfl (by decide) (by omega) rfl (by decide +kernel) rfl ?_
  refine w_aload_n dX10_sky_5 rfl ?_
  refine w_iconst dX10_sky_6 ?_
  refine r_putI (q := 10) dX10_sky_7 fl10_81 g0_238 (by decide) rfl (by decide) (by omega) rfl (by decide +kernel) rfl ?_
  refine w_iconst dX10_sky_10 ?_
  refine w_istore_n dX10_sky_11 (by decide) ?_
  refine l_X10_skyZ ?_ 46 0 _ _ rfl (zR_none _ _ _).symm (by omega) (by omega)
  refine wgen (fun m => RM m (0, 0) ∧ DR m (fun _ => 0) ∧ FrV M m) ⟨⟨by rw [zR_cell (by omega), upM_same], fun _ => by rw [zR_cell (by omega), upM_ne (by omega), upM_same], fun q => absurd (show (0 : Int) = 0 from rfl) q⟩, fun q q0 q1 => by unfold zR; rw [if_pos ⟨rfl, q0, q1⟩], ⟨fun i a b => by rw [zR_cell b, upM_cell a, upM_cell a], fun k hk => by rw [zR_cell (by omega), upM_ne (by omega), upM_ne (by omega)]⟩⟩ (fun m0 hm0 => ?_)
  obtain ⟨a1, a2, a3⟩ := hm0
  have t0 := a3.tm t
  refine w_aload_n dX10_sky_31 rfl ?_
  refine w_bipush dX10_sky_32 (by decide +kernel) ?_
  refine cVxv dX10_sky_34 ok_X10_must lv10_106 (c_X10_must t0 a1 z0 (by omega) (by omega)) rfl (congrArg Prod.fst g0_238) (by decide) (by decide) rfl (by decide) (Nat.le_of_ble_eq_true rfl) (fun m34 p34 => ?_)
  have f1 := a3.trans p34.2.v
  have t1 := f1.tm t
  have d1 := a2.fr p34.2
  refine w_aload_n dX10_sky_37 rfl ?_
  refine w_getR (r := 244) dX10_sky_38 fl10_25 g0_238 (by decide) rfl ?_
  refine w_iconst dX10_sky_41 ?_
  refine w_aload_n dX10_sky_42 rfl ?_
  refine w_iconst dX10_sky_43 ?_
  refine w_bipush dX10_sky_44 (by decide +kernel) ?_
  refine cVx dX10_sky_46 ok_X10_number lv10_102 (c_X10_number (lo := 0) (hi := 15) t1 p34.1 oa (by omega) (by omega)) rfl (congrArg Prod.fst g0_238) (by decide) (by decide) rfl (by decide) (Nat.le_of_ble_eq_true rfl) (fun z46 m46 r46 p46 => ?_)
  refine r_ist dX10_sky_49 g0_244 (by decide) (by omega) (by omega) (by omega) (by decide) ?_
  refine wgen (fun m => RM m (nmS p.tp p.tn 0 15 (lwA p.tp p.tn)) ∧ DR m (upS (fun _ => 0) 1 z46) ∧ FrV M m) ⟨p46.2.1.st, (d1.fr p46.2.2).st, (f1.trans p46.2.2.v).st⟩ (fun m2 hm2 => ?_)
  obtain ⟨b1, b2, b3⟩ := hm2
  have t2 := b3.tm t
  refine w_aload_n dX10_sky_50 rfl ?_
  refine w_bipush dX10_sky_51 (by decide +kernel) ?_
  refine cVxv dX10_sky_53 ok_X10_must lv10_106 (c_X10_must t2 b1 (ok_nm oa) (by omega) (by omega)) rfl (congrArg Prod.fst g0_238) (by decide) (by decide) rfl (by decide) (Nat.le_of_ble_eq_true rfl) (fun m53 p53 => ?_)
  have f3 := b3.trans p53.2.v
  have t3 := f3.tm t
  have d3 := b2.fr p53.2
  refine w_aload_n dX10_sky_56 rfl ?_
  refine w_getR (r := 244) dX10_sky_57 fl10_25 g0_238 (by decide) rfl ?_
  refine w_iconst dX10_sky_60 ?_
  refine w_aload_n dX10_sky_61 rfl ?_
  refine w_iconst dX10_sky_62 ?_
  refine w_bipush dX10_sky_63 (by decide +kernel) ?_
  refine cVx dX10_sky_65 ok_X10_number lv10_102 (c_X10_number (lo := 1) (hi := 20) t3 p53.1 ob (by omega) (by omega)) rfl (congrArg Prod.fst g0_238) (by decide) (by decide) rfl (by decide) (Nat.le_of_ble_eq_true rfl) (fun z65 m65 r65 p65 => ?_)
  refine r_ist dX10_sky_68 g0_244 (by decide) (by omega) (by omega) (by omega) (by decide) ?_
  refine wgen (fun m => RM m (nmS p.tp p.tn 1 20 (lwB p.tp p.tn)) ∧ DR m (upS (upS (fun _ => 0) 1 z46) 2 z65) ∧ FrV M m) ⟨p65.2.1.st, (d3.fr p65.2.2).st, (f3.trans p65.2.2.v).st⟩ (fun m4 hm4 => ?_)
  obtain ⟨c1, c2, c3⟩ := hm4
  have t4 := c3.tm t
  refine w_aload_n dX10_sky_69 rfl ?_
  refine w_bipush dX10_sky_70 (by decide +kernel) ?_
  refine cVxv dX10_sky_72 ok_X10_must lv10_106 (c_X10_must t4 c1 (ok_nm ob) (by omega) (by omega)) rfl (congrArg Prod.fst g0_238) (by decide) (by decide) rfl (by decide) (Nat.le_of_ble_eq_true rfl) (fun m72 p72 => ?_)
  refine l_X10_sky fin 6 (lwT p.tp p.tn) _ _ ((c3.trans p72.2.v).tm t) p72.1 oc (fun e => ⟨fun q q0 q1 => ?_, by show (0 : Int) + ((6 : Nat) : Int) = 6; rfl, Int.le_refl 0, by omega⟩) (c3.trans p72.2.v) hr.symm
  have eb := nm_0 (tk_0 e)
  have ea := nm_0 (tk_0 eb.1)
  rw [(c2.fr p72.2) q q0 q1, upS_at, upS_at, p65.1 (tk_0 e) eb.1, p46.1 (tk_0 eb.1) ea.1]
  unfold lwT
  (repeat' split) <;> first | rfl | omega
