/-! ===== the class reads a sky ===== -/
theorem c_X4_readLaw {E : EV} {M : MM} {L : Int → Int} {n : Int} (t : TP M L n) (h : RC M (0, 0)) : Cxv E mX4_readLaw 2 [vr 15] M (fun m => RC m (lwS L n) ∧ ((lwS L n).2 = 0 → m 16 1 = lwT L n 1 ∧ m 16 2 = lwT L n 2) ∧ m 16 0 = M 16 0 ∧ FrD M m) := by
  refine Ct.of [some (vr 15)] rfl rfl rfl (Nat.le_of_ble_eq_true rfl) ?_
  have tn := t.2.2
  obtain ⟨oa, ob, oc⟩ := ok_lw (L := L) tn.1
  have z0 : okS n ((0 : Int), (0 : Int)) := ⟨Int.le_refl 0, tn.1, Int.le_refl 0, by decide⟩
  refine w_aload_n dX4_readLaw_0 rfl ?_
  refine w_bipush dX4_readLaw_1 (by decide +kernel) ?_
  refine cVxv dX4_readLaw_3 ok_X4_take lv4_44 (c_X4_take t h z0 (by omega)) rfl (congrArg Prod.fst g0_15) (by decide) (by decide) rfl (by decide) (Nat.le_of_ble_eq_true rfl) (fun m3 p3 => ?_)
  have t3 := p3.2.tp t
  refine w_aload_n dX4_readLaw_6 rfl ?_
  refine w_getR (r := 16) dX4_readLaw_7 fl4_12 g0_15 (by decide) rfl ?_
  refine w_aload_n dX4_readLaw_10 rfl ?_
  refine w_iconst dX4_readLaw_11 ?_
  refine w_bipush dX4_readLaw_12 (by decide +kernel) ?_
  refine cVx dX4_readLaw_14 ok_X4_takeNumber lv4_47 (c_X4_takeNumber (lo := 0) (hi := 15) t3 p3.1 oa (by omega) (by omega)) rfl (congrArg Prod.fst g0_15) (by decide) (by decide) rfl (by decide) (Nat.le_of_ble_eq_true rfl) (fun z14 m14 r14 p14 => ?_)
  refine r_putI (q := 1) dX4_readLaw_17 fl4_51 (sk_g0 sk_16) (sk_n0 sk_16) rfl (by decide) (by omega) rfl (by decide +kernel) rfl ?_
  refine wgen (fun m => RC m (nmS L n 0 15 (lwA L n)) ∧ TP m L n ∧ ((nmS L n 0 15 (lwA L n)).2 = 0 → m 16 1 = lwT L n 1) ∧ m 16 0 = M 16 0 ∧ FrD M m) ⟨⟨by rw [upM_cell (by omega)]; exact p14.2.1.1, by rw [upM_cell (by omega)]; exact p14.2.1.2⟩, ⟨by rw [upM_cell (by omega)]; exact (p14.2.2.tp t3).1, fun i a b => by rw [upM_cell (by omega)]; exact (p14.2.2.tp t3).2.1 i a b, tn⟩, fun e => by rw [upM_same, p14.1 e (nm_0 e).1]; rfl, by rw [upM_ne (by omega), p14.2.2 16 (by omega), p3.2 16 (by omega)], ⟨fun i hi => by rw [upM_cell (by omega), p14.2.2 i (by omega), p3.2 i (by omega)], by rw [upM_ne (by omega), p14.2.2 16 (by omega), p3.2 16 (by omega)]⟩⟩ (fun m hm => ?_)
  obtain ⟨a1, a2, a3, a4, a5⟩ := hm
  refine w_aload_n dX4_readLaw_20 rfl ?_
  refine w_bipush dX4_readLaw_21 (by decide +kernel) ?_
  refine cVxv dX4_readLaw_23 ok_X4_take lv4_44 (c_X4_take a2 a1 (ok_nm oa) (by omega)) rfl (congrArg Prod.fst g0_15) (by decide) (by decide) rfl (by decide) (Nat.le_of_ble_eq_true rfl) (fun m23 p23 => ?_)
  have t23 := p23.2.tp a2
  refine w_aload_n dX4_readLaw_26 rfl ?_
  refine w_getR (r := 16) dX4_readLaw_27 fl4_12 g0_15 (by decide) rfl ?_
  refine w_aload_n dX4_readLaw_30 rfl ?_
  refine w_iconst dX4_readLaw_31 ?_
  refine w_bipush dX4_readLaw_32 (by decide +kernel) ?_
  refine cVx dX4_readLaw_34 ok_X4_takeNumber lv4_47 (c_X4_takeNumber (lo := 1) (hi := 20) t23 p23.1 ob (by omega) (by omega)) rfl (congrArg Prod.fst g0_15) (by decide) (by decide) rfl (by decide) (Nat.le_of_ble_eq_true rfl) (fun z34 m34 r34 p34 => ?_)
  refine r_putI (q := 2) dX4_readLaw_37 fl4_54 (sk_g0 sk_16) (sk_n0 sk_16) rfl (by decide) (by omega) rfl (by decide +kernel) rfl ?_
  refine wgen (fun m2 => RC m2 (nmS L n 1 20 (lwB L n)) ∧ TP m2 L n ∧ ((nmS L n 1 20 (lwB L n)).2 = 0 → m2 16 1 = lwT L n 1 ∧ m2 16 2 = lwT L n 2) ∧ m2 16 0 = M 16 0 ∧ FrD M m2) ⟨⟨by rw [upM_cell (by omega)]; exact p34.2.1.1, by rw [upM_cell (by omega)]; exact p34.2.1.2⟩, ⟨by rw [upM_cell (by omega)]; exact (p34.2.2.tp t23).1, fun i a b => by rw [upM_cell (by omega)]; exact (p34.2.2.tp t23).2.1 i a b, tn⟩, fun e => ⟨by rw [upM_ne (by omega), p34.2.2 16 (by omega), p23.2 16 (by omega)]; exact a3 (tk_0 (nm_0 e).1), by rw [upM_same, p34.1 e (nm_0 e).1]; rfl⟩, by rw [upM_ne (by omega), p34.2.2 16 (by omega), p23.2 16 (by omega)]; exact a4, ⟨fun i hi => by rw [upM_cell (by omega), p34.2.2 i (by omega), p23.2 i (by omega)]; exact a5.1 i hi, by rw [upM_ne (by omega), p34.2.2 16 (by omega), p23.2 16 (by omega)]; exact a5.2⟩⟩ (fun m2 hm2 => ?_)
  obtain ⟨b1, b2, b3, b4, b5⟩ := hm2
  refine w_aload_n dX4_readLaw_40 rfl ?_
  refine w_bipush dX4_readLaw_41 (by decide +kernel) ?_
  refine cVxv dX4_readLaw_43 ok_X4_take lv4_44 (c_X4_take b2 b1 (ok_nm ob) (by omega)) rfl (congrArg Prod.fst g0_15) (by decide) (by decide) rfl (by decide) (Nat.le_of_ble_eq_true rfl) (fun m43 p43 => ?_)
  refine w_vret dX4_readLaw_46 rfl ?_ ⟨Nat.le_refl _, Nat.le_refl _⟩
  exact (q_xv ⟨p43.1, fun e => by rw [p43.2 16 (by omega)]; exact b3 (tk_0 e), by rw [p43.2 16 (by omega)]; exact b4, b5.trans p43.2.d⟩)
theorem c_X4_readCloud {E : EV} {M : MM} {L : Int → Int} {n k : Int} {T : SS} {s : RS} (t : TP M L n) (h : RC M s) (ho : okS n s) (k0 : 0 ≤ k) (k5 : k ≤ 5) (hT : s.2 = 0 → SV M 16 T ∧ T 0 = k) : Cxv E mX4_readCloud 2 [vr 15, vi k] M (fun m => RC m (rcS L n k s) ∧ ((rcS L n k s).2 = 0 → SV m 16 (rcT L n T s)) ∧ FrD M m) := by
  refine Ct.of [some (vr 15), some (vi k), none, none, none, none, none] rfl rfl rfl (Nat.le_of_ble_eq_true rfl) ?_
  obtain ⟨oa, ob, oc, od, oe⟩ := ok_rc (L := L) (k := k) ho
  refine w_aload_n dX4_readCloud_0 rfl ?_
  refine w_iload_n dX4_readCloud_1 rfl ?_
  refine cVx dX4_readCloud_2 ok_X4_takeSort lv4_57 (c_X4_takeSort t h ho (by omega)) rfl (congrArg Prod.fst g0_15) (by decide) (by decide) rfl (by decide) (Nat.le_of_ble_eq_true rfl) (fun z2 m2 r2 p2 => ?_)
  have t2 := p2.2.2.2.tp t
  refine w_istore_n dX4_readCloud_5 (by decide) ?_
  refine w_aload_n dX4_readCloud_6 rfl ?_
  refine w_iconst dX4_readCloud_7 ?_
  refine w_bipush dX4_readCloud_8 (by decide +kernel) ?_
  refine cVx dX4_readCloud_10 ok_X4_takeNumber lv4_47 (c_X4_takeNumber (lo := 0) (hi := 15) t2 p2.2.2.1 oa (by omega) (by omega)) rfl (congrArg Prod.fst g0_15) (by decide) (by decide) rfl (by decide) (Nat.le_of_ble_eq_true rfl) (fun z10 m10 r10 p10 => ?_)
  have t10 := p10.2.2.tp t2
  refine w_istore_n dX4_readCloud_13 (by decide) ?_
  refine w_aload_n dX4_readCloud_14 rfl ?_
  refine w_bipush dX4_readCloud_15 (by decide +kernel) ?_
  refine cVxv dX4_readCloud_17 ok_X4_take lv4_44 (c_X4_take t10 p10.2.1 (ok_nm oa) (by omega)) rfl (congrArg Prod.fst g0_15) (by decide) (by decide) rfl (by decide) (Nat.le_of_ble_eq_true rfl) (fun m17 p17 => ?_)
  have t17 := p17.2.tp t10
  refine w_aload_n dX4_readCloud_20 rfl ?_
  refine w_iconst dX4_readCloud_21 ?_
  refine w_bipush dX4_readCloud_22 (by decide +kernel) ?_
  refine cVx dX4_readCloud_24 ok_X4_takeNumber lv4_47 (c_X4_takeNumber (lo := 1) (hi := 8) t17 p17.1 ob (by omega) (by omega)) rfl (congrArg Prod.fst g0_15) (by decide) (by decide) rfl (by decide) (Nat.le_of_ble_eq_true rfl) (fun z24 m24 r24 p24 => ?_)
  have t24 := p24.2.2.tp t17
  refine w_istore dX4_readCloud_27 (by decide) ?_
  refine w_aload_n dX4_readCloud_29 rfl ?_
  refine w_bipush dX4_readCloud_30 (by decide +kernel) ?_
  refine cVxv dX4_readCloud_32 ok_X4_take lv4_44 (c_X4_take t24 p24.2.1 (ok_nm ob) (by omega)) rfl (congrArg Prod.fst g0_15) (by decide) (by decide) rfl (by decide) (Nat.le_of_ble_eq_true rfl) (fun m32 p32 => ?_)
  have t32 := p32.2.tp t24
  refine w_aload_n dX4_readCloud_35 rfl ?_
  refine w_iconst dX4_readCloud_36 ?_
  refine w_bipush dX4_readCloud_37 (by decide +kernel) ?_
  refine cVx dX4_readCloud_39 ok_X4_takeNumber lv4_47 (c_X4_takeNumber (lo := 1) (hi := 60) t32 p32.1 oc (by omega) (by omega)) rfl (congrArg Prod.fst g0_15) (by decide) (by decide) rfl (by decide) (Nat.le_of_ble_eq_true rfl) (fun z39 m39 r39 p39 => ?_)
  have t39 := p39.2.2.tp t32
  refine w_istore dX4_readCloud_42 (by decide) ?_
  refine w_aload_n dX4_readCloud_44 rfl ?_
  refine w_bipush dX4_readCloud_45 (by decide +kernel) ?_
  refine cVxv dX4_readCloud_47 ok_X4_take lv4_44 (c_X4_take t39 p39.2.1 (ok_nm oc) (by omega)) rfl (congrArg Prod.fst g0_15) (by decide) (by decide) rfl (by decide) (Nat.le_of_ble_eq_true rfl) (fun m47 p47 => ?_)
  have t47 := p47.2.tp t39
  refine w_aload_n dX4_readCloud_50 rfl ?_
  refine w_iconst dX4_readCloud_51 ?_
  refine w_bipush dX4_readCloud_52 (by decide +kernel) ?_
  refine cVx dX4_readCloud_54 ok_X4_takeNumber lv4_47 (c_X4_takeNumber (lo := 0) (hi := 9) t47 p47.1 od (by omega) (by omega)) rfl (congrArg Prod.fst g0_15) (by decide) (by decide) rfl (by decide) (Nat.le_of_ble_eq_true rfl) (fun z54 m54 r54 p54 => ?_)
  have t54 := p54.2.2.tp t47
  refine w_istore dX4_readCloud_57 (by decide) ?_
  refine w_aload_n dX4_readCloud_59 rfl ?_
  refine w_bipush dX4_readCloud_60 (by decide +kernel) ?_
  refine cVxv dX4_readCloud_62 ok_X4_take lv4_44 (c_X4_take t54 p54.2.1 (ok_nm od) (by omega)) rfl (congrArg Prod.fst g0_15) (by decide) (by decide) rfl (by decide) (Nat.le_of_ble_eq_true rfl) (fun m62 p62 => ?_)
  have fr : FrR M m62 := fun i hi => by rw [p62.2 i hi, p54.2.2 i hi, p47.2 i hi, p39.2.2 i hi, p32.2 i hi, p24.2.2 i hi, p17.2 i hi, p10.2.2 i hi, p2.2.2.2 i hi]
  have ef : m62 15 3 = (rcS L n k s).2 := p62.1.2
  refine w_aload_n dX4_readCloud_65 rfl ?_
  refine r_getI (q := 3) dX4_readCloud_66 fl4_26 g0_15 (by decide) rfl (by decide) rfl (fun r66 => ?_)
  refine w_if_ne (tgt := 87) dX4_readCloud_69 (by decide) (by omega) (fun h69 => ?_) (fun h69 => ?_)
  · refine w_vret dX4_readCloud_87 rfl ?_ ⟨Nat.le_refl _, Nat.le_refl _⟩
    first | exact absurd h69 (by omega) | exact q_xv ⟨p62.1, fun e => absurd h69 (by omega), fr.d⟩ | exact q_xv ⟨⟨by rw [p84.2.2]; exact p62.1.1, by rw [p84.2.2]; exact p62.1.2⟩, fun _ => by unfold rcT; rw [hk, ← v0, ← v1, ← v2, ← v3, ← v4]; exact p84.1, fr.d.trans p84.2.1⟩
  · refine w_aload_n dX4_readCloud_72 rfl ?_
    refine w_getR (r := 16) dX4_readCloud_73 fl4_12 g0_15 (by decide) rfl ?_
    refine w_iload_n dX4_readCloud_76 rfl ?_
    refine w_iload_n dX4_readCloud_77 rfl ?_
    refine w_iload dX4_readCloud_78 rfl ?_
    refine w_iload dX4_readCloud_80 rfl ?_
    refine w_iload dX4_readCloud_82 rfl ?_
    have e9 : (rcS L n k s).2 = 0 := by omega
    have ed := nm_0 (tk_0 e9)
    have ec := nm_0 (tk_0 ed.1)
    have eb := nm_0 (tk_0 ec.1)
    have ea := nm_0 (tk_0 eb.1)
    have es := sr_0 ea.1
    obtain ⟨hV, hk⟩ := hT es.1
    have hV2 : SV m62 16 T := hV.same (fun i a b => fr i (by omega))
    refine cVxv dX4_readCloud_84 ok_X6_addCloud lv4_61 (c_X6_addCloud hV2 (by omega) (by omega) (by omega) r10 r24 r39 r54) rfl (sk_k sk_16) (sk_n0 sk_16) (by decide) rfl (by decide) (Nat.le_of_ble_eq_true rfl) (fun m84 p84 => ?_)
    have v0 : z2 = kndF (ltr L n s.1) := p2.1 ea.1
    have v1 : z10 = nmV L n (rcA L n k s).1 := p10.1 (tk_0 eb.1) ea.1
    have v2 : z24 = nmV L n (rcB L n k s).1 := p24.1 (tk_0 ec.1) eb.1
    have v3 : z39 = nmV L n (rcC L n k s).1 := p39.1 (tk_0 ed.1) ec.1
    have v4 : z54 = nmV L n (rcD L n k s).1 := p54.1 (tk_0 e9) ed.1
    refine w_vret dX4_readCloud_87 rfl ?_ ⟨Nat.le_refl _, Nat.le_refl _⟩
    first | exact absurd h69 (by omega) | exact q_xv ⟨p62.1, fun e => absurd h69 (by omega), fr.d⟩ | exact q_xv ⟨⟨by rw [p84.2.2]; exact p62.1.1, by rw [p84.2.2]; exact p62.1.2⟩, fun _ => by unfold rcT; rw [hk, ← v0, ← v1, ← v2, ← v3, ← v4]; exact p84.1, fr.d.trans p84.2.1⟩
theorem adC_0 (T : SS) (k a b c d : Int) : adC T k a b c d 0 = T 0 + 1 := if_pos rfl
theorem rcS_f {L : Int → Int} {n k : Int} {s : RS} (h : s.2 ≠ 0) : rcS L n k s = s := by
  have a : srS L n k s = s := if_pos h
  have tk : ∀ c, tkP L n c s = s := fun c => if_pos h
  have nm : ∀ lo hi, nmS L n lo hi s = s := fun lo hi => if_pos h
  unfold rcS rcD rcC rcB rcA
  rw [a, nm, tk, nm, tk, nm, tk, nm, tk]
theorem rdL_f {L : Int → Int} {n : Int} {T : SS} {s : RS} (h : s.2 ≠ 0) : ∀ j : Nat, rdL L n j T s = (T, s)
  | 0 => rfl
  | _ + 1 => if_neg (fun w => h w.1)
theorem l_X4_read {E : EV} {M : MM} {L : Int → Int} {n : Int} {T9 : SS} {s9 : RS} :
    ∀ (j k : Nat) (z : Int) (T : SS) (s : RS) (m : MM), z = (k : Int) → k + j = 6 → 1 ≤ k → TP m L n → RC m s → okS n s → (s.2 = 0 → SV m 16 T ∧ T 0 = (k : Int)) → FrD M m → (T9, s9) = rdL L n j T s → (s.2 = 0 → k ≤ 5) → Wp E mX4_read (kd 3) 29 [some (vr 15), some (vi z)] [] N0 G0 m (Px (fun z m => z = s9.2 ∧ RC m s9 ∧ okS n s9 ∧ (s9.2 = 0 → SV m 16 T9) ∧ FrD M m)) := by
  intro j
  induction j with
  | zero =>
    intro k z T s m hz hk k1 t h ho hT hF he h6
    subst hz
    have e9 : T9 = T ∧ s9 = s := ⟨congrArg Prod.fst he, congrArg Prod.snd he⟩
    obtain ⟨rfl, rfl⟩ := e9
    have h2 := h.2
    refine w_iload_n dX4_read_29 rfl ?_
    refine w_iconst dX4_read_30 ?_
    refine w_icmp_gt (tgt := 66) dX4_read_31 (by decide) (by omega) (by omega) (fun h31 => ?_) (fun h31 => ?_)
    · refine w_aload_n dX4_read_66 rfl ?_
      refine r_getI (q := 3) dX4_read_67 fl4_26 g0_15 (by decide) rfl (by decide) rfl (fun r67 => ?_)
      refine w_iret dX4_read_70 rfl (by omega) ?_ ⟨Nat.le_refl _, Nat.le_refl _⟩
      exact (q_x ⟨h2, h, ho, fun e => (hT e).1, hF⟩)
    · exact absurd h31 (by omega)
  | succ j ih =>
    intro k z T s m hz hk k1 t h ho hT hF he h6
    subst hz
    have h1 := h.1
    have h2 := h.2
    have t1 := t.1
    have tn := t.2.2
    have oo := ho
    obtain ⟨o1, o2, o3, o4⟩ := oo
    obtain ⟨oa, ob, oc, od, oe⟩ := ok_rc (L := L) (k := (k : Int)) ho
    have stop : ¬ (s.2 = 0 ∧ (T 0 = 0 ∨ s.1 < n)) → T9 = T ∧ s9 = s := fun hh => by
      rw [rdL, if_neg hh] at he
      exact ⟨congrArg Prod.fst he, congrArg Prod.snd he⟩
    refine w_iload_n dX4_read_29 rfl ?_
    refine w_iconst dX4_read_30 ?_
    refine w_icmp_gt (tgt := 66) dX4_read_31 (by decide) (by omega) (by omega) (fun h31 => ?_) (fun h31 => ?_)
    · exact absurd h31 (by omega)
    · refine w_aload_n dX4_read_34 rfl ?_
      refine r_getI (q := 3) dX4_read_35 fl4_26 g0_15 (by decide) rfl (by decide) rfl (fun r35 => ?_)
      refine w_if_ne (tgt := 66) dX4_read_38 (by decide) (by omega) (fun h38 => ?_) (fun h38 => ?_)
      · refine w_aload_n dX4_read_66 rfl ?_
        refine r_getI (q := 3) dX4_read_67 fl4_26 g0_15 (by decide) rfl (by decide) rfl (fun r67 => ?_)
        refine w_iret dX4_read_70 rfl (by omega) ?_ ⟨Nat.le_refl _, Nat.le_refl _⟩
        exact (by obtain ⟨rfl, rfl⟩ := stop (by first | omega | (obtain ⟨hV, hk0⟩ := hT (by omega); omega)); exact q_x ⟨h2, h, ho, fun e => (hT e).1, hF⟩)
      · refine w_aload_n dX4_read_41 rfl ?_
        refine r_getI (q := 1) dX4_read_42 fl4_22 g0_15 (by decide) rfl (by decide) rfl (fun r42 => ?_)
        refine w_aload_n dX4_read_45 rfl ?_
        refine w_getR (r := 13) dX4_read_46 fl4_18 g0_15 (by decide) rfl ?_
        refine r_getI (q := 1) dX4_read_49 fl4_39 g0_13 (by decide) rfl (by decide) rfl (fun r49 => ?_)
        refine w_icmp_ge (tgt := 66) dX4_read_52 (by decide) (by omega) (by omega) (fun h52 => ?_) (fun h52 => ?_)
        · refine w_aload_n dX4_read_66 rfl ?_
          refine r_getI (q := 3) dX4_read_67 fl4_26 g0_15 (by decide) rfl (by decide) rfl (fun r67 => ?_)
          refine w_iret dX4_read_70 rfl (by omega) ?_ ⟨Nat.le_refl _, Nat.le_refl _⟩
          exact (by obtain ⟨rfl, rfl⟩ := stop (by first | omega | (obtain ⟨hV, hk0⟩ := hT (by omega); omega)); exact q_x ⟨h2, h, ho, fun e => (hT e).1, hF⟩)
        · refine w_aload_n dX4_read_55 rfl ?_
          refine w_iload_n dX4_read_56 rfl ?_
          obtain ⟨hV, hk0⟩ := hT (by omega)
          refine cVxv dX4_read_57 ok_X4_readCloud lv4_35 (c_X4_readCloud t h ho (by omega) (by omega) hT) rfl (congrArg Prod.fst g0_15) (by decide) (by decide) rfl (by decide) (Nat.le_of_ble_eq_true rfl) (fun m57 p57 => ?_)
          refine w_iinc dX4_read_60 rfl (by decide) ?_
          refine w_goto (tgt := 29) dX4_read_63 (by decide) ?_
          rw [rdL, if_pos ⟨by omega, Or.inr (by omega)⟩, hk0] at he
          by_cases e9 : (rcS L n (k : Int) s).2 = 0
          · rw [if_pos e9] at he
            have q5 := (sr_0 (rc_0 e9).2.1).2.2
            exact ih (k + 1) _ _ _ _ (by omega) (by omega) (by omega) (p57.2.2.tp t) p57.1 oe (fun e => ⟨p57.2.1 e, by unfold rcT; rw [adC_0, hk0]; omega⟩) (hF.trans p57.2.2) he (fun _ => by omega)
          · rw [if_neg e9] at he
            exact ih (k + 1) _ T _ _ (by omega) (by omega) (by omega) (p57.2.2.tp t) p57.1 oe (fun e => absurd e e9) (hF.trans p57.2.2) (by rw [rdL_f e9]; exact he) (fun e => absurd e e9)
theorem c_X4_read {E : EV} {M : MM} {L : Int → Int} {n : Int} {T9 : SS} {s9 : RS} (t : TP M L n) (hd : M 16 3 = 0) (hf : ∀ f : Int, 0 ≤ f → f < 16 → M 22 f = 0) (he : (T9, s9) = rdL L n 6 (lwT L n) (lwS L n)) : Cx E mX4_read 3 [vr 15] M (fun z m => z = s9.2 ∧ RC m s9 ∧ okS n s9 ∧ (s9.2 = 0 → SV m 16 T9) ∧ FrD M m) := by
  refine Ct.of [some (vr 15), none] rfl rfl rfl (Nat.le_of_ble_eq_true rfl) ?_
  have tn := t.2.2
  obtain ⟨oa, ob, oc⟩ := ok_lw (L := L) tn.1
  obtain ⟨ra, rb, rc, rd, re⟩ := ok_rc (L := L) (k := 0) oc
  have lt0 : lwT L n 0 = 0 := rfl
  refine w_aload_n dX4_read_0 rfl ?_
  refine w_iconst dX4_read_1 ?_
  refine r_putI (q := 1) dX4_read_2 fl4_22 g0_15 (by decide) rfl (by decide) (by omega) rfl (by decide +kernel) rfl ?_
  refine w_aload_n dX4_read_5 rfl ?_
  refine w_iconst dX4_read_6 ?_
  refine r_putI (q := 3) dX4_read_7 fl4_26 g0_15 (by decide) rfl (by decide) (by omega) rfl (by decide +kernel) rfl ?_
  refine w_aload_n dX4_read_10 rfl ?_
  refine w_getR (r := 16) dX4_read_11 fl4_12 g0_15 (by decide) rfl ?_
  refine w_iconst dX4_read_14 ?_
  refine r_putI (q := 0) dX4_read_15 fl4_29 (sk_g0 sk_16) (sk_n0 sk_16) rfl (by decide) (by omega) rfl (by decide +kernel) rfl ?_
  refine wgen (fun m => RC m (0, 0) ∧ TP m L n ∧ m 16 0 = 0 ∧ FrD M m) ⟨⟨by rw [upM_cell (by omega), upM_ne (by omega), upM_same], by rw [upM_cell (by omega), upM_same]⟩, ⟨by rw [upM_cell (by omega), upM_cell (by omega), upM_cell (by omega)]; exact t.1, fun i a b => by rw [upM_cell (by omega), upM_cell (by omega), upM_cell (by omega)]; exact t.2.1 i a b, tn⟩, by rw [upM_same], ⟨fun i hi => by rw [upM_cell (by omega), upM_cell (by omega), upM_cell (by omega)], by rw [upM_ne (by omega), upM_cell (by omega), upM_cell (by omega)]⟩⟩ (fun m hm => ?_)
  obtain ⟨a1, a2, a3, a4⟩ := hm
  refine w_aload_n dX4_read_18 rfl ?_
  refine cVxv dX4_read_19 ok_X4_readLaw lv4_32 (c_X4_readLaw a2 a1) rfl (congrArg Prod.fst g0_15) (by decide) (by decide) rfl (by decide) (Nat.le_of_ble_eq_true rfl) (fun m19 p19 => ?_)
  obtain ⟨b1, b2, b3, b4⟩ := p19
  have t19 := b4.tp a2
  have hF := a4.trans b4
  have hV : (lwS L n).2 = 0 → SV m19 16 (lwT L n) ∧ lwT L n 0 = 0 := fun e => ⟨⟨fun q q0 q1 => by rcases (show q = 0 ∨ q = 1 ∨ q = 2 ∨ q = 3 by omega) with w | w | w | w <;> subst w; exact b3.trans a3; exact (b2 e).1; exact (b2 e).2; exact hF.2.trans hd, fun c c0 c1 => absurd c1 (by rw [lt0]; omega), fun f f0 f1 => by rw [show (16 + 6 : Nat) = 22 from rfl, hF.1 22 (by omega), hf f f0 f1]; unfold lwT; rw [if_neg (by omega), if_neg (by omega)]⟩, lt0⟩
  refine w_aload_n dX4_read_22 rfl ?_
  refine w_iconst dX4_read_23 ?_
  refine cVxv dX4_read_24 ok_X4_readCloud lv4_35 (c_X4_readCloud (T := lwT L n) t19 b1 oc (by omega) (by omega) hV) rfl (congrArg Prod.fst g0_15) (by decide) (by decide) rfl (by decide) (Nat.le_of_ble_eq_true rfl) (fun m24 p24 => ?_)
  refine w_iconst dX4_read_27 ?_
  refine w_istore_n dX4_read_28 (by decide) ?_
  by_cases e0 : (lwS L n).2 = 0
  · rw [rdL, if_pos ⟨e0, Or.inl lt0⟩, lt0] at he
    by_cases e9 : (rcS L n 0 (lwS L n)).2 = 0
    · rw [if_pos e9] at he
      exact l_X4_read 5 1 _ _ _ _ rfl (by omega) (by omega) (p24.2.2.tp t19) p24.1 re (fun e => ⟨p24.2.1 e, by unfold rcT; rw [adC_0, lt0]; rfl⟩) (hF.trans p24.2.2) he (fun _ => by omega)
    · rw [if_neg e9] at he
      exact l_X4_read 5 1 _ (lwT L n) _ _ rfl (by omega) (by omega) (p24.2.2.tp t19) p24.1 re (fun e => absurd e e9) (hF.trans p24.2.2) (by rw [rdL_f e9]; exact he) (fun _ => by omega)
  · rw [rdL_f e0] at he
    have es := rcS_f (L := L) (n := n) (k := 0) e0
    rw [es] at p24 re
    exact l_X4_read 5 1 _ (lwT L n) _ _ rfl (by omega) (by omega) (p24.2.2.tp t19) p24.1 re (fun e => absurd e e0) (hF.trans p24.2.2) (by rw [rdL_f e0]; exact he) (fun _ => by omega)
/-! what is read is a good sky -/
def GT (T : SS) : Prop := OUT T ∧ SOK 0 T ∧ T 3 = 0
theorem GT_rc {L : Int → Int} {n : Int} {T : SS} {s : RS} (h : GT T) (e9 : (rcS L n (T 0) s).2 = 0) : GT (rcT L n T s) ∧ rcT L n T s 0 = T 0 + 1 := by
  have ed := nm_0 (tk_0 e9)
  have ec := nm_0 (tk_0 ed.1)
  have eb := nm_0 (tk_0 ec.1)
  have ea := nm_0 (tk_0 eb.1)
  have es := sr_0 ea.1
  have kr := kndF_r (ltr L n s.1)
  have v1 : 0 ≤ nmV L n (rcA L n (T 0) s).1 ∧ nmV L n (rcA L n (T 0) s).1 ≤ 15 := ea.2
  have v2 : 1 ≤ nmV L n (rcB L n (T 0) s).1 ∧ nmV L n (rcB L n (T 0) s).1 ≤ 8 := eb.2
  have v3 : 1 ≤ nmV L n (rcC L n (T 0) s).1 ∧ nmV L n (rcC L n (T 0) s).1 ≤ 60 := ec.2
  have v4 : 0 ≤ nmV L n (rcD L n (T 0) s).1 ∧ nmV L n (rcD L n (T 0) s).1 ≤ 9 := ed.2
  obtain ⟨hO, hS, h3⟩ := h
  have hn := hS.1
  refine ⟨?_, adC_0 _ _ _ _ _ _⟩
  unfold rcT
  have low : ∀ q : Int, 0 < q → q < 4 → ∀ k a b c d : Int, adC T k a b c d q = T q := fun q q0 q1 k a b c d => by
    unfold adC
    rw [if_neg (by omega), if_neg (by omega), if_neg (by omega), if_neg (by omega), if_neg (by omega), if_neg (by omega)]
  refine ⟨fun q hq => ?_, ⟨by rw [adC_0]; omega, by rw [low 1 (by omega) (by omega)]; exact hS.2.1, by rw [low 2 (by omega) (by omega)]; exact hS.2.2.1, by rw [low 3 (by omega) (by omega)]; exact hS.2.2.2.1, fun c c0 c1 => ?_, fun f f0 f1 => ?_⟩, by rw [low 3 (by omega) (by omega)]; exact h3⟩
  · unfold adC
    rw [if_neg (by omega), if_neg (by omega), if_neg (by omega), if_neg (by omega), if_neg (by omega), if_neg (by omega)]
    exact hO q hq
  · rw [adC_0] at c1
    unfold adC
    by_cases e : c = T 0
    · subst e
      rw [if_neg (by omega), if_pos rfl, if_neg (by omega), if_neg (by omega), if_pos rfl, if_neg (by omega), if_neg (by omega), if_neg (by omega), if_pos rfl, if_neg (by omega), if_neg (by omega), if_neg (by omega), if_neg (by omega), if_pos rfl, if_neg (by omega), if_neg (by omega), if_neg (by omega), if_neg (by omega), if_neg (by omega), if_pos rfl]
      omega
    · have hc := hS.cl c0 (show c < T 0 by omega)
      rw [if_neg (by omega), if_neg (by omega), if_neg (by omega), if_neg (by omega), if_neg (by omega), if_neg (by omega), if_neg (by omega), if_neg (by omega), if_neg (by omega), if_neg (by omega), if_neg (by omega), if_neg (by omega), if_neg (by omega), if_neg (by omega), if_neg (by omega), if_neg (by omega), if_neg (by omega), if_neg (by omega), if_neg (by omega), if_neg (by omega), if_neg (by omega), if_neg (by omega), if_neg (by omega), if_neg (by omega), if_neg (by omega), if_neg (by omega), if_neg (by omega), if_neg (by omega), if_neg (by omega), if_neg (by omega)]
      exact hc
  · unfold adC
    rw [if_neg (by omega), if_neg (by omega), if_neg (by omega), if_neg (by omega), if_neg (by omega), if_neg (by omega)]
    exact hS.2.2.2.2.2 f f0 f1
