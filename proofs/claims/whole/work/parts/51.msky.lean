/-! ===== the reference reads clouds, skies ===== -/
theorem c_X10_kindOf {E : EV} {M : MM} {x : Int} (hx : R32 x) : Cm E mX10_kindOf 0 [vi x] M (if kndF x = 0 then -1 else kndF x) M := by
  refine Ct.of [some (vi x)] rfl rfl rfl (Nat.le_of_ble_eq_true rfl) ?_
  refine w_iload_n dX10_kindOf_0 rfl ?_
  refine w_bipush dX10_kindOf_1 (by decide +kernel) ?_
  refine w_icmp_ne (tgt := 10) dX10_kindOf_3 (by decide) (by omega) (by omega) (fun h3 => ?_) (fun h3 => ?_)
  · refine w_iload_n dX10_kindOf_10 rfl ?_
    refine w_bipush dX10_kindOf_11 (by decide +kernel) ?_
    refine w_icmp_ne (tgt := 20) dX10_kindOf_13 (by decide) (by omega) (by omega) (fun h13 => ?_) (fun h13 => ?_)
    · refine w_iload_n dX10_kindOf_20 rfl ?_
      refine w_bipush dX10_kindOf_21 (by decide +kernel) ?_
      refine w_icmp_ne (tgt := 30) dX10_kindOf_23 (by decide) (by omega) (by omega) (fun h23 => ?_) (fun h23 => ?_)
      · refine w_iload_n dX10_kindOf_30 rfl ?_
        refine w_bipush dX10_kindOf_31 (by decide +kernel) ?_
        refine w_icmp_ne (tgt := 40) dX10_kindOf_33 (by decide) (by omega) (by omega) (fun h33 => ?_) (fun h33 => ?_)
        · refine w_iload_n dX10_kindOf_40 rfl ?_
          refine w_bipush dX10_kindOf_41 (by decide +kernel) ?_
          refine w_icmp_ne (tgt := 50) dX10_kindOf_43 (by decide) (by omega) (by omega) (fun h43 => ?_) (fun h43 => ?_)
          · refine w_iconst dX10_kindOf_50 ?_
            refine w_iret dX10_kindOf_51 rfl (by omega) ?_ ⟨Nat.le_refl _, Nat.le_refl _⟩
            exact (q_i (by unfold kndF; (repeat' split) <;> omega))
          · refine w_iconst dX10_kindOf_46 ?_
            refine w_goto (tgt := 51) dX10_kindOf_47 (by decide) ?_
            refine w_iret dX10_kindOf_51 rfl (by omega) ?_ ⟨Nat.le_refl _, Nat.le_refl _⟩
            exact (q_i (by unfold kndF; (repeat' split) <;> omega))
        · refine w_iconst dX10_kindOf_36 ?_
          refine w_goto (tgt := 51) dX10_kindOf_37 (by decide) ?_
          refine w_iret dX10_kindOf_51 rfl (by omega) ?_ ⟨Nat.le_refl _, Nat.le_refl _⟩
          exact (q_i (by unfold kndF; (repeat' split) <;> omega))
      · refine w_iconst dX10_kindOf_26 ?_
        refine w_goto (tgt := 51) dX10_kindOf_27 (by decide) ?_
        refine w_iret dX10_kindOf_51 rfl (by omega) ?_ ⟨Nat.le_refl _, Nat.le_refl _⟩
        exact (q_i (by unfold kndF; (repeat' split) <;> omega))
    · refine w_iconst dX10_kindOf_16 ?_
      refine w_goto (tgt := 51) dX10_kindOf_17 (by decide) ?_
      refine w_iret dX10_kindOf_51 rfl (by omega) ?_ ⟨Nat.le_refl _, Nat.le_refl _⟩
      exact (q_i (by unfold kndF; (repeat' split) <;> omega))
  · refine w_iconst dX10_kindOf_6 ?_
    refine w_goto (tgt := 51) dX10_kindOf_7 (by decide) ?_
    refine w_iret dX10_kindOf_51 rfl (by omega) ?_ ⟨Nat.le_refl _, Nat.le_refl _⟩
    exact (q_i (by unfold kndF; (repeat' split) <;> omega))
def FrV (M m : MM) : Prop := (∀ i : Nat, i ≠ 238 → i ≠ 244 → m i = M i) ∧ ∀ k : Int, k < 9 ∨ 12 ≤ k → m 238 k = M 238 k
theorem FrV.refl (M : MM) : FrV M M := ⟨fun _ _ _ => rfl, fun _ _ => rfl⟩
theorem FrW.v {M m : MM} (h : FrW M m) : FrV M m := ⟨fun i a _ => h.1 i a, h.2⟩
theorem FrV.trans {M m m2 : MM} (h : FrV M m) (h2 : FrV m m2) : FrV M m2 := ⟨fun i a b => (h2.1 i a b).trans (h.1 i a b), fun k hk => (h2.2 k hk).trans (h.2 k hk)⟩
theorem FrV.st {M m : MM} {j v : Int} (h : FrV M m) : FrV M (upM m 244 j v) := ⟨fun i a b => by rw [upM_cell b]; exact h.1 i a b, fun k hk => by rw [upM_cell (by omega)]; exact h.2 k hk⟩
theorem FrV.up {M m : MM} {k v : Int} (h : FrV M m) (hk : 9 ≤ k ∧ k < 12) : FrV M (upM m 238 k v) := ⟨fun i a b => by rw [upM_cell a]; exact h.1 i a b, fun j hj => by rw [upM_ne (by omega)]; exact h.2 j hj⟩
theorem FrV.tm {M m : MM} {L : Int → Int} {n : Int} (h : FrV M m) (t : TM M L n) : TM m L n := ⟨by rw [h.2 8 (by omega)]; exact t.1, fun i a b => by rw [h.1 245 (by omega) (by omega)]; exact t.2.1 i a b, t.2.2⟩
/-- the reader behind a step: state s, row R -/
def RVS (M m : MM) (s : RS) (R : SS) : Prop := RM m s ∧ m 244 = R ∧ FrV M m
theorem RVS.st {M m : MM} {s : RS} {R : SS} {j v : Int} (h : RVS M m s R) : RVS M (upM m 244 j v) s (upS R j v) := by
  refine ⟨⟨by rw [upM_cell (by omega)]; exact h.1.1, fun e => by rw [upM_cell (by omega)]; exact h.1.2.1 e, fun e => by rw [upM_cell (by omega)]; exact h.1.2.2 e⟩, ?_, h.2.2.st⟩
  funext q
  rw [upS_at]
  by_cases e : q = j
  · rw [e, upM_same, if_pos rfl]
  · rw [upM_ne (fun w => e w.2), if_neg e, h.2.1]
theorem RVS.go {M m m2 : MM} {s s2 : RS} {R : SS} (h : RVS M m s R) (r : RM m2 s2) (f : FrW m m2) : RVS M m2 s2 R := ⟨r, by rw [f.1 244 (by omega)]; exact h.2.1, h.2.2.trans f.v⟩
def DR (m : MM) (T : SS) : Prop := ∀ q : Int, 0 ≤ q → q < 45 → m 244 q = T q
theorem c_X10_readCloud {E : EV} {M : MM} {L : Int → Int} {n : Int} {T : SS} {s : RS} (t : TM M L n) (h : RM M s) (ho : okS n s) (hs : s.2 = 0) (hR : DR M T) (k0 : 0 ≤ T 0) (k5 : T 0 ≤ 5) : Cxv E mX10_readCloud 2 [vr 238] M (fun m => RM m (rcS L n (T 0) s) ∧ ((rcS L n (T 0) s).2 = 0 → DR m (rcT L n T s)) ∧ FrV M m) := by
  refine Ct.of [some (vr 238), none, none] rfl rfl rfl (Nat.le_of_ble_eq_true rfl) ?_
  obtain ⟨h1, h2, h3⟩ := h
  have h2 := h2 hs
  obtain ⟨oa, ob, oc, od, oe⟩ := ok_rc (L := L) (k := T 0) ho
  obtain ⟨o1, o2, o3, o4⟩ := ho
  have tn := t.2.2
  have e0 : M 244 0 = T 0 := hR 0 (by omega) (by omega)
  have kr := kndF_r (ltr L n s.1)
  have ek : kndF (if s.1 < n then ltr L n s.1 else 0) = kndF (ltr L n s.1) := by
    by_cases e : s.1 < n
    · rw [if_pos e]
    · rw [if_neg e, show ltr L n s.1 = -1 from if_neg (by omega)]; rfl
  have bad : ∀ w : Int, srS L n (T 0) s = (s.1, w) → w ≠ 0 → ∀ m : MM, m = upM (upM M 238 10 w) 238 11 s.1 → RM m (rcS L n (T 0) s) ∧ ((rcS L n (T 0) s).2 = 0 → DR m (rcT L n T s)) ∧ FrV M m := by
    intro w hw w0 m hm
    have es : rcS L n (T 0) s = (s.1, w) := by
      have q := rcS_f (L := L) (n := n) (k := T 0) (s := (s.1, w)) w0
      have a : srS L n (T 0) (s.1, w) = (s.1, w) := if_pos w0
      unfold rcS rcD rcC rcB rcA at q ⊢
      rw [a] at q
      rw [hw]
      exact q
    rw [es, hm]
    exact ⟨⟨by rw [upM_ne (by omega), upM_same], fun e => absurd e w0, fun _ => by rw [upM_same]⟩, fun e => absurd e w0, ((FrV.refl M).up (by omega)).up (by omega)⟩
  have good : srS L n (T 0) s = (s.1 + 1, 0) → T 0 < 5 → ∀ k9 : Int, k9 = kndF (ltr L n s.1) → 1 ≤ k9 → k9 ≤ 5 → Wp E mX10_readCloud (kd 2) 50 [some (vr 238), some (vi k9), none] [] N0 G0 M (Pxv (fun m => RM m (rcS L n (T 0) s) ∧ ((rcS L n (T 0) s).2 = 0 → DR m (rcT L n T s)) ∧ FrV M m)) := by
    intro hw q5 k9 hk9 k91 k95
    have y0 : upM M 238 9 (M 238 9 + 1) 244 0 = T 0 := by rw [upM_cell (by omega)]; exact e0
    refine w_aload_n dX10_readCloud_50 rfl ?_
    refine w_dup dX10_readCloud_51 rfl ?_
    refine r_getI (q := 9) dX10_readCloud_52 fl10_78 g0_238 (by decide) rfl (by decide) rfl (fun r52 => ?_)
    refine w_iconst dX10_readCloud_55 ?_
    refine w_iadd dX10_readCloud_56 ?_
    refine r_putI (q := 9) dX10_readCloud_57 fl10_78 g0_238 (by decide) rfl (by decide) (by omega) rfl (by decide +kernel) rfl ?_
    refine w_iconst dX10_readCloud_60 ?_
    refine w_iconst dX10_readCloud_61 ?_
    refine w_aload_n dX10_readCloud_62 rfl ?_
    refine w_getR (r := 244) dX10_readCloud_63 fl10_25 g0_238 (by decide) rfl ?_
    refine w_iconst dX10_readCloud_66 ?_
    refine r_ild dX10_readCloud_67 g0_244 (by decide) (by omega) (by omega) (by decide) (fun r67 => ?_)
    rw [y0]
    refine w_imul dX10_readCloud_68 ?_
    refine w_iadd dX10_readCloud_69 ?_
    refine w_istore_n dX10_readCloud_70 (by decide) ?_
    refine w_aload_n dX10_readCloud_71 rfl ?_
    refine w_getR (r := 244) dX10_readCloud_72 fl10_25 g0_238 (by decide) rfl ?_
    refine w_iload_n dX10_readCloud_75 rfl ?_
    refine w_iload_n dX10_readCloud_76 rfl ?_
    refine r_ist dX10_readCloud_77 g0_244 (by decide) (by omega) (by omega) (by omega) (by decide) ?_
    refine wgen (fun m => RVS M m (rcA L n (T 0) s) (upS (M 244) (4 + 5 * T 0) k9)) (RVS.st (m := upM M 238 9 (M 238 9 + 1)) ⟨by unfold rcA; rw [hw]; exact ⟨by rw [upM_ne (by omega), h1]; exact hs, fun _ => by rw [upM_same, h2], fun q => absurd (show (0 : Int) = 0 from rfl) q⟩, by rw [upM_cell (by omega)], (FrV.refl M).up (by omega)⟩) (fun m1 v1 => ?_)
    have t1 := v1.2.2.tm t
    refine w_aload_n dX10_readCloud_78 rfl ?_
    refine w_getR (r := 244) dX10_readCloud_79 fl10_25 g0_238 (by decide) rfl ?_
    refine w_iload_n dX10_readCloud_82 rfl ?_
    refine w_iconst dX10_readCloud_83 ?_
    refine w_iadd dX10_readCloud_84 ?_
    refine w_aload_n dX10_readCloud_85 rfl ?_
    refine w_iconst dX10_readCloud_86 ?_
    refine w_bipush dX10_readCloud_87 (by decide +kernel) ?_
    refine cVx dX10_readCloud_89 ok_X10_number lv10_102 (c_X10_number (lo := 0) (hi := 15) t1 v1.1 oa (by omega) (by omega)) rfl (congrArg Prod.fst g0_238) (by decide) (by decide) rfl (by decide) (Nat.le_of_ble_eq_true rfl) (fun z89 m89 r89 p89 => ?_)
    refine r_istq (q := 5 + 5 * T 0) dX10_readCloud_92 g0_244 (by decide) (by omega) (by omega) (by omega) (by omega) (by decide) ?_
    refine wgen (fun m => RVS M m (nmS L n 0 15 (rcA L n (T 0) s)) (upS (upS (M 244) (4 + 5 * T 0) k9) (5 + 5 * T 0) z89)) (RVS.st (v1.go p89.2.1 p89.2.2)) (fun m2 v2 => ?_)
    have t2 := v2.2.2.tm t
    refine w_aload_n dX10_readCloud_93 rfl ?_
    refine w_bipush dX10_readCloud_94 (by decide +kernel) ?_
    refine cVxv dX10_readCloud_96 ok_X10_must lv10_106 (c_X10_must t2 v2.1 (ok_nm oa) (by omega) (by omega)) rfl (congrArg Prod.fst g0_238) (by decide) (by decide) rfl (by decide) (Nat.le_of_ble_eq_true rfl) (fun m96 p96 => ?_)
    have v3 := v2.go p96.1 p96.2
    have t3 := v3.2.2.tm t
    refine w_aload_n dX10_readCloud_99 rfl ?_
    refine w_getR (r := 244) dX10_readCloud_100 fl10_25 g0_238 (by decide) rfl ?_
    refine w_iload_n dX10_readCloud_103 rfl ?_
    refine w_iconst dX10_readCloud_104 ?_
    refine w_iadd dX10_readCloud_105 ?_
    refine w_aload_n dX10_readCloud_106 rfl ?_
    refine w_iconst dX10_readCloud_107 ?_
    refine w_bipush dX10_readCloud_108 (by decide +kernel) ?_
    refine cVx dX10_readCloud_110 ok_X10_number lv10_102 (c_X10_number (lo := 1) (hi := 8) t3 v3.1 ob (by omega) (by omega)) rfl (congrArg Prod.fst g0_238) (by decide) (by decide) rfl (by decide) (Nat.le_of_ble_eq_true rfl) (fun z110 m110 r110 p110 => ?_)
    refine r_istq (q := 6 + 5 * T 0) dX10_readCloud_113 g0_244 (by decide) (by omega) (by omega) (by omega) (by omega) (by decide) ?_
    refine wgen (fun m => RVS M m (nmS L n 1 8 (rcB L n (T 0) s)) (upS (upS (upS (M 244) (4 + 5 * T 0) k9) (5 + 5 * T 0) z89) (6 + 5 * T 0) z110)) (RVS.st (v3.go p110.2.1 p110.2.2)) (fun m4 v4 => ?_)
    have t4 := v4.2.2.tm t
    refine w_aload_n dX10_readCloud_114 rfl ?_
    refine w_bipush dX10_readCloud_115 (by decide +kernel) ?_
    refine cVxv dX10_readCloud_117 ok_X10_must lv10_106 (c_X10_must t4 v4.1 (ok_nm ob) (by omega) (by omega)) rfl (congrArg Prod.fst g0_238) (by decide) (by decide) rfl (by decide) (Nat.le_of_ble_eq_true rfl) (fun m117 p117 => ?_)
    have v5 := v4.go p117.1 p117.2
    have t5 := v5.2.2.tm t
    refine w_aload_n dX10_readCloud_120 rfl ?_
    refine w_getR (r := 244) dX10_readCloud_121 fl10_25 g0_238 (by decide) rfl ?_
    refine w_iload_n dX10_readCloud_124 rfl ?_
    refine w_iconst dX10_readCloud_125 ?_
    refine w_iadd dX10_readCloud_126 ?_
    refine w_aload_n dX10_readCloud_127 rfl ?_
    refine w_iconst dX10_readCloud_128 ?_
    refine w_bipush dX10_readCloud_129 (by decide +kernel) ?_
    refine cVx dX10_readCloud_131 ok_X10_number lv10_102 (c_X10_number (lo := 1) (hi := 60) t5 v5.1 oc (by omega) (by omega)) rfl (congrArg Prod.fst g0_238) (by decide) (by decide) rfl (by decide) (Nat.le_of_ble_eq_true rfl) (fun z131 m131 r131 p131 => ?_)
    refine r_istq (q := 7 + 5 * T 0) dX10_readCloud_134 g0_244 (by decide) (by omega) (by omega) (by omega) (by omega) (by decide) ?_
    refine wgen (fun m => RVS M m (nmS L n 1 60 (rcC L n (T 0) s)) (upS (upS (upS (upS (M 244) (4 + 5 * T 0) k9) (5 + 5 * T 0) z89) (6 + 5 * T 0) z110) (7 + 5 * T 0) z131)) (RVS.st (v5.go p131.2.1 p131.2.2)) (fun m6 v6 => ?_)
    have t6 := v6.2.2.tm t
    refine w_aload_n dX10_readCloud_135 rfl ?_
    refine w_bipush dX10_readCloud_136 (by decide +kernel) ?_
    refine cVxv dX10_readCloud_138 ok_X10_must lv10_106 (c_X10_must t6 v6.1 (ok_nm oc) (by omega) (by omega)) rfl (congrArg Prod.fst g0_238) (by decide) (by decide) rfl (by decide) (Nat.le_of_ble_eq_true rfl) (fun m138 p138 => ?_)
    have v7 := v6.go p138.1 p138.2
    have t7 := v7.2.2.tm t
    refine w_aload_n dX10_readCloud_141 rfl ?_
    refine w_getR (r := 244) dX10_readCloud_142 fl10_25 g0_238 (by decide) rfl ?_
    refine w_iload_n dX10_readCloud_145 rfl ?_
    refine w_iconst dX10_readCloud_146 ?_
    refine w_iadd dX10_readCloud_147 ?_
    refine w_aload_n dX10_readCloud_148 rfl ?_
    refine w_iconst dX10_readCloud_149 ?_
    refine w_bipush dX10_readCloud_150 (by decide +kernel) ?_
    refine cVx dX10_readCloud_152 ok_X10_number lv10_102 (c_X10_number (lo := 0) (hi := 9) t7 v7.1 od (by omega) (by omega)) rfl (congrArg Prod.fst g0_238) (by decide) (by decide) rfl (by decide) (Nat.le_of_ble_eq_true rfl) (fun z152 m152 r152 p152 => ?_)
    refine r_istq (q := 8 + 5 * T 0) dX10_readCloud_155 g0_244 (by decide) (by omega) (by omega) (by omega) (by omega) (by decide) ?_
    refine wgen (fun m => RVS M m (nmS L n 0 9 (rcD L n (T 0) s)) (upS (upS (upS (upS (upS (M 244) (4 + 5 * T 0) k9) (5 + 5 * T 0) z89) (6 + 5 * T 0) z110) (7 + 5 * T 0) z131) (8 + 5 * T 0) z152)) (RVS.st (v7.go p152.2.1 p152.2.2)) (fun m8 v8 => ?_)
    have t8 := v8.2.2.tm t
    refine w_aload_n dX10_readCloud_156 rfl ?_
    refine w_bipush dX10_readCloud_157 (by decide +kernel) ?_
    refine cVxv dX10_readCloud_159 ok_X10_must lv10_106 (c_X10_must t8 v8.1 (ok_nm od) (by omega) (by omega)) rfl (congrArg Prod.fst g0_238) (by decide) (by decide) rfl (by decide) (Nat.le_of_ble_eq_true rfl) (fun m159 p159 => ?_)
    have v9 := v8.go p159.1 p159.2
    have e9 : m159 244 0 = T 0 := by rw [v9.2.1, upS_at, upS_at, upS_at, upS_at, upS_at, if_neg (by omega), if_neg (by omega), if_neg (by omega), if_neg (by omega), if_neg (by omega)]; exact e0
    refine w_aload_n dX10_readCloud_162 rfl ?_
    refine w_getR (r := 244) dX10_readCloud_163 fl10_25 g0_238 (by decide) rfl ?_
    refine w_iconst dX10_readCloud_166 ?_
    refine w_dup2 dX10_readCloud_167 rfl rfl ?_
    refine r_ild dX10_readCloud_168 g0_244 (by decide) (by omega) (by omega) (by decide) (fun r168 => ?_)
    refine w_iconst dX10_readCloud_169 ?_
    refine w_iadd dX10_readCloud_170 ?_
    refine r_ist dX10_readCloud_171 g0_244 (by decide) (by omega) (by omega) (by omega) (by decide) ?_
    refine w_vret dX10_readCloud_172 rfl ?_ ⟨Nat.le_refl _, Nat.le_refl _⟩
    exact (q_xv (by have v10 := v9.st (j := 0) (v := m159 244 0 + 1); refine ⟨v10.1, fun ez => ?_, v10.2.2⟩; have ed := nm_0 (tk_0 ez); have ec := nm_0 (tk_0 ed.1); have eb := nm_0 (tk_0 ec.1); have ea := nm_0 (tk_0 eb.1); have w1 : z89 = nmV L n (rcA L n (T 0) s).1 := p89.1 (tk_0 eb.1) ea.1; have w2 : z110 = nmV L n (rcB L n (T 0) s).1 := p110.1 (tk_0 ec.1) eb.1; have w3 : z131 = nmV L n (rcC L n (T 0) s).1 := p131.1 (tk_0 ed.1) ec.1; have w4 : z152 = nmV L n (rcD L n (T 0) s).1 := p152.1 (tk_0 ez) ed.1; intro q q0 q1; rw [v10.2.1, e9, upS_at, upS_at, upS_at, upS_at, upS_at, upS_at, w1, w2, w3, w4, hk9]; unfold rcT adC; (repeat' split) <;> first | rfl | omega | exact hR q q0 q1))
  by_cases ez : kndF (ltr L n s.1) = 0
  · have hb := bad 1 (by unfold srS; rw [if_neg (by omega), if_pos ez]) (by decide)
    refine w_aload_n dX10_readCloud_0 rfl ?_
    refine cVm dX10_readCloud_1 ok_X10_here lv10_87 (c_here t h2 o1) rfl (congrArg Prod.fst g0_238) (by decide) (by decide) rfl (by decide) (Nat.le_of_ble_eq_true rfl) (fun r1 => ?_)
    refine cSm dX10_readCloud_4 ok_X10_kindOf (Or.inl ls10_99) (c_X10_kindOf (by omega)) rfl  rfl (by decide) (Nat.le_of_ble_eq_true rfl) (fun r4 => ?_)
    rw [ek, if_pos ez]
    refine w_istore_n dX10_readCloud_7 (by decide) ?_
    refine w_iload_n dX10_readCloud_8 rfl ?_
    refine w_if_ge (tgt := 24) dX10_readCloud_9 (by decide) (by omega) (fun h9 => ?_) (fun h9 => ?_)
    · exact absurd h9 (by omega)
    · refine w_aload_n dX10_readCloud_12 rfl ?_
      refine w_iconst dX10_readCloud_13 ?_
      refine w_aload_n dX10_readCloud_14 rfl ?_
      refine r_getI (q := 9) dX10_readCloud_15 fl10_78 g0_238 (by decide) rfl (by decide) rfl (fun r15 => ?_)
      refine cVv dX10_readCloud_18 ok_X10_wrong lv10_91 (c_X10_wrong (by omega) (by omega)) rfl (congrArg Prod.fst g0_238) (by decide) (by decide) rfl (by decide) (Nat.le_of_ble_eq_true rfl) ?_
      rw [if_pos (by omega), h2]
      refine w_goto (tgt := 43) dX10_readCloud_21 (by decide) ?_
      have x1 : upM (upM M 238 10 1) 238 11 s.1 238 10 = 1 := by rw [upM_ne (by omega), upM_same]
      refine w_aload_n dX10_readCloud_43 rfl ?_
      refine r_getI (q := 10) dX10_readCloud_44 fl10_81 g0_238 (by decide) rfl (by decide) rfl (fun r44 => ?_)
      refine w_if_ne (tgt := 172) dX10_readCloud_47 (by decide) (by omega) (fun h47 => ?_) (fun h47 => ?_)
      · refine w_vret dX10_readCloud_172 rfl ?_ ⟨Nat.le_refl _, Nat.le_refl _⟩
        exact (q_xv (hb _ rfl))
      · exact absurd h47 (by omega)
  · by_cases e5 : T 0 = 5
    · have hb := bad 3 (by unfold srS; rw [if_neg (by omega), if_neg ez, if_pos (by omega)]) (by decide)
      refine w_aload_n dX10_readCloud_0 rfl ?_
      refine cVm dX10_readCloud_1 ok_X10_here lv10_87 (c_here t h2 o1) rfl (congrArg Prod.fst g0_238) (by decide) (by decide) rfl (by decide) (Nat.le_of_ble_eq_true rfl) (fun r1 => ?_)
      refine cSm dX10_readCloud_4 ok_X10_kindOf (Or.inl ls10_99) (c_X10_kindOf (by omega)) rfl  rfl (by decide) (Nat.le_of_ble_eq_true rfl) (fun r4 => ?_)
      rw [ek, if_neg ez]
      refine w_istore_n dX10_readCloud_7 (by decide) ?_
      refine w_iload_n dX10_readCloud_8 rfl ?_
      refine w_if_ge (tgt := 24) dX10_readCloud_9 (by decide) (by omega) (fun h9 => ?_) (fun h9 => ?_)
      · refine w_aload_n dX10_readCloud_24 rfl ?_
        refine w_getR (r := 244) dX10_readCloud_25 fl10_25 g0_238 (by decide) rfl ?_
        refine w_iconst dX10_readCloud_28 ?_
        refine r_ild dX10_readCloud_29 g0_244 (by decide) (by omega) (by omega) (by decide) (fun r29 => ?_)
        refine w_iconst dX10_readCloud_30 ?_
        refine w_icmp_ne (tgt := 43) dX10_readCloud_31 (by decide) (by omega) (by omega) (fun h31 => ?_) (fun h31 => ?_)
        · exact absurd h31 (by omega)
        · refine w_aload_n dX10_readCloud_34 rfl ?_
          refine w_iconst dX10_readCloud_35 ?_
          refine w_aload_n dX10_readCloud_36 rfl ?_
          refine r_getI (q := 9) dX10_readCloud_37 fl10_78 g0_238 (by decide) rfl (by decide) rfl (fun r37 => ?_)
          refine cVv dX10_readCloud_40 ok_X10_wrong lv10_91 (c_X10_wrong (by omega) (by omega)) rfl (congrArg Prod.fst g0_238) (by decide) (by decide) rfl (by decide) (Nat.le_of_ble_eq_true rfl) ?_
          rw [if_pos (by omega), h2]
          have x1 : upM (upM M 238 10 3) 238 11 s.1 238 10 = 3 := by rw [upM_ne (by omega), upM_same]
          refine w_aload_n dX10_readCloud_43 rfl ?_
          refine r_getI (q := 10) dX10_readCloud_44 fl10_81 g0_238 (by decide) rfl (by decide) rfl (fun r44 => ?_)
          refine w_if_ne (tgt := 172) dX10_readCloud_47 (by decide) (by omega) (fun h47 => ?_) (fun h47 => ?_)
          · refine w_vret dX10_readCloud_172 rfl ?_ ⟨Nat.le_refl _, Nat.le_refl _⟩
            exact (q_xv (hb _ rfl))
          · exact absurd h47 (by omega)
      · exact absurd h9 (by omega)
    · have hg := good (by unfold srS; rw [if_neg (by omega), if_neg ez, if_neg (by omega)]) (by omega)
      refine w_aload_n dX10_readCloud_0 rfl ?_
      refine cVm dX10_readCloud_1 ok_X10_here lv10_87 (c_here t h2 o1) rfl (congrArg Prod.fst g0_238) (by decide) (by decide) rfl (by decide) (Nat.le_of_ble_eq_true rfl) (fun r1 => ?_)
      refine cSm dX10_readCloud_4 ok_X10_kindOf (Or.inl ls10_99) (c_X10_kindOf (by omega)) rfl  rfl (by decide) (Nat.le_of_ble_eq_true rfl) (fun r4 => ?_)
      rw [ek, if_neg ez]
      refine w_istore_n dX10_readCloud_7 (by decide) ?_
      refine w_iload_n dX10_readCloud_8 rfl ?_
      refine w_if_ge (tgt := 24) dX10_readCloud_9 (by decide) (by omega) (fun h9 => ?_) (fun h9 => ?_)
      · refine w_aload_n dX10_readCloud_24 rfl ?_
        refine w_getR (r := 244) dX10_readCloud_25 fl10_25 g0_238 (by decide) rfl ?_
        refine w_iconst dX10_readCloud_28 ?_
        refine r_ild dX10_readCloud_29 g0_244 (by decide) (by omega) (by omega) (by decide) (fun r29 => ?_)
        refine w_iconst dX10_readCloud_30 ?_
        refine w_icmp_ne (tgt := 43) dX10_readCloud_31 (by decide) (by omega) (by omega) (fun h31 => ?_) (fun h31 => ?_)
        · refine w_aload_n dX10_readCloud_43 rfl ?_
          refine r_getI (q := 10) dX10_readCloud_44 fl10_81 g0_238 (by decide) rfl (by decide) rfl (fun r44 => ?_)
          refine w_if_ne (tgt := 172) dX10_readCloud_47 (by decide) (by omega) (fun h47 => ?_) (fun h47 => ?_)
          · exact absurd h47 (by omega)
          · exact hg _ rfl (by omega) (by omega)
        · exact absurd h31 (by omega)
      · exact absurd h9 (by omega)
