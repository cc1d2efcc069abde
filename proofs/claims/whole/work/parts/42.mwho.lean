/-! ===== the reference: who, places, drawn ===== -/
theorem OUT_kept {M m : MM} {S T : SS} (hS : OUT S) (hT : OUT T) (hm : ∀ q, m 243 q = T q) (ha : ∀ q : Int, 0 ≤ q → q < 45 → m 247 q = S q) : ∀ q, cpM m 247 243 0 0 45 243 q = S q := fun q => by
  unfold cpM
  by_cases h : 0 ≤ q ∧ q < 0 + 45
  · rw [if_pos ⟨rfl, h⟩, ha _ (by omega) (by omega)]
    congr 1
    omega
  · rw [if_neg (fun w => h w.2), hm, hT q (by omega), hS q (by omega)]
theorem l_X10_isSo {E : EV} {M : MM} {S T : SS} {f i n : Int} (hO : SOK 9990 T) (hD : T 3 ≤ 999) (oS : OUT S) (oT : OUT T) (ha : ∀ q : Int, 0 ≤ q → q < 45 → M 247 q = S q) (f0 : 0 ≤ f) (f1 : f ≤ 15) (i0 : 0 ≤ i) (n0 : 1 ≤ n) (n1 : n ≤ 12) (hin : i + n ≤ 320) :
    ∀ (k d : Nat) (z b : Int) (m : MM) (x6 : Option AV), z = (d : Int) → b = bi (allB d (fitP T f (M 241) i)) → d + k = n.toNat → (∀ q, m 243 q = dysF T d q) → FrN M m → Wp E mX10_isSo (kd 6) 6 [some (vr 238), some (vi f), some (vi i), some (vi n), some (vi b), some (vi z), x6] [] N0 G0 m (Px (fun z m => z = bi (allB n.toNat (fitP T f (M 241) i)) ∧ (∀ q, m 243 q = S q) ∧ FrN M m)) := by
  intro k
  have hn := hO.1
  induction k with
  | zero =>
    intro d z b m x6 hz hb hk hm hF
    subst hz
    subst hb
    refine w_iload dX10_isSo_6 rfl ?_
    refine w_iload_n dX10_isSo_8 rfl ?_
    refine w_icmp_ge (tgt := 69) dX10_isSo_9 (by decide) (by omega) (by omega) (fun h9 => ?_) (fun h9 => ?_)
    · refine w_aload_n dX10_isSo_69 rfl ?_
      refine cVv dX10_isSo_70 ok_X10_backs lv10_178 c_X10_backs rfl (congrArg Prod.fst g0_238) (by decide) (by decide) rfl (by decide) (Nat.le_of_ble_eq_true rfl) ?_
      refine w_iload dX10_isSo_73 rfl ?_
      refine w_zret dX10_isSo_75 rfl ?_ ⟨Nat.le_refl _, Nat.le_refl _⟩
      exact (q_x ⟨by rw [show n.toNat = d by omega], OUT_kept (M := M) oS (OUT_dys hn.2 oT d) hm (fun q a b => by rw [hF 247 (by omega)]; exact ha q a b), fun j hj => by rw [cpM_cell hj]; exact hF j hj⟩)
    · exact absurd h9 (by omega)
  | succ k ih =>
    intro d z b m x6 hz hb hk hm hF
    subst hz
    subst hb
    have h3 := dysF_3 T d
    have hOd := SOK_dys hO d
    have k1 := hm (29 + f)
    have b1 := hOd.2.2.2.2.2 f f0 (by omega)
    have b2 := (SOK_dys hO (d + 1)).2.2.2.2.2 f f0 (by omega)
    have tail : ∀ (b : Bool) (m2 : MM) (x6 : Option AV), allB (d + 1) (fitP T f (M 241) i) = b → (∀ q, m2 243 q = dysF T (d + 1) q) → FrN M m2 → Wp E mX10_isSo (kd 6) 63 [some (vr 238), some (vi f), some (vi i), some (vi n), some (vi (bi b)), some (vi (d : Int)), x6] [] N0 G0 m2 (Px (fun z m => z = bi (allB n.toNat (fitP T f (M 241) i)) ∧ (∀ q, m 243 q = S q) ∧ FrN M m)) := by
      intro b m2 x6 hb hm2 hF2
      refine w_iinc dX10_isSo_63 rfl (by decide) ?_
      refine w_goto (tgt := 6) dX10_isSo_66 (by decide) ?_
      exact ih (d + 1) _ _ _ _ (by omega) (by rw [hb]) (by omega) hm2 hF2
    refine w_iload dX10_isSo_6 rfl ?_
    refine w_iload_n dX10_isSo_8 rfl ?_
    refine w_icmp_ge (tgt := 69) dX10_isSo_9 (by decide) (by omega) (by omega) (fun h9 => ?_) (fun h9 => ?_)
    · exact absurd h9 (by omega)
    · refine w_aload_n dX10_isSo_12 rfl ?_
      refine w_getR (r := 243) dX10_isSo_13 fl10_22 g0_238 (by decide) rfl ?_
      refine w_bipush dX10_isSo_16 (by decide +kernel) ?_
      refine w_iload_n dX10_isSo_18 rfl ?_
      refine w_iadd dX10_isSo_19 ?_
      refine r_ild dX10_isSo_20 g0_243 (by decide) (by omega) (by omega) (by decide) (fun r20 => ?_)
      refine w_istore dX10_isSo_21 (by decide) ?_
      refine w_aload_n dX10_isSo_23 rfl ?_
      refine cVxv dX10_isSo_24 ok_X10_goesBy lv10_153 (c_X10_goesBy hm hOd (by omega) (by omega)) rfl (congrArg Prod.fst g0_238) (by decide) (by decide) rfl (by decide) (Nat.le_of_ble_eq_true rfl) (fun m24 p24 => ?_)
      have k2 : m24 243 (29 + f) = dysF T (d + 1) (29 + f) := p24.1 (29 + f)
      have k3 : m24 241 (i + (d : Int)) = M 241 (i + (d : Int)) := by rw [p24.2 241 (by omega), hF 241 (by omega)]
      refine w_iload dX10_isSo_27 rfl ?_
      refine w_ifB_eq (tgt := 60) dX10_isSo_29 (by decide) (fun h29 => ?_) (fun h29 => ?_)
      · refine w_iconst dX10_isSo_60 ?_
        refine w_istore dX10_isSo_61 (by decide) ?_
        first | exact tail false _ _ (by rw [allB, h29, Bool.false_and]) p24.1 (hF.trans p24.2) | exact tail true _ _ (by rw [allB, h29, Bool.true_and]; exact decide_eq_true (by omega)) p24.1 (hF.trans p24.2) | exact tail false _ _ (by rw [allB, h29, Bool.true_and]; exact decide_eq_false (by omega)) p24.1 (hF.trans p24.2)
      · refine w_aload_n dX10_isSo_32 rfl ?_
        refine w_getR (r := 243) dX10_isSo_33 fl10_22 g0_238 (by decide) rfl ?_
        refine w_bipush dX10_isSo_36 (by decide +kernel) ?_
        refine w_iload_n dX10_isSo_38 rfl ?_
        refine w_iadd dX10_isSo_39 ?_
        refine r_ild dX10_isSo_40 g0_243 (by decide) (by omega) (by omega) (by decide) (fun r40 => ?_)
        refine w_iload dX10_isSo_41 rfl ?_
        refine w_isub dX10_isSo_43 ?_
        refine w_aload_n dX10_isSo_44 rfl ?_
        refine w_getR (r := 241) dX10_isSo_45 fl10_16 g0_238 (by decide) rfl ?_
        refine w_iload_n dX10_isSo_48 rfl ?_
        refine w_iload dX10_isSo_49 rfl ?_
        refine w_iadd dX10_isSo_51 ?_
        refine r_ild dX10_isSo_52 g0_241 (by decide) (by omega) (by omega) (by decide) (fun r52 => ?_)
        refine w_icmp_ne (tgt := 60) dX10_isSo_53 (by decide) (by omega) (by omega) (fun h53 => ?_) (fun h53 => ?_)
        · refine w_iconst dX10_isSo_60 ?_
          refine w_istore dX10_isSo_61 (by decide) ?_
          first | exact tail false _ _ (by rw [allB, h29, Bool.false_and]) p24.1 (hF.trans p24.2) | exact tail true _ _ (by rw [allB, h29, Bool.true_and]; exact decide_eq_true (by omega)) p24.1 (hF.trans p24.2) | exact tail false _ _ (by rw [allB, h29, Bool.true_and]; exact decide_eq_false (by omega)) p24.1 (hF.trans p24.2)
        · refine w_iconst dX10_isSo_56 ?_
          refine w_goto (tgt := 61) dX10_isSo_57 (by decide) ?_
          refine w_istore dX10_isSo_61 (by decide) ?_
          first | exact tail false _ _ (by rw [allB, h29, Bool.false_and]) p24.1 (hF.trans p24.2) | exact tail true _ _ (by rw [allB, h29, Bool.true_and]; exact decide_eq_true (by omega)) p24.1 (hF.trans p24.2) | exact tail false _ _ (by rw [allB, h29, Bool.true_and]; exact decide_eq_false (by omega)) p24.1 (hF.trans p24.2)
theorem c_X10_isSo {E : EV} {M : MM} {S T : SS} {f i n : Int} (hM : ∀ q, M 243 q = T q) (hO : SOK 9990 T) (hD : T 3 ≤ 999) (oS : OUT S) (oT : OUT T) (ha : ∀ q : Int, 0 ≤ q → q < 45 → M 247 q = S q) (f0 : 0 ≤ f) (f1 : f ≤ 15) (i0 : 0 ≤ i) (n0 : 1 ≤ n) (n1 : n ≤ 12) (hin : i + n ≤ 320) : Cx E mX10_isSo 6 [vr 238, vi f, vi i, vi n] M (fun z m => z = bi (allB n.toNat (fitP T f (M 241) i)) ∧ (∀ q, m 243 q = S q) ∧ FrN M m) := by
  refine Ct.of [some (vr 238), some (vi f), some (vi i), some (vi n), none, none, none] rfl rfl rfl (Nat.le_of_ble_eq_true rfl) ?_
  refine w_iconst dX10_isSo_0 ?_
  refine w_istore dX10_isSo_1 (by decide) ?_
  refine w_iconst dX10_isSo_3 ?_
  refine w_istore dX10_isSo_4 (by decide) ?_
  exact l_X10_isSo hO hD oS oT ha f0 f1 i0 n0 n1 hin n.toNat 0 _ _ _ _ rfl rfl (by omega) hM (fun j _ => rfl)
theorem c_X10_canSee {E : EV} {M : MM} {c f r n : Int} (hc : R32 c) (hf : R32 f) (hr : R32 r) (hn9 : R32 n) (hn : 0 ≤ M 243 0 ∧ M 243 0 ≤ 5) : Cm E mX10_canSee 2 [vr 238, vi c, vi f, vi r, vi n] M (bi (decide ((0 ≤ c ∧ c ≤ M 243 0 - 1) ∧ (0 ≤ f ∧ f ≤ 15) ∧ (0 ≤ r ∧ r ≤ 7) ∧ 1 ≤ n ∧ n ≤ 12))) M := by
  refine Ct.of [some (vr 238), some (vi c), some (vi f), some (vi r), some (vi n)] rfl rfl rfl (Nat.le_of_ble_eq_true rfl) ?_
  refine w_aload_n dX10_canSee_0 rfl ?_
  refine w_iload_n dX10_canSee_1 rfl ?_
  refine cVm dX10_canSee_2 ok_X10_isCloud lv10_156 (c_X10_isCloud (by omega) (by omega)) rfl (congrArg Prod.fst g0_238) (by decide) (by decide) rfl (by decide) (Nat.le_of_ble_eq_true rfl) (fun r2 => ?_)
  refine w_ifB_eq (tgt := 39) dX10_canSee_5 (by decide) (fun h5 => ?_) (fun h5 => ?_)
  · (first | replace h5 := of_decide_eq_true h5 | replace h5 := of_decide_eq_false h5 | skip)
    refine w_iconst dX10_canSee_39 ?_
    refine w_zret (b := false) dX10_canSee_40 rfl ?_ ⟨Nat.le_refl _, Nat.le_refl _⟩
    exact (q_b (decide_eq_false (by omega)).symm)
  · (first | replace h5 := of_decide_eq_true h5 | replace h5 := of_decide_eq_false h5 | skip)
    refine w_iload_n dX10_canSee_8 rfl ?_
    refine cSm dX10_canSee_9 ok_X10_isField (Or.inl ls10_163) (c_X10_isField (by omega)) rfl  rfl (by decide) (Nat.le_of_ble_eq_true rfl) (fun r9 => ?_)
    refine w_ifB_eq (tgt := 39) dX10_canSee_12 (by decide) (fun h12 => ?_) (fun h12 => ?_)
    · (first | replace h12 := of_decide_eq_true h12 | replace h12 := of_decide_eq_false h12 | skip)
      refine w_iconst dX10_canSee_39 ?_
      refine w_zret (b := false) dX10_canSee_40 rfl ?_ ⟨Nat.le_refl _, Nat.le_refl _⟩
      exact (q_b (decide_eq_false (by omega)).symm)
    · (first | replace h12 := of_decide_eq_true h12 | replace h12 := of_decide_eq_false h12 | skip)
      refine w_iload_n dX10_canSee_15 rfl ?_
      refine cSm dX10_canSee_16 ok_X10_isRow (Or.inl ls10_54) (c_X10_isRow (by omega)) rfl  rfl (by decide) (Nat.le_of_ble_eq_true rfl) (fun r16 => ?_)
      refine w_ifB_eq (tgt := 39) dX10_canSee_19 (by decide) (fun h19 => ?_) (fun h19 => ?_)
      · (first | replace h19 := of_decide_eq_true h19 | replace h19 := of_decide_eq_false h19 | skip)
        refine w_iconst dX10_canSee_39 ?_
        refine w_zret (b := false) dX10_canSee_40 rfl ?_ ⟨Nat.le_refl _, Nat.le_refl _⟩
        exact (q_b (decide_eq_false (by omega)).symm)
      · (first | replace h19 := of_decide_eq_true h19 | replace h19 := of_decide_eq_false h19 | skip)
        refine w_iload dX10_canSee_22 rfl ?_
        refine w_i2l dX10_canSee_24 (by omega) ?_
        refine w_lconst1 dX10_canSee_25 ?_
        refine w_ldc2 dX10_canSee_26 cl10_186 ?_
        refine cSm dX10_canSee_29 ok_X10_in (Or.inl ls10_50) (c_X10_in (by omega) (by omega) (by omega)) rfl  rfl (by decide) (Nat.le_of_ble_eq_true rfl) (fun r29 => ?_)
        refine w_ifB_eq (tgt := 39) dX10_canSee_32 (by decide) (fun h32 => ?_) (fun h32 => ?_)
        · (first | replace h32 := of_decide_eq_true h32 | replace h32 := of_decide_eq_false h32 | skip)
          refine w_iconst dX10_canSee_39 ?_
          refine w_zret (b := false) dX10_canSee_40 rfl ?_ ⟨Nat.le_refl _, Nat.le_refl _⟩
          exact (q_b (decide_eq_false (by omega)).symm)
        · (first | replace h32 := of_decide_eq_true h32 | replace h32 := of_decide_eq_false h32 | skip)
          refine w_iconst dX10_canSee_35 ?_
          refine w_goto (tgt := 40) dX10_canSee_36 (by decide) ?_
          refine w_zret (b := true) dX10_canSee_40 rfl ?_ ⟨Nat.le_refl _, Nat.le_refl _⟩
          exact (q_b (decide_eq_true (by omega)).symm)
theorem fit_zr {S : SS} (hn : S 0 ≤ 5) {j v f : Int} (hj : 0 < j ∧ j < 29) (f0 : 0 ≤ f) (f1 : f < 16) (it : Int → Int) (i : Int) (d : Nat) : fitP (upS (zr S) j v) f it i d = fitP (upS S j v) f it i d := by
  have h0 : upS S j v 0 ≤ 5 := by rw [upS_at, if_neg (by omega)]; exact hn
  have h := Sh_up (Sh_zr S) (j := j) (v := v) (by omega)
  have h1 := (Sh_dys h h0 d).2 (29 + f) (by omega) (by omega)
  have h2 := (Sh_dys h h0 (d + 1)).2 (29 + f) (by omega) (by omega)
  unfold fitP
  exact decide_eq_decide.mpr (by omega)
theorem fit_sh {T : SS} {f r i : Int} {it : Int → Int} {n : Nat} : allB n (fitP T f it (40 * r + i)) = allB n (fitP T f (fun k => it (40 * r + k)) i) := allB_congr (fun d _ => by unfold fitP; rw [Int.add_assoc])
theorem set_st {S : SS} {P : MM → Prop} {m : MM} {j v : Int} (hm : ∀ q, m 243 q = S q) : ∀ q, upM m 243 j v 243 q = upS S j v q := fun q => by
  rw [upS_at]
  by_cases e : q = j
  · rw [e, upM_same, if_pos rfl]
  · rw [upM_ne (fun w => e w.2), if_neg e, hm]
theorem l_X10_who {E : EV} {M : MM} {p : PS} {c f r i n y : Int} (hI : MI M p) (hP : POK p) (c0 : 0 ≤ c) (c1 : c < p.S 0) (f0 : 0 ≤ f) (f1 : f ≤ 15) (r0 : 0 ≤ r) (r1 : r < 8) (i0 : 0 ≤ i) (n0 : 1 ≤ n) (n1 : n ≤ 12) (hin : i + n ≤ 40) :
    ∀ (k q : Nat) (z s : Int) (m : MM), z = (q : Int) → s = ((setN q (kiB (zr p.S) c f (itF p r) i n.toNat) : Nat) : Int) → q + k = 6 → 1 ≤ q → (∀ x, m 243 x = p.S x) → FrN (cpM M 243 247 0 0 45) m → Wp E mX10_who (kd 9) 48 [some (vr 238), some (vi c), some (vi f), some (vi r), some (vi i), some (vi n), some (vi y), some (vi s), some (vi z)] [] N0 G0 m (Px (KM M (((setN 6 (kiB (zr p.S) c f (itF p r) i n.toNat) : Nat) : Int), (⟨p.ln, p.sz, p.it, p.tn, p.tp, p.S, p.u, p.U, p.fl, p.I, p.lf, 0, p.tr, p.tb⟩ : PS)))) := by
  intro k
  have hn := hP.hs.n
  have hd := hP.hs.d
  induction k with
  | zero =>
    intro q z s m hz hs hk hq hm hF
    subst hz
    subst hs
    obtain rfl : q = 6 := by omega
    have hr := setN_r (P := kiB (zr p.S) c f (itF p r) i n.toNat) (n := 6) (by omega)
    have kk : MI m p ∧ Lo M m := by
      refine ⟨hI.same (fun j a b c d => ?_) (fun k _ => by rw [hF 238 (by omega), cpM_cell (by omega)]), fun j hj => by rw [hF j (by omega), cpM_cell (by omega)]⟩
      by_cases e : j = 243
      · rw [e, hI.S]; exact funext hm
      · rw [hF j e, cpM_cell (by omega)]
    refine w_iload dX10_who_48 rfl ?_
    refine w_bipush dX10_who_50 (by decide +kernel) ?_
    refine w_icmp_ge (tgt := 103) dX10_who_52 (by decide) (by omega) (by omega) (fun h52 => ?_) (fun h52 => ?_)
    · refine w_aload_n dX10_who_103 rfl ?_
      refine w_iload dX10_who_104 rfl ?_
      refine cVm dX10_who_106 ok_X10_well lv10_65 (c_X10_well (by omega)) rfl (congrArg Prod.fst g0_238) (by decide) (by decide) rfl (by decide) (Nat.le_of_ble_eq_true rfl) (fun r106 => ?_)
      refine w_iret dX10_who_109 rfl (by omega) ?_ ⟨Nat.le_refl _, Nat.le_refl _⟩
      exact (q_x (KM.find kk.1 kk.2 rfl))
    · exact absurd h52 (by omega)
  | succ k ih =>
    intro q z s m hz hs hk hq hm hF
    subst hz
    subst hs
    have hr := setN_r (P := kiB (zr p.S) c f (itF p r) i n.toNat) (n := q) (by omega)
    have eI : ∀ m2 : MM, m2 241 = m 241 → allB n.toNat (fitP (upS p.S (4 + 5 * c) (q : Int)) f (m2 241) (40 * r + i)) = kiB (zr p.S) c f (itF p r) i n.toNat q := fun m2 e => by
      rw [e, hF 241 (by omega), cpM_cell (by omega), hI.it, fit_sh]
      unfold kiB
      rw [decide_eq_true hq, Bool.true_and]
      exact allB_congr (fun d _ => (fit_zr hn.2 (by omega) f0 (by omega) _ _ _).symm)
    have tail : ∀ (v : Nat) (m2 : MM), setN (q + 1) (kiB (zr p.S) c f (itF p r) i n.toNat) = (setN q (kiB (zr p.S) c f (itF p r) i n.toNat) ||| v) → (∀ x, m2 243 x = p.S x) → FrN (cpM M 243 247 0 0 45) m2 → Wp E mX10_who (kd 9) 94 [some (vr 238), some (vi c), some (vi f), some (vi r), some (vi i), some (vi n), some (vi y), some (vi ((setN q (kiB (zr p.S) c f (itF p r) i n.toNat) : Nat) : Int)), some (vi (q : Int))] [vi (v : Int), vi ((setN q (kiB (zr p.S) c f (itF p r) i n.toNat) : Nat) : Int)] N0 G0 m2 (Px (KM M (((setN 6 (kiB (zr p.S) c f (itF p r) i n.toNat) : Nat) : Int), (⟨p.ln, p.sz, p.it, p.tn, p.tp, p.S, p.u, p.U, p.fl, p.I, p.lf, 0, p.tr, p.tb⟩ : PS)))) := by
      intro v m2 hv hm2 hF2
      refine w_ibin (r := ((setN q (kiB (zr p.S) c f (itF p r) i n.toNat) ||| v : Nat) : Int)) dX10_who_94 (Or.inr <| Or.inl ⟨rfl, b_or _ _⟩) ?_
      refine w_istore dX10_who_95 (by decide) ?_
      refine w_iinc dX10_who_97 rfl (by decide) ?_
      refine w_goto (tgt := 48) dX10_who_100 (by decide) ?_
      exact ih (q + 1) _ _ _ (by omega) (by rw [hv]) (by omega) (by omega) hm2 hF2
    refine w_iload dX10_who_48 rfl ?_
    refine w_bipush dX10_who_50 (by decide +kernel) ?_
    refine w_icmp_ge (tgt := 103) dX10_who_52 (by decide) (by omega) (by omega) (fun h52 => ?_) (fun h52 => ?_)
    · exact absurd h52 (by omega)
    · refine w_aload_n dX10_who_55 rfl ?_
      refine w_getR (r := 243) dX10_who_56 fl10_22 g0_238 (by decide) rfl ?_
      refine w_iconst dX10_who_59 ?_
      refine w_iconst dX10_who_60 ?_
      refine w_iload_n dX10_who_61 rfl ?_
      refine w_imul dX10_who_62 ?_
      refine w_iadd dX10_who_63 ?_
      refine w_iload dX10_who_64 rfl ?_
      refine r_ist dX10_who_66 g0_243 (by decide) (by omega) (by omega) (by omega) (by decide) ?_
      refine w_iload dX10_who_67 rfl ?_
      refine w_aload_n dX10_who_69 rfl ?_
      refine w_iload_n dX10_who_70 rfl ?_
      refine w_bipush dX10_who_71 (by decide +kernel) ?_
      refine w_iload_n dX10_who_73 rfl ?_
      refine w_imul dX10_who_74 ?_
      refine w_iload dX10_who_75 rfl ?_
      refine w_iadd dX10_who_77 ?_
      refine w_iload dX10_who_78 rfl ?_
      refine cVx dX10_who_80 ok_X10_isSo lv10_196 (c_X10_isSo (S := p.S) (T := upS p.S (4 + 5 * c) (q : Int)) (set_st (P := fun _ => True) hm) (SOK_kind hP.hs.ok c0 c1 (by omega) (by omega)) (by rw [upS_at, if_neg (by omega)]; omega) hP.hs.1 (OUT_up hP.hs.1 (by omega)) (fun x a b => by rw [upM_cell (by omega), as_at hF a b, hI.S]) f0 f1 (by omega) n0 n1 (by omega)) rfl (congrArg Prod.fst g0_238) (by decide) (by decide) rfl (by decide) (Nat.le_of_ble_eq_true rfl) (fun z80 m80 r80 p80 => ?_)
      obtain ⟨pz, pS, pF⟩ := p80
      rw [eI _ (by rw [upM_cell (by omega)])] at pz
      subst pz
      have hF3 : FrN (cpM M 243 247 0 0 45) m80 := fun j hj => by rw [pF j hj, upM_cell hj]; exact hF j hj
      refine w_ifB_eq (tgt := 93) dX10_who_83 (by decide) (fun h83 => ?_) (fun h83 => ?_)
      · refine w_iconst dX10_who_93 ?_
        first | exact tail (2 ^ q) _ (setN_t h83) pS hF3 | exact tail 0 _ (by rw [Nat.or_zero]; exact setN_f h83) pS hF3
      · refine w_iconst dX10_who_86 ?_
        refine w_iload dX10_who_87 rfl ?_
        refine w_ibin (r := ((2 ^ q : Nat) : Int)) dX10_who_89 (Or.inr <| Or.inr <| Or.inr <| Or.inl ⟨rfl, b_1shlN (by omega)⟩) ?_
        refine w_goto (tgt := 94) dX10_who_90 (by decide) ?_
        first | exact tail (2 ^ q) _ (setN_t h83) pS hF3 | exact tail 0 _ (by rw [Nat.or_zero]; exact setN_f h83) pS hF3
theorem l_X10_places {E : EV} {M : MM} {p : PS} {c f r i n y : Int} (hI : MI M p) (hP : POK p) (c0 : 0 ≤ c) (c1 : c < p.S 0) (f0 : 0 ≤ f) (f1 : f ≤ 15) (r0 : 0 ≤ r) (r1 : r < 8) (i0 : 0 ≤ i) (n0 : 1 ≤ n) (n1 : n ≤ 12) (hin : i + n ≤ 40) :
    ∀ (k q : Nat) (z s : Int) (m : MM), z = (q : Int) → s = ((setN q (plB (zr p.S) c f (itF p r) i n.toNat) : Nat) : Int) → q + k = 16 → (∀ x, m 243 x = p.S x) → FrN (cpM M 243 247 0 0 45) m → Wp E mX10_places (kd 9) 59 [some (vr 238), some (vi c), some (vi f), some (vi r), some (vi i), some (vi n), some (vi y), some (vi s), some (vi z)] [] N0 G0 m (Px (KM M (((setN 16 (plB (zr p.S) c f (itF p r) i n.toNat) : Nat) : Int), (⟨p.ln, p.sz, p.it, p.tn, p.tp, p.S, p.u, p.U, p.fl, p.I, p.lf, 0, p.tr, p.tb⟩ : PS)))) := by
  intro k
  have hn := hP.hs.n
  have hd := hP.hs.d
  induction k with
  | zero =>
    intro q z s m hz hs hk hm hF
    subst hz
    subst hs
    obtain rfl : q = 16 := by omega
    have hr := setN_r (P := plB (zr p.S) c f (itF p r) i n.toNat) (n := 16) (by omega)
    have kk : MI m p ∧ Lo M m := by
      refine ⟨hI.same (fun j a b c d => ?_) (fun k _ => by rw [hF 238 (by omega), cpM_cell (by omega)]), fun j hj => by rw [hF j (by omega), cpM_cell (by omega)]⟩
      by_cases e : j = 243
      · rw [e, hI.S]; exact funext hm
      · rw [hF j e, cpM_cell (by omega)]
    refine w_iload dX10_places_59 rfl ?_
    refine w_bipush dX10_places_61 (by decide +kernel) ?_
    refine w_icmp_ge (tgt := 116) dX10_places_63 (by decide) (by omega) (by omega) (fun h63 => ?_) (fun h63 => ?_)
    · refine w_aload_n dX10_places_116 rfl ?_
      refine w_iload dX10_places_117 rfl ?_
      refine cVm dX10_places_119 ok_X10_well lv10_65 (c_X10_well (by omega)) rfl (congrArg Prod.fst g0_238) (by decide) (by decide) rfl (by decide) (Nat.le_of_ble_eq_true rfl) (fun r119 => ?_)
      refine w_iret dX10_places_122 rfl (by omega) ?_ ⟨Nat.le_refl _, Nat.le_refl _⟩
      exact (q_x (KM.find kk.1 kk.2 rfl))
    · exact absurd h63 (by omega)
  | succ k ih =>
    intro q z s m hz hs hk hm hF
    subst hz
    subst hs
    have hr := setN_r (P := plB (zr p.S) c f (itF p r) i n.toNat) (n := q) (by omega)
    have eI : ∀ m2 : MM, m2 241 = m 241 → allB n.toNat (fitP (upS p.S (5 + 5 * c) (q : Int)) f (m2 241) (40 * r + i)) = plB (zr p.S) c f (itF p r) i n.toNat q := fun m2 e => by
      rw [e, hF 241 (by omega), cpM_cell (by omega), hI.it, fit_sh]
      unfold plB
      exact allB_congr (fun d _ => (fit_zr hn.2 (by omega) f0 (by omega) _ _ _).symm)
    have tail : ∀ (v : Nat) (m2 : MM), setN (q + 1) (plB (zr p.S) c f (itF p r) i n.toNat) = (setN q (plB (zr p.S) c f (itF p r) i n.toNat) ||| v) → (∀ x, m2 243 x = p.S x) → FrN (cpM M 243 247 0 0 45) m2 → Wp E mX10_places (kd 9) 107 [some (vr 238), some (vi c), some (vi f), some (vi r), some (vi i), some (vi n), some (vi y), some (vi ((setN q (plB (zr p.S) c f (itF p r) i n.toNat) : Nat) : Int)), some (vi (q : Int))] [vi (v : Int), vi ((setN q (plB (zr p.S) c f (itF p r) i n.toNat) : Nat) : Int)] N0 G0 m2 (Px (KM M (((setN 16 (plB (zr p.S) c f (itF p r) i n.toNat) : Nat) : Int), (⟨p.ln, p.sz, p.it, p.tn, p.tp, p.S, p.u, p.U, p.fl, p.I, p.lf, 0, p.tr, p.tb⟩ : PS)))) := by
      intro v m2 hv hm2 hF2
      refine w_ibin (r := ((setN q (plB (zr p.S) c f (itF p r) i n.toNat) ||| v : Nat) : Int)) dX10_places_107 (Or.inr <| Or.inl ⟨rfl, b_or _ _⟩) ?_
      refine w_istore dX10_places_108 (by decide) ?_
      refine w_iinc dX10_places_110 rfl (by decide) ?_
      refine w_goto (tgt := 59) dX10_places_113 (by decide) ?_
      exact ih (q + 1) _ _ _ (by omega) (by rw [hv]) (by omega) hm2 hF2
    refine w_iload dX10_places_59 rfl ?_
    refine w_bipush dX10_places_61 (by decide +kernel) ?_
    refine w_icmp_ge (tgt := 116) dX10_places_63 (by decide) (by omega) (by omega) (fun h63 => ?_) (fun h63 => ?_)
    · exact absurd h63 (by omega)
    · refine w_aload_n dX10_places_66 rfl ?_
      refine w_getR (r := 243) dX10_places_67 fl10_22 g0_238 (by decide) rfl ?_
      refine w_iconst dX10_places_70 ?_
      refine w_iconst dX10_places_71 ?_
      refine w_iload_n dX10_places_72 rfl ?_
      refine w_imul dX10_places_73 ?_
      refine w_iadd dX10_places_74 ?_
      refine w_iconst dX10_places_75 ?_
      refine w_iadd dX10_places_76 ?_
      refine w_iload dX10_places_77 rfl ?_
      refine r_istq (q := 5 + 5 * c) dX10_places_79 g0_243 (by decide) (by omega) (by omega) (by omega) (by omega) (by decide) ?_
      refine w_iload dX10_places_80 rfl ?_
      refine w_aload_n dX10_places_82 rfl ?_
      refine w_iload_n dX10_places_83 rfl ?_
      refine w_bipush dX10_places_84 (by decide +kernel) ?_
      refine w_iload_n dX10_places_86 rfl ?_
      refine w_imul dX10_places_87 ?_
      refine w_iload dX10_places_88 rfl ?_
      refine w_iadd dX10_places_90 ?_
      refine w_iload dX10_places_91 rfl ?_
      refine cVx dX10_places_93 ok_X10_isSo lv10_196 (c_X10_isSo (S := p.S) (T := upS p.S (5 + 5 * c) (q : Int)) (set_st (P := fun _ => True) hm) (SOK_place hP.hs.ok c0 c1 (by omega) (by omega)) (by rw [upS_at, if_neg (by omega)]; omega) hP.hs.1 (OUT_up hP.hs.1 (by omega)) (fun x a b => by rw [upM_cell (by omega), as_at hF a b, hI.S]) f0 f1 (by omega) n0 n1 (by omega)) rfl (congrArg Prod.fst g0_238) (by decide) (by decide) rfl (by decide) (Nat.le_of_ble_eq_true rfl) (fun z93 m93 r93 p93 => ?_)
      obtain ⟨pz, pS, pF⟩ := p93
      rw [eI _ (by rw [upM_cell (by omega)])] at pz
      subst pz
      have hF3 : FrN (cpM M 243 247 0 0 45) m93 := fun j hj => by rw [pF j hj, upM_cell hj]; exact hF j hj
      refine w_ifB_eq (tgt := 106) dX10_places_96 (by decide) (fun h96 => ?_) (fun h96 => ?_)
      · refine w_iconst dX10_places_106 ?_
        first | exact tail (2 ^ q) _ (setN_t h96) pS hF3 | exact tail 0 _ (by rw [Nat.or_zero]; exact setN_f h96) pS hF3
      · refine w_iconst dX10_places_99 ?_
        refine w_iload dX10_places_100 rfl ?_
        refine w_ibin (r := ((2 ^ q : Nat) : Int)) dX10_places_102 (Or.inr <| Or.inr <| Or.inr <| Or.inl ⟨rfl, b_1shlN (by omega)⟩) ?_
        refine w_goto (tgt := 107) dX10_places_103 (by decide) ?_
        first | exact tail (2 ^ q) _ (setN_t h96) pS hF3 | exact tail 0 _ (by rw [Nat.or_zero]; exact setN_f h96) pS hF3
theorem c_X10_who {E : EV} {M : MM} {p : PS} {c f r i n : Int} (hI : MI M p) (hP : POK p) (hc : R32 c) (hf : R32 f) (hr : R32 r) (hi : R32 i) (hn9 : R32 n) : Cx E mX10_who 9 [vr 238, vi c, vi f, vi r, vi i, vi n] M (KM M (whoR p c f r i n)) := by
  refine Ct.of [some (vr 238), some (vi c), some (vi f), some (vi r), some (vi i), some (vi n), none, none, none] rfl rfl rfl (Nat.le_of_ble_eq_true rfl) ?_
  have hn := hP.hs.n
  have e0 := hI.sq 0
  have q1 := hP.hl r
  have e1 : M 239 r = p.ln r := by rw [hI.ln]
  have e2 : M 240 r = p.sz r := by rw [hI.sz]
  refine w_aload_n dX10_who_0 rfl ?_
  refine w_iload_n dX10_who_1 rfl ?_
  refine w_iload_n dX10_who_2 rfl ?_
  refine w_iload_n dX10_who_3 rfl ?_
  refine w_iload dX10_who_4 rfl ?_
  refine cVm dX10_who_6 ok_X10_canSee lv10_188 (c_X10_canSee (by omega) (by omega) (by omega) (by omega) (by omega)) rfl (congrArg Prod.fst g0_238) (by decide) (by decide) rfl (by decide) (Nat.le_of_ble_eq_true rfl) (fun r6 => ?_)
  refine w_ifB_ne (tgt := 15) dX10_who_9 (by decide) (fun h9 => ?_) (fun h9 => ?_)
  · (first | replace h9 := of_decide_eq_true h9 | replace h9 := of_decide_eq_false h9 | skip)
    have q1 := q1 (by omega) (by omega)
    have pr : 0 ≤ (if M 239 r < 0 then (1 : Int) else if 0 ≤ i ∧ 0 ≤ n ∧ i + n ≤ M 240 r then 0 else 2) ∧ (if M 239 r < 0 then (1 : Int) else if 0 ≤ i ∧ 0 ≤ n ∧ i + n ≤ M 240 r then 0 else 2) ≤ 2 := (by (repeat' split) <;> omega)
    refine w_aload_n dX10_who_15 rfl ?_
    refine w_iload_n dX10_who_16 rfl ?_
    refine w_iload dX10_who_17 rfl ?_
    refine w_iload dX10_who_19 rfl ?_
    refine cVm dX10_who_21 ok_X10_partOf lv10_192 (c_X10_partOf (by omega) (by omega) (by omega) (by omega)) rfl (congrArg Prod.fst g0_238) (by decide) (by decide) rfl (by decide) (Nat.le_of_ble_eq_true rfl) (fun r21 => ?_)
    refine w_istore dX10_who_24 (by decide) ?_
    refine w_iload dX10_who_26 rfl ?_
    refine w_if_le (tgt := 38) dX10_who_28 (by decide) (by omega) (fun h28 => ?_) (fun h28 => ?_)
    · have a : ¬ M 239 r < 0 := (fun a => by rw [if_pos a] at h28; exact absurd h28 (by decide))
      rw [if_neg a] at h28
      have b : 0 ≤ i ∧ 0 ≤ n ∧ i + n ≤ M 240 r := Decidable.by_contra (fun b => by rw [if_neg b] at h28; exact absurd h28 (by decide))
      refine w_aload_n dX10_who_38 rfl ?_
      refine cVv dX10_who_39 ok_X10_asides lv10_171 c_X10_asides rfl (congrArg Prod.fst g0_238) (by decide) (by decide) rfl (by decide) (Nat.le_of_ble_eq_true rfl) ?_
      refine w_iconst dX10_who_42 ?_
      refine w_istore dX10_who_43 (by decide) ?_
      refine w_iconst dX10_who_45 ?_
      refine w_istore dX10_who_46 (by decide) ?_
      rw [show whoR p c f r i n = (((setN 6 (kiB (zr p.S) c f (itF p r) i n.toNat) : Nat) : Int), (⟨p.ln, p.sz, p.it, p.tn, p.tp, p.S, p.u, p.U, p.fl, p.I, p.lf, 0, p.tr, p.tb⟩ : PS)) from by unfold whoR; rw [if_pos (by omega), if_neg (by omega), if_pos (by omega)]]
      exact l_X10_who hI hP (by omega) (by omega) (by omega) (by omega) (by omega) (by omega) (by omega) (by omega) (by omega) (by omega) 5 1 _ _ _ rfl (by rw [setN_f (c := 0) (by unfold kiB; rw [decide_eq_false (by omega), Bool.false_and])]; rfl) (by omega) (by omega) (fun x => by rw [FrN.as, hI.S]) (fun j _ => rfl)
    · refine w_aload_n dX10_who_31 rfl ?_
      refine w_iload dX10_who_32 rfl ?_
      refine cVm dX10_who_34 ok_X10_finds lv10_61 (c_X10_finds (by omega)) rfl (congrArg Prod.fst g0_238) (by decide) (by decide) rfl (by decide) (Nat.le_of_ble_eq_true rfl) (fun r34 => ?_)
      refine w_iret dX10_who_37 rfl (by omega) ?_ ⟨Nat.le_refl _, Nat.le_refl _⟩
      refine q_x ?_
      by_cases a : M 239 r < 0
      · rw [if_pos a]; exact KM.find hI (Lo.refl M) (by unfold whoR; rw [if_pos (by omega), if_pos (by omega)]; rfl)
      · by_cases b : 0 ≤ i ∧ 0 ≤ n ∧ i + n ≤ M 240 r
        · rw [if_neg a, if_pos b] at h28; exact absurd h28 (by decide)
        · rw [if_neg a, if_neg b]; exact KM.find hI (Lo.refl M) (by unfold whoR; rw [if_pos (by omega), if_neg (by omega), if_neg (by omega)]; rfl)
  · (first | replace h9 := of_decide_eq_true h9 | replace h9 := of_decide_eq_false h9 | skip)
    refine w_ldc dX10_who_12 co10_60 ?_
    refine w_iret dX10_who_14 rfl (by omega) ?_ ⟨Nat.le_refl _, Nat.le_refl _⟩
    exact (q_x (KM.stay hI (by unfold whoR; ((repeat (first | rw [if_pos (by omega)] | rw [if_neg (by omega)])) <;> rfl))))
theorem c_X10_places {E : EV} {M : MM} {p : PS} {c f r i n : Int} (hI : MI M p) (hP : POK p) (hc : R32 c) (hf : R32 f) (hr : R32 r) (hi : R32 i) (hn9 : R32 n) : Cx E mX10_places 9 [vr 238, vi c, vi f, vi r, vi i, vi n] M (KM M (plcR p c f r i n)) := by
  refine Ct.of [some (vr 238), some (vi c), some (vi f), some (vi r), some (vi i), some (vi n), none, none, none] rfl rfl rfl (Nat.le_of_ble_eq_true rfl) ?_
  have hn := hP.hs.n
  have e0 := hI.sq 0
  have e7 := hI.sq (7 + 5 * c)
  have q1 := hP.hl r
  have e1 : M 239 r = p.ln r := by rw [hI.ln]
  have e2 : M 240 r = p.sz r := by rw [hI.sz]
  refine w_aload_n dX10_places_0 rfl ?_
  refine w_iload_n dX10_places_1 rfl ?_
  refine w_iload_n dX10_places_2 rfl ?_
  refine w_iload_n dX10_places_3 rfl ?_
  refine w_iload dX10_places_4 rfl ?_
  refine cVm dX10_places_6 ok_X10_canSee lv10_188 (c_X10_canSee (by omega) (by omega) (by omega) (by omega) (by omega)) rfl (congrArg Prod.fst g0_238) (by decide) (by decide) rfl (by decide) (Nat.le_of_ble_eq_true rfl) (fun r6 => ?_)
  refine w_ifB_ne (tgt := 15) dX10_places_9 (by decide) (fun h9 => ?_) (fun h9 => ?_)
  · (first | replace h9 := of_decide_eq_true h9 | replace h9 := of_decide_eq_false h9 | skip)
    have q1 := q1 (by omega) (by omega)
    have pr : 0 ≤ (if M 239 r < 0 then (1 : Int) else if 0 ≤ i ∧ 0 ≤ n ∧ i + n ≤ M 240 r then 0 else 2) ∧ (if M 239 r < 0 then (1 : Int) else if 0 ≤ i ∧ 0 ≤ n ∧ i + n ≤ M 240 r then 0 else 2) ≤ 2 := (by (repeat' split) <;> omega)
    refine w_aload_n dX10_places_15 rfl ?_
    refine w_iload_n dX10_places_16 rfl ?_
    refine w_iload dX10_places_17 rfl ?_
    refine w_iload dX10_places_19 rfl ?_
    refine cVm dX10_places_21 ok_X10_partOf lv10_192 (c_X10_partOf (by omega) (by omega) (by omega) (by omega)) rfl (congrArg Prod.fst g0_238) (by decide) (by decide) rfl (by decide) (Nat.le_of_ble_eq_true rfl) (fun r21 => ?_)
    refine w_istore dX10_places_24 (by decide) ?_
    refine w_iload dX10_places_26 rfl ?_
    refine w_if_le (tgt := 38) dX10_places_28 (by decide) (by omega) (fun h28 => ?_) (fun h28 => ?_)
    · have a : ¬ M 239 r < 0 := (fun a => by rw [if_pos a] at h28; exact absurd h28 (by decide))
      rw [if_neg a] at h28
      have b : 0 ≤ i ∧ 0 ≤ n ∧ i + n ≤ M 240 r := Decidable.by_contra (fun b => by rw [if_neg b] at h28; exact absurd h28 (by decide))
      refine w_aload_n dX10_places_38 rfl ?_
      refine w_iload_n dX10_places_39 rfl ?_
      refine cVm dX10_places_40 ok_X10_isGone lv10_129 (c_X10_isGone (by omega) (by omega)) rfl (congrArg Prod.fst g0_238) (by decide) (by decide) rfl (by decide) (Nat.le_of_ble_eq_true rfl) (fun r40 => ?_)
      refine w_ifB_eq (tgt := 49) dX10_places_43 (by decide) (fun h43 => ?_) (fun h43 => ?_)
      · (first | replace h43 := of_decide_eq_true h43 | replace h43 := of_decide_eq_false h43 | skip)
        refine w_aload_n dX10_places_49 rfl ?_
        refine cVv dX10_places_50 ok_X10_asides lv10_171 c_X10_asides rfl (congrArg Prod.fst g0_238) (by decide) (by decide) rfl (by decide) (Nat.le_of_ble_eq_true rfl) ?_
        refine w_iconst dX10_places_53 ?_
        refine w_istore dX10_places_54 (by decide) ?_
        refine w_iconst dX10_places_56 ?_
        refine w_istore dX10_places_57 (by decide) ?_
        rw [show plcR p c f r i n = (((setN 16 (plB (zr p.S) c f (itF p r) i n.toNat) : Nat) : Int), (⟨p.ln, p.sz, p.it, p.tn, p.tp, p.S, p.u, p.U, p.fl, p.I, p.lf, 0, p.tr, p.tb⟩ : PS)) from by unfold plcR; rw [if_pos (by omega), if_neg (by omega), if_pos (by omega), if_neg (by omega)]]
        exact l_X10_places hI hP (by omega) (by omega) (by omega) (by omega) (by omega) (by omega) (by omega) (by omega) (by omega) (by omega) 16 0 _ _ _ rfl rfl (by omega) (fun x => by rw [FrN.as, hI.S]) (fun j _ => rfl)
      · (first | replace h43 := of_decide_eq_true h43 | replace h43 := of_decide_eq_false h43 | skip)
        refine w_ldc dX10_places_46 co10_144 ?_
        refine w_iret dX10_places_48 rfl (by omega) ?_ ⟨Nat.le_refl _, Nat.le_refl _⟩
        exact (q_x (KM.stay hI (by unfold plcR; ((repeat (first | rw [if_pos (by omega)] | rw [if_neg (by omega)])) <;> rfl))))
    · refine w_aload_n dX10_places_31 rfl ?_
      refine w_iload dX10_places_32 rfl ?_
      refine cVm dX10_places_34 ok_X10_finds lv10_61 (c_X10_finds (by omega)) rfl (congrArg Prod.fst g0_238) (by decide) (by decide) rfl (by decide) (Nat.le_of_ble_eq_true rfl) (fun r34 => ?_)
      refine w_iret dX10_places_37 rfl (by omega) ?_ ⟨Nat.le_refl _, Nat.le_refl _⟩
      refine q_x ?_
      by_cases a : M 239 r < 0
      · rw [if_pos a]; exact KM.find hI (Lo.refl M) (by unfold plcR; rw [if_pos (by omega), if_pos (by omega)]; rfl)
      · by_cases b : 0 ≤ i ∧ 0 ≤ n ∧ i + n ≤ M 240 r
        · rw [if_neg a, if_pos b] at h28; exact absurd h28 (by decide)
        · rw [if_neg a, if_neg b]; exact KM.find hI (Lo.refl M) (by unfold plcR; rw [if_pos (by omega), if_neg (by omega), if_neg (by omega)]; rfl)
  · (first | replace h9 := of_decide_eq_true h9 | replace h9 := of_decide_eq_false h9 | skip)
    refine w_ldc dX10_places_12 co10_60 ?_
    refine w_iret dX10_places_14 rfl (by omega) ?_ ⟨Nat.le_refl _, Nat.le_refl _⟩
    exact (q_x (KM.stay hI (by unfold plcR; ((repeat (first | rw [if_pos (by omega)] | rw [if_neg (by omega)])) <;> rfl))))
