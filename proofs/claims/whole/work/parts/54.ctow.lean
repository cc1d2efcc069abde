/-! ===== the class: which fields each cloud wets ===== -/
theorem fl_eq {U T : SS} {c : Int} (c0 : 0 ≤ c) (c1 : c < 5) (e1 : U 1 = T 1) (e3 : U 3 = T 3) (h : ∀ j : Int, 4 ≤ j → j ≤ 7 → U (j + 5 * c) = T (j + 5 * c)) : plF U c = plF T c ∧ wdF U c = wdF T c ∧ neF U c = neF T c ∧ wtF U c = wtF T c ∧ flF U c = flF T c := by
  have k0 := h 4 (by omega) (by omega)
  have k1 := h 5 (by omega) (by omega)
  have k2 := h 6 (by omega) (by omega)
  have k3 := h 7 (by omega) (by omega)
  have a1 : plF U c = plF T c := by unfold plF; rw [k0, k1, e1]
  have a2 : wdF U c = wdF T c := by unfold wdF; rw [k0, k2, e3]
  have a3 : raF U c = raF T c := by unfold raF; rw [k0, e3]
  have a4 : neF U c = neF T c := by unfold neF; rw [a2, a3]
  have a5 : wtF U c = wtF T c := by unfold wtF; rw [a4, k3]
  have a6 : flF U c = flF T c := by unfold flF; rw [a4, k3, a1, a2]
  exact ⟨a1, a2, a4, a5, a6⟩
theorem cls_own {T : SS} {d : Int} {j : Int} (hj : 4 ≤ j ∧ j ≤ 8) (d5 : d < 5) : ∀ c : Nat, (c : Int) ≤ d → clsF T c (j + 5 * d) = T (j + 5 * d)
  | 0, _ => rfl
  | c + 1, h => by rw [clsF, clF_other d5 (by omega) (by omega) hj, cls_own hj d5 c (by omega)]
theorem fl_cls (T : SS) (c : Nat) (c5 : c < 5) : flF (clsF T c) (c : Int) = flF T (c : Int) :=
  (fl_eq (by omega) (by omega) (clsF_low (by omega) c) (clsF_low (by omega) c) (fun j h0 h1 => cls_own (by omega) (by omega) c (by omega))).2.2.2.2
/-- a sky that is T but for the rain noted -/
def MW (M : MM) (T : SS) : Prop := ∃ U : SS, SV M 211 U ∧ (∀ q : Int, q < 29 → U q = T q) ∧ SOK 9990 U
theorem SOK_mv {B : Int} {U : SS} (h : SOK B U) {c : Int} (c0 : 0 ≤ c) (c1 : c < U 0) : SOK B (mvF U c) := by
  have hn := h.1
  have hc := SOK_cl h c0 c1
  have e : ∀ q : Int, q < 29 → mvF U c q = clF U c q := fun q hq => (clF_cloud hq).symm
  have n0 : clF U c 0 = U 0 := clF_low c0 (by omega)
  refine ⟨by rw [e 0 (by omega)]; exact hc.1, by rw [e 1 (by omega)]; exact hc.2.1, by rw [e 2 (by omega)]; exact hc.2.2.1, by rw [e 3 (by omega)]; exact hc.2.2.2.1, fun d d0 d1 => ?_, fun f f0 f1 => ?_⟩
  · rw [e 0 (by omega)] at d1
    rw [e _ (by omega), e _ (by omega), e _ (by omega), e _ (by omega), e _ (by omega)]
    exact hc.cl d0 d1
  · have : mvF U c (29 + f) = U (29 + f) := by
      rw [mvF_at]
      split
      · rfl
      · rw [if_neg (by omega), if_neg (by omega), if_neg (by omega)]
    rw [this]
    exact h.2.2.2.2.2 f f0 f1
theorem mv_eq {U T : SS} {c : Int} (c0 : 0 ≤ c) (c1 : c < 5) (h : ∀ q : Int, q < 29 → U q = T q) : (∀ q : Int, q < 29 → mvF U c q = clF T c q) ∧ flF U c = flF T c := by
  obtain ⟨a1, a2, a4, a5, a6⟩ := fl_eq c0 c1 (h 1 (by omega)) (h 3 (by omega)) (fun j h0 h1 => h (j + 5 * c) (by omega))
  refine ⟨fun q hq => ?_, a6⟩
  rw [clF_cloud hq, mvF_at, mvF_at, h (7 + 5 * c) (by omega), a1, a2, a5, h q hq]
/-- behind d days and c clouds: what each cloud has wetted -/
def WT (M : MM) (S : SS) (d c : Nat) : Prop := ∀ i : Nat, (i : Int) < S 0 → M 218 (i : Int) = ((wtd S (if i < c then d + 1 else d) i : Nat) : Int)
def FrT (M m : MM) : Prop := ∀ i : Nat, ¬ (211 ≤ i ∧ i ≤ 218) → m i = M i
theorem FrT.refl (M : MM) : FrT M M := fun _ _ => rfl
theorem FrT.trans {M m m2 : MM} (h : FrT M m) (h2 : FrT m m2) : FrT M m2 := fun i hi => (h2 i hi).trans (h i hi)
theorem l_X8_fwIn {E : EV} {M : MM} {S : SS} {n : Int} {d : Nat} {Q : PP} (hO : SOK 9990 S) (hQ : ∀ m : MM, MW m (clsF (dysF S d) (S 0).toNat) → WT m S d (S 0).toNat → FrT M m → Wp E mX8_findWetted (kd 6) 74 [some (vr 209), some (vi n), some (vi (d : Int)), some (vi (S 0))] [] N0 G0 m Q) :
    ∀ (k c : Nat) (z : Int) (m : MM), z = (c : Int) → c + k = (S 0).toNat → MW m (clsF (dysF S d) c) → WT m S d c → FrT M m → Wp E mX8_findWetted (kd 6) 40 [some (vr 209), some (vi n), some (vi (d : Int)), some (vi z)] [] N0 G0 m Q := by
  intro k
  have hn := hO.1
  induction k with
  | zero =>
    intro c z m hz hk hW hT hF
    subst hz
    obtain ⟨U, hV, hU, hS⟩ := hW
    have u0 : U 0 = S 0 := by rw [hU 0 (by omega), clsF_low (by omega), dysF_low (by omega)]
    have e0 := hV.num
    refine w_iload_n dX8_findWetted_40 rfl ?_
    refine w_aload_n dX8_findWetted_41 rfl ?_
    refine w_getR (r := 211) dX8_findWetted_42 fl8_18 g0_209 (by decide) rfl ?_
    refine r_getI (q := 0) dX8_findWetted_45 fl8_50 (sk_g0 sk_211) (sk_n0 sk_211) rfl (by decide) rfl (fun r45 => ?_)
    refine w_icmp_ge (tgt := 74) dX8_findWetted_48 (by decide) (by omega) (by omega) (fun h48 => ?_) (fun h48 => ?_)
    · rw [show (c : Int) = S 0 by omega]
      exact hQ m (by rw [show (S 0).toNat = c by omega]; exact ⟨U, hV, hU, hS⟩) (by rw [show (S 0).toNat = c by omega]; exact hT) hF
    · exact absurd h48 (by omega)
  | succ k ih =>
    intro c z m hz hk hW hT hF
    subst hz
    obtain ⟨U, hV, hU, hS⟩ := hW
    have u0 : U 0 = S 0 := by rw [hU 0 (by omega), clsF_low (by omega), dysF_low (by omega)]
    have e0 := hV.num
    have ew := hT c (by omega)
    rw [if_neg (Nat.lt_irrefl c)] at ew
    have wl := wtd_lt S d c
    have hm := mv_eq (U := U) (T := clsF (dysF S d) c) (c := (c : Int)) (by omega) (by omega) hU
    have fc := fl_cls (dysF S d) c (by omega)
    have fl := flF_lt (dysF S d) (c : Int)
    have orl : wtd S d c ||| flF (dysF S d) (c : Int) < 2 ^ 16 := Nat.or_lt_two_pow wl fl
    refine w_iload_n dX8_findWetted_40 rfl ?_
    refine w_aload_n dX8_findWetted_41 rfl ?_
    refine w_getR (r := 211) dX8_findWetted_42 fl8_18 g0_209 (by decide) rfl ?_
    refine r_getI (q := 0) dX8_findWetted_45 fl8_50 (sk_g0 sk_211) (sk_n0 sk_211) rfl (by decide) rfl (fun r45 => ?_)
    refine w_icmp_ge (tgt := 74) dX8_findWetted_48 (by decide) (by omega) (by omega) (fun h48 => ?_) (fun h48 => ?_)
    · exact absurd h48 (by omega)
    · refine w_aload_n dX8_findWetted_51 rfl ?_
      refine w_getR (r := 218) dX8_findWetted_52 fl8_22 g0_209 (by decide) rfl ?_
      refine w_iload_n dX8_findWetted_55 rfl ?_
      refine w_dup2 dX8_findWetted_56 rfl rfl ?_
      refine r_ild dX8_findWetted_57 g0_218 (by decide) (by omega) (by omega) (by decide) (fun r57 => ?_)
      refine w_aload_n dX8_findWetted_58 rfl ?_
      refine w_getR (r := 211) dX8_findWetted_59 fl8_18 g0_209 (by decide) rfl ?_
      refine w_iload_n dX8_findWetted_62 rfl ?_
      refine cVx dX8_findWetted_63 ok_X6_goOn lv8_53 (c_X6_goOn sk_211 hV hS (by omega) (by omega)) rfl (sk_k sk_211) (sk_n0 sk_211) (by decide) rfl (by decide) (Nat.le_of_ble_eq_true rfl) (fun z63 m63 r63 p63 => ?_)
      obtain ⟨pz, pV, pF⟩ := p63
      rw [hm.2, fc] at pz
      subst pz
      rw [ew]
      refine w_ibin (r := ((wtd S d c ||| flF (dysF S d) (c : Int) : Nat) : Int)) dX8_findWetted_66 (Or.inr <| Or.inl ⟨rfl, b_or _ _⟩) ?_
      refine r_ist dX8_findWetted_67 g0_218 (by decide) (by omega) (by omega) (by omega) (by decide) ?_
      refine w_iinc dX8_findWetted_68 rfl (by decide) ?_
      refine w_goto (tgt := 40) dX8_findWetted_71 (by decide) ?_
      exact ih (c + 1) _ _ (by omega) (by omega) ⟨mvF U (c : Int), pV.same (fun i a b => upM_cell (by omega)), hm.1, SOK_mv hS (by omega) (by omega)⟩ (fun i hi => if e : i = c then (by subst e; rw [upM_same, if_pos (by omega)]; rfl) else (by rw [upM_ne (by omega), pF 218 (by omega), hT i hi, show (if i < c + 1 then d + 1 else d) = (if i < c then d + 1 else d) from by (repeat' split) <;> omega])) (fun i hi => by rw [upM_cell (by omega), pF i (by omega)]; exact hF i hi)
theorem l_X8_fwD {E : EV} {M : MM} {S : SS} {n : Nat} (hO : SOK 9990 S) (hD : S 3 ≤ 1000) (n1 : n ≤ 24) :
    ∀ (k d : Nat) (z : Int) (m : MM) (x3 : Option AV), z = (d : Int) → d + k = n → MW m (dysF S d) → WT m S d 0 → FrT M m → Wp E mX8_findWetted (kd 6) 33 [some (vr 209), some (vi (n : Int)), some (vi z), x3] [] N0 G0 m (Pxv (fun m => (∀ i : Nat, (i : Int) < S 0 → m 218 (i : Int) = ((wtd S n i : Nat) : Int)) ∧ FrT M m)) := by
  intro k
  have hn := hO.1
  induction k with
  | zero =>
    intro d z m x3 hz hk hW hT hF
    subst hz
    obtain rfl : d = n := by omega
    refine w_iload_n dX8_findWetted_33 rfl ?_
    refine w_iload_n dX8_findWetted_34 rfl ?_
    refine w_icmp_ge (tgt := 93) dX8_findWetted_35 (by decide) (by omega) (by omega) (fun h35 => ?_) (fun h35 => ?_)
    · refine w_vret dX8_findWetted_93 rfl ?_ ⟨Nat.le_refl _, Nat.le_refl _⟩
      exact (q_xv ⟨fun i hi => by rw [hT i hi, if_neg (Nat.not_lt_zero i)], hF⟩)
    · exact absurd h35 (by omega)
  | succ k ih =>
    intro d z m x3 hz hk hW hT hF
    subst hz
    have tail : ∀ m2 : MM, MW m2 (clsF (dysF S d) (S 0).toNat) → WT m2 S d (S 0).toNat → FrT M m2 → Wp E mX8_findWetted (kd 6) 74 [some (vr 209), some (vi (n : Int)), some (vi (d : Int)), some (vi (S 0))] [] N0 G0 m2 (Pxv (fun m => (∀ i : Nat, (i : Int) < S 0 → m 218 (i : Int) = ((wtd S n i : Nat) : Int)) ∧ FrT M m)) := by
      intro m2 hW2 hT2 hF2
      obtain ⟨U, hV, hU, hS⟩ := hW2
      have u3 : U 3 = S 3 + d := by rw [hU 3 (by omega), clsF_low (by omega), dysF_3]
      have e3 := hV.day
      have d0 : dysF S d 0 = S 0 := dysF_low (by omega) d
      refine w_aload_n dX8_findWetted_74 rfl ?_
      refine w_getR (r := 211) dX8_findWetted_75 fl8_18 g0_209 (by decide) rfl ?_
      refine w_dup dX8_findWetted_78 rfl ?_
      refine r_getI (q := 3) dX8_findWetted_79 fl8_57 (sk_g0 sk_211) (sk_n0 sk_211) rfl (by decide) rfl (fun r79 => ?_)
      refine w_iconst dX8_findWetted_82 ?_
      refine w_iadd dX8_findWetted_83 ?_
      refine r_putI (q := 3) dX8_findWetted_84 fl8_57 (sk_g0 sk_211) (sk_n0 sk_211) rfl (by decide) (by omega) rfl (by decide +kernel) rfl ?_
      refine w_iinc dX8_findWetted_87 rfl (by decide) ?_
      refine w_goto (tgt := 33) dX8_findWetted_90 (by decide) ?_
      exact ih (d + 1) _ _ _ (by omega) (by omega) ⟨upS U 3 (U 3 + 1), hV.p_fld (by omega) (by omega) (by rw [e3]), fun q hq => by rw [upS_at, dysF]; unfold dyF; rw [d0]; by_cases e : q = 3; exact (by rw [if_pos e, if_pos e, u3, dysF_3]); exact (by rw [if_neg e, if_neg e, hU q hq]), ⟨by rw [upS_at, if_neg (by omega)]; exact hS.1, by rw [upS_at, if_neg (by omega)]; exact hS.2.1, by rw [upS_at, if_neg (by omega)]; exact hS.2.2.1, by rw [upS_at, if_pos rfl]; have := hS.2.2.2.1; omega, fun c c0 c1 => by rw [upS_at, if_neg (by omega)] at c1; have hc5 := hS.1; rw [upS_at, upS_at, upS_at, upS_at, upS_at, if_neg (by omega), if_neg (by omega), if_neg (by omega), if_neg (by omega), if_neg (by omega)]; exact hS.cl c0 c1, fun f f0 f1 => by rw [upS_at, if_neg (by omega)]; exact hS.2.2.2.2.2 f f0 f1⟩⟩ (fun i hi => by rw [upM_cell (by omega), hT2 i hi, if_pos (by omega), if_neg (Nat.not_lt_zero i)]) (fun i hi => by rw [upM_cell (by omega)]; exact hF2 i hi)
    refine w_iload_n dX8_findWetted_33 rfl ?_
    refine w_iload_n dX8_findWetted_34 rfl ?_
    refine w_icmp_ge (tgt := 93) dX8_findWetted_35 (by decide) (by omega) (by omega) (fun h35 => ?_) (fun h35 => ?_)
    · exact absurd h35 (by omega)
    · refine w_iconst dX8_findWetted_38 ?_
      refine w_istore_n dX8_findWetted_39 (by decide) ?_
      exact l_X8_fwIn hO tail (S 0).toNat 0 _ _ rfl (by omega) hW hT hF
theorem l_X8_fwZ {E : EV} {M : MM} {n : Int} {x3 : Option AV} {Q : PP} (hQ : Wp E mX8_findWetted (kd 6) 31 [some (vr 209), some (vi n), some (vi 5), x3] [] N0 G0 (zR M 218 0 5) Q) :
    ∀ (k c : Nat) (z : Int) (m : MM), z = (c : Int) → m = zR M 218 0 (c : Int) → c ≤ 5 → 5 - c < k → Wp E mX8_findWetted (kd 6) 13 [some (vr 209), some (vi n), some (vi z), x3] [] N0 G0 m Q := by
  intro k
  induction k with
  | zero => intro c z m hz hm hc hk; exact absurd hk (by omega)
  | succ k ih =>
    intro c z m hz hm hc hk
    subst hz
    subst hm
    refine w_iload_n dX8_findWetted_13 rfl ?_
    refine w_iconst dX8_findWetted_14 ?_
    refine w_icmp_ge (tgt := 31) dX8_findWetted_15 (by decide) (by omega) (by omega) (fun h15 => ?_) (fun h15 => ?_)
    · have ec : c = 5 := by omega
      subst ec
      exact hQ
    · refine w_aload_n dX8_findWetted_18 rfl ?_
      refine w_getR (r := 218) dX8_findWetted_19 fl8_22 g0_209 (by decide) rfl ?_
      refine w_iload_n dX8_findWetted_22 rfl ?_
      refine w_iconst dX8_findWetted_23 ?_
      refine r_ist dX8_findWetted_24 g0_218 (by decide) (by omega) (by omega) (by omega) (by decide) ?_
      refine w_iinc dX8_findWetted_25 rfl (by decide) ?_
      refine w_goto (tgt := 13) dX8_findWetted_28 (by decide) ?_
      exact ih (c + 1) _ _ (by omega) (by rw [zR_step M 218 (by omega)]; rfl) (by omega) (by omega)
theorem c_X8_findWetted {E : EV} {M : MM} {S : SS} {n : Nat} (hV : SV M 23 S) (hO : SOK 9990 S) (hD : S 3 ≤ 1000) (n1 : n ≤ 24) : Cxv E mX8_findWetted 6 [vr 209, vi (n : Int)] M (fun m => (∀ i : Nat, (i : Int) < S 0 → m 218 (i : Int) = ((wtd S n i : Nat) : Int)) ∧ FrT M m) := by
  refine Ct.of [some (vr 209), some (vi (n : Int)), none, none] rfl rfl rfl (Nat.le_of_ble_eq_true rfl) ?_
  have hn := hO.1
  refine w_aload_n dX8_findWetted_0 rfl ?_
  refine w_getR (r := 211) dX8_findWetted_1 fl8_18 g0_209 (by decide) rfl ?_
  refine w_aload_n dX8_findWetted_4 rfl ?_
  refine w_getR (r := 23) dX8_findWetted_5 fl8_28 g0_209 (by decide) rfl ?_
  refine cVxv dX8_findWetted_8 ok_X6_become lv8_46 (c_X6_become sk_211 sk_23 (by omega) hV hn.2) rfl (sk_k sk_211) (sk_n0 sk_211) (by decide) rfl (by decide) (Nat.le_of_ble_eq_true rfl) (fun m8 p8 => ?_)
  refine w_iconst dX8_findWetted_11 ?_
  refine w_istore_n dX8_findWetted_12 (by decide) ?_
  refine l_X8_fwZ ?_ 6 0 _ _ rfl (zR_none _ _ _).symm (by omega) (by omega)
  refine w_iconst dX8_findWetted_31 ?_
  refine w_istore_n dX8_findWetted_32 (by decide) ?_
  exact l_X8_fwD hO hD n1 n 0 _ _ _ rfl (by omega) ⟨S, p8.1.same (fun i a b => zR_cell (by omega)), fun q _ => rfl, hO⟩ (fun i hi => by unfold zR; rw [if_pos ⟨rfl, by omega, by omega⟩, if_neg (Nat.not_lt_zero i)]; rfl) (fun i hi => by rw [zR_cell (by omega)]; exact p8.2 i (by omega))
