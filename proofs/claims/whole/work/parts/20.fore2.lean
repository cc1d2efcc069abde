/-! ===== Foreteller: what is told by a row; meetings; harvest; draws ===== -/
def allB : Nat → (Nat → Bool) → Bool
  | 0, _ => true
  | n + 1, P => allB n P && P n
theorem allB_f {P : Nat → Bool} {d : Nat} : ∀ {n : Nat}, d < n → P d = false → allB n P = false
  | 0, h, _ => absurd h (Nat.not_lt_zero d)
  | n + 1, h, hp => by
    rw [allB]
    by_cases e : d = n
    · subst e; rw [hp, Bool.and_false]
    · rw [allB_f (n := n) (by omega) hp, Bool.false_and]
theorem allB_congr {P R : Nat → Bool} : ∀ {n : Nat}, (∀ i, i < n → P i = R i) → allB n P = allB n R
  | 0, _ => rfl
  | n + 1, h => by rw [allB, allB, allB_congr (fun i hi => h i (by omega)), h n (by omega)]
/-- on day d so much fell as the row tells -/
def fitP (T : SS) (f : Int) (it : Int → Int) (i : Int) (d : Nat) : Bool := decide (dysF T (d + 1) (29 + f) - dysF T d (29 + f) = it (i + (d : Int)))
theorem l_X3_fits {E : EV} {M : MM} {T : SS} {B : Int} {j : Nat} {f i n : Int} (hO : SOK B T) (hB : B ≤ 1000) (hD : T 3 ≤ 2000) (f0 : 0 ≤ f) (f1 : f ≤ 15) (hj : j < 8) (i0 : 0 ≤ i) (n0 : 1 ≤ n) (n1 : n ≤ 12) (hin : i + n ≤ 40) :
    ∀ (k d : Nat) (z : Int) (m : MM) (x6 : Option AV), z = d → (d : Int) ≤ n → n.toNat - d < k → allB d (fitP T f (M (5 + j)) i) = true → SV m 202 (dysF T d) → Fr 202 M m → Wp E mX3_fits (kd 6) 3 [some (vr 201), some (vi f), some (vi (j : Int)), some (vi i), some (vi n), some (vi z), x6] [] N0 G0 m (Px (fun z m => z = bi (allB n.toNat (fitP T f (M (5 + j)) i)) ∧ Fr 202 M m)) := by
  intro k
  induction k with
  | zero => intro d z m x6 hz hd hk; exact absurd hk (by omega)
  | succ k ih =>
    intro d z m x6 hz hd hk hA hV hF
    subst hz
    have h3 := dysF_3 T d
    have hOd := SOK_dys hO d
    have hOe := SOK_dys hO (d + 1)
    have b1 := hOd.2.2.2.2.2 f f0 (by omega)
    have b2 := hOe.2.2.2.2.2 f f0 (by omega)
    have e1 := hV.2.2 f f0 (by omega)
    refine w_iload dX3_fits_3 rfl ?_
    refine w_iload dX3_fits_5 rfl ?_
    refine w_icmp_ge (tgt := 64) dX3_fits_7 (by decide) (by omega) (by omega) (fun h7 => ?_) (fun h7 => ?_)
    · have ed : n.toNat = d := by omega
      refine w_iconst dX3_fits_64 ?_
      refine w_zret (b := true) dX3_fits_65 rfl ?_ ⟨Nat.le_refl _, Nat.le_refl _⟩
      exact (q_x ⟨by rw [ed, hA], hF⟩)
    · refine w_aload_n dX3_fits_10 rfl ?_
      refine w_getR (r := 202) dX3_fits_11 fl3_12 g0_201 (by decide) rfl ?_
      refine w_getR (r := (202 + 6)) dX3_fits_14 fl3_58 (sk_g0 sk_202) (sk_n0 sk_202) rfl ?_
      refine w_iload_n dX3_fits_17 rfl ?_
      refine r_ild dX3_fits_18 (sk_g6 sk_202) (sk_n6 sk_202) (by omega) (by omega) (by decide) (fun r18 => ?_)
      refine w_istore dX3_fits_19 (by decide) ?_
      refine w_aload_n dX3_fits_21 rfl ?_
      refine w_getR (r := 202) dX3_fits_22 fl3_12 g0_201 (by decide) rfl ?_
      refine cVx dX3_fits_25 ok_X6_passDay lv3_35 (c_X6_passDay sk_202 hV hOd (by omega) (by omega)) rfl (sk_k sk_202) (sk_n0 sk_202) (by decide) rfl (by decide) (Nat.le_of_ble_eq_true rfl) (fun z25 m25 r25 p25 => ?_)
      obtain ⟨p25, hV2, hF2⟩ := p25
      have e2 : m25 (202 + 6) f = dysF T (d + 1) (29 + f) := hV2.2.2 f f0 (by omega)
      have eI : m25 (5 + j) = M (5 + j) := (hF.trans hF2) (5 + j) (by omega)
      refine w_pop dX3_fits_28 rfl ?_
      refine w_aload_n dX3_fits_29 rfl ?_
      refine w_getR (r := 202) dX3_fits_30 fl3_12 g0_201 (by decide) rfl ?_
      refine w_getR (r := (202 + 6)) dX3_fits_33 fl3_58 (sk_g0 sk_202) (sk_n0 sk_202) rfl ?_
      refine w_iload_n dX3_fits_36 rfl ?_
      refine r_ild dX3_fits_37 (sk_g6 sk_202) (sk_n6 sk_202) (by omega) (by omega) (by decide) (fun r37 => ?_)
      refine w_iload dX3_fits_38 rfl ?_
      refine w_isub dX3_fits_40 ?_
      refine w_aload_n dX3_fits_41 rfl ?_
      refine w_getR (r := 1) dX3_fits_42 fl3_21 g0_201 (by decide) rfl ?_
      refine w_iload_n dX3_fits_45 rfl ?_
      refine w_iload_n dX3_fits_46 rfl ?_
      refine w_iload dX3_fits_47 rfl ?_
      refine w_iadd dX3_fits_49 ?_
      refine cVm dX3_fits_50 ok_X5_item lv3_84 (c_X5_item hj (by omega) (by omega)) rfl (congrArg Prod.fst g0_1) (by decide) (by decide) rfl (by decide) (Nat.le_of_ble_eq_true rfl) (fun r50 => ?_)
      rw [eI] at r50 ⊢
      refine w_icmp_eq (tgt := 58) dX3_fits_53 (by decide) (by omega) (by omega) (fun h53 => ?_) (fun h53 => ?_)
      · refine w_iinc dX3_fits_58 rfl (by decide) ?_
        refine w_goto (tgt := 3) dX3_fits_61 (by decide) ?_
        exact ih (d + 1) _ _ _ (by omega) (by omega) (by omega) (by rw [allB, hA, Bool.true_and]; exact decide_eq_true (by omega)) hV2 (hF.trans hF2)
      · refine w_iconst dX3_fits_56 ?_
        refine w_zret (b := false) dX3_fits_57 rfl ?_ ⟨Nat.le_refl _, Nat.le_refl _⟩
        exact (q_x ⟨by rw [allB_f (d := d) (by omega) (decide_eq_false (by omega))], hF.trans hF2⟩)
theorem c_X3_fits {E : EV} {M : MM} {T : SS} {B : Int} {j : Nat} {f i n : Int} (hV : SV M 202 T) (hO : SOK B T) (hB : B ≤ 1000) (hD : T 3 ≤ 2000) (f0 : 0 ≤ f) (f1 : f ≤ 15) (hj : j < 8) (i0 : 0 ≤ i) (n0 : 1 ≤ n) (n1 : n ≤ 12) (hin : i + n ≤ 40) : Cx E mX3_fits 6 [vr 201, vi f, vi (j : Int), vi i, vi n] M (fun z m => z = bi (allB n.toNat (fitP T f (M (5 + j)) i)) ∧ Fr 202 M m) := by
  refine Ct.of [some (vr 201), some (vi f), some (vi (j : Int)), some (vi i), some (vi n), none, none] rfl rfl rfl (Nat.le_of_ble_eq_true rfl) ?_
  refine w_iconst dX3_fits_0 ?_
  refine w_istore dX3_fits_1 (by decide) ?_
  exact l_X3_fits hO hB hD f0 f1 hj i0 n0 n1 hin (n.toNat + 1) 0 _ _ _ rfl (by omega) (by omega) rfl hV (Fr.refl 202 M)
theorem SOK_kind {B : Int} {S : SS} (h : SOK B S) {c v : Int} (c0 : 0 ≤ c) (c1 : c < S 0) (v1 : 1 ≤ v) (v5 : v ≤ 5) : SOK B (upS S (4 + 5 * c) v) := by
  have hn := h.1
  have e : ∀ q : Int, q ≠ 4 + 5 * c → upS S (4 + 5 * c) v q = S q := fun q hq => if_neg hq
  refine ⟨by rw [e 0 (by omega)]; exact h.1, by rw [e 1 (by omega)]; exact h.2.1, by rw [e 2 (by omega)]; exact h.2.2.1, by rw [e 3 (by omega)]; exact h.2.2.2.1, fun d d0 d1 => ?_, fun f f0 f1 => by rw [e _ (by omega)]; exact h.2.2.2.2.2 f f0 f1⟩
  rw [e 0 (by omega)] at d1
  have hd := h.cl d0 d1
  rw [e (5 + 5 * d) (by omega), e (6 + 5 * d) (by omega), e (7 + 5 * d) (by omega), e (8 + 5 * d) (by omega)]
  refine ⟨?_, hd.2⟩
  rw [upS_at]
  split
  · omega
  · exact hd.1
theorem SOK_place {B : Int} {S : SS} (h : SOK B S) {c v : Int} (c0 : 0 ≤ c) (c1 : c < S 0) (v1 : 0 ≤ v) (v5 : v ≤ 15) : SOK B (upS S (5 + 5 * c) v) := by
  have hn := h.1
  have e : ∀ q : Int, q ≠ 5 + 5 * c → upS S (5 + 5 * c) v q = S q := fun q hq => if_neg hq
  refine ⟨by rw [e 0 (by omega)]; exact h.1, by rw [e 1 (by omega)]; exact h.2.1, by rw [e 2 (by omega)]; exact h.2.2.1, by rw [e 3 (by omega)]; exact h.2.2.2.1, fun d d0 d1 => ?_, fun f f0 f1 => by rw [e _ (by omega)]; exact h.2.2.2.2.2 f f0 f1⟩
  rw [e 0 (by omega)] at d1
  have hd := h.cl d0 d1
  rw [e (4 + 5 * d) (by omega), e (6 + 5 * d) (by omega), e (7 + 5 * d) (by omega), e (8 + 5 * d) (by omega)]
  refine ⟨hd.1, ?_, hd.2.2⟩
  rw [upS_at]
  split
  · omega
  · exact hd.2.1
theorem SOK_wet {B : Int} {S : SS} (h : SOK B S) {c v : Int} (c0 : 0 ≤ c) (c1 : c < S 0) (v1 : 0 ≤ v) (v5 : v ≤ 99) : SOK B (upS S (7 + 5 * c) v) := by
  have hn := h.1
  have e : ∀ q : Int, q ≠ 7 + 5 * c → upS S (7 + 5 * c) v q = S q := fun q hq => if_neg hq
  refine ⟨by rw [e 0 (by omega)]; exact h.1, by rw [e 1 (by omega)]; exact h.2.1, by rw [e 2 (by omega)]; exact h.2.2.1, by rw [e 3 (by omega)]; exact h.2.2.2.1, fun d d0 d1 => ?_, fun f f0 f1 => by rw [e _ (by omega)]; exact h.2.2.2.2.2 f f0 f1⟩
  rw [e 0 (by omega)] at d1
  have hd := h.cl d0 d1
  rw [e (4 + 5 * d) (by omega), e (5 + 5 * d) (by omega), e (6 + 5 * d) (by omega), e (8 + 5 * d) (by omega)]
  refine ⟨hd.1, hd.2.1, hd.2.2.1, ?_, hd.2.2.2.2⟩
  rw [upS_at]
  split
  · omega
  · exact hd.2.2.2.1
theorem SOK_hand {B : Int} {S : SS} (h : SOK B S) {c v : Int} (c0 : 0 ≤ c) (c1 : c < S 0) (v1 : 0 ≤ v) (v5 : v ≤ 9) : SOK B (upS S (8 + 5 * c) v) := by
  have hn := h.1
  have e : ∀ q : Int, q ≠ 8 + 5 * c → upS S (8 + 5 * c) v q = S q := fun q hq => if_neg hq
  refine ⟨by rw [e 0 (by omega)]; exact h.1, by rw [e 1 (by omega)]; exact h.2.1, by rw [e 2 (by omega)]; exact h.2.2.1, by rw [e 3 (by omega)]; exact h.2.2.2.1, fun d d0 d1 => ?_, fun f f0 f1 => by rw [e _ (by omega)]; exact h.2.2.2.2.2 f f0 f1⟩
  rw [e 0 (by omega)] at d1
  have hd := h.cl d0 d1
  rw [e (4 + 5 * d) (by omega), e (5 + 5 * d) (by omega), e (6 + 5 * d) (by omega), e (7 + 5 * d) (by omega)]
  refine ⟨hd.1, hd.2.1, hd.2.2.1, hd.2.2.2.1, ?_⟩
  rw [upS_at]
  split
  · omega
  · exact hd.2.2.2.2
theorem SOK_wind {B : Int} {S : SS} (h : SOK B S) {v : Int} (v1 : 0 ≤ v) (v5 : v ≤ 15) : SOK B (upS S 1 v) := by
  have hn := h.1
  have e : ∀ q : Int, q ≠ 1 → upS S 1 v q = S q := fun q hq => if_neg hq
  refine ⟨by rw [e 0 (by omega)]; exact h.1, by rw [upS_at, if_pos rfl]; exact ⟨v1, v5⟩, by rw [e 2 (by omega)]; exact h.2.2.1, by rw [e 3 (by omega)]; exact h.2.2.2.1, fun d d0 d1 => ?_, fun f f0 f1 => by rw [e _ (by omega)]; exact h.2.2.2.2.2 f f0 f1⟩
  rw [e 0 (by omega)] at d1
  rw [e (4 + 5 * d) (by omega), e (5 + 5 * d) (by omega), e (6 + 5 * d) (by omega), e (7 + 5 * d) (by omega), e (8 + 5 * d) (by omega)]
  exact h.cl d0 d1
def kiB (S : SS) (c f : Int) (it : Int → Int) (i : Int) (n k : Nat) : Bool := decide (1 ≤ k) && allB n (fitP (upS S (4 + 5 * c) (k : Int)) f it i)
def plB (S : SS) (c f : Int) (it : Int → Int) (i : Int) (n k : Nat) : Bool := allB n (fitP (upS S (5 + 5 * c) (k : Int)) f it i)
theorem l_X3_kinds {E : EV} {M : MM} {S : SS} {B : Int} {j : Nat} {c f i n : Int} (hV : SV M 23 S) (hO : SOK B S) (hD : S 3 ≤ 1000) (c0 : 0 ≤ c) (c1 : c < S 0) (f0 : 0 ≤ f) (f1 : f ≤ 15) (hj : j < 8) (i0 : 0 ≤ i) (n0 : 1 ≤ n) (n1 : n ≤ 12) (hin : i + n ≤ 40) :
    ∀ (k q : Nat) (z s : Int) (m : MM), z = q → s = ((setN q (kiB (zr S) c f (M (5 + j)) i n.toNat) : Nat) : Int) → 1 ≤ q → q ≤ 6 → 6 - q < k → Fr 202 M m → Wp E mX3_kindsThatFit (kd 7) 6 [some (vr 201), some (vi c), some (vi f), some (vi (j : Int)), some (vi i), some (vi n), some (vi s), some (vi z)] [] N0 G0 m (Px (fun z m => z = ((setN 6 (kiB (zr S) c f (M (5 + j)) i n.toNat) : Nat) : Int) ∧ Fr 202 M m)) := by
  intro k
  induction k with
  | zero => intro q z s m hz hs hq0 hq hk; exact absurd hk (by omega)
  | succ k ih =>
    intro q z s m hz hs hq0 hq hk hF
    subst hz
    subst hs
    have hn := hO.1
    have hz0 : zr S 0 = S 0 := zr_lo (by omega)
    have hr := setN_r (P := kiB (zr S) c f (M (5 + j)) i n.toNat) (n := q) (by omega)
    have hV1 : SV m 23 S := hV.kept hF (by omega)
    refine w_iload dX3_kindsThatFit_6 rfl ?_
    refine w_iconst dX3_kindsThatFit_8 ?_
    refine w_icmp_gt (tgt := 55) dX3_kindsThatFit_9 (by decide) (by omega) (by omega) (fun h9 => ?_) (fun h9 => ?_)
    · have eq6 : q = 6 := by omega
      subst eq6
      refine w_iload dX3_kindsThatFit_55 rfl ?_
      refine w_iret dX3_kindsThatFit_57 rfl (by omega) ?_ ⟨Nat.le_refl _, Nat.le_refl _⟩
      exact (q_x ⟨rfl, hF⟩)
    · refine w_aload_n dX3_kindsThatFit_12 rfl ?_
      refine cVxv dX3_kindsThatFit_13 ok_X3_begin lv3_32 (c_X3_begin hV1 hn.2) rfl (congrArg Prod.fst g0_201) (by decide) (by decide) rfl (by decide) (Nat.le_of_ble_eq_true rfl) (fun m13 p13 => ?_)
      refine w_aload_n dX3_kindsThatFit_16 rfl ?_
      refine w_getR (r := 202) dX3_kindsThatFit_17 fl3_12 g0_201 (by decide) rfl ?_
      refine w_getR (r := (202 + 1)) dX3_kindsThatFit_20 fl3_74 (sk_g0 sk_202) (sk_n0 sk_202) rfl ?_
      refine w_iload_n dX3_kindsThatFit_23 rfl ?_
      refine w_iload dX3_kindsThatFit_24 rfl ?_
      refine r_ist dX3_kindsThatFit_26 (sk_g1 sk_202) (sk_n1 sk_202) (by omega) (by omega) (by omega) (by decide) ?_
      refine wgen (fun m2 => SV m2 202 (upS (zr S) (4 + 5 * c) (q : Int)) ∧ Fr 202 M m2) ⟨p13.1.p_kind c0 (by omega) (by omega) rfl, (hF.trans p13.2).up (by omega)⟩ (fun m2 hm2 => ?_)
      obtain ⟨hV2, hF2⟩ := hm2
      refine w_aload_n dX3_kindsThatFit_27 rfl ?_
      refine w_iload_n dX3_kindsThatFit_28 rfl ?_
      refine w_iload_n dX3_kindsThatFit_29 rfl ?_
      refine w_iload dX3_kindsThatFit_30 rfl ?_
      refine w_iload dX3_kindsThatFit_32 rfl ?_
      refine cVx dX3_kindsThatFit_34 ok_X3_fits lv3_77 (c_X3_fits hV2 (SOK_kind (SOK_zr hO) c0 (by omega) (by omega) (by omega)) (by omega) (by rw [upS_at, if_neg (by omega), zr_lo (by omega)]; omega) f0 f1 hj i0 n0 n1 hin) rfl (congrArg Prod.fst g0_201) (by decide) (by decide) rfl (by decide) (Nat.le_of_ble_eq_true rfl) (fun z34 m34 r34 p34 => ?_)
      obtain ⟨rfl, hF3⟩ := p34
      rw [show m2 (5 + j) = M (5 + j) from hF2 (5 + j) (by omega)]
      refine w_ifB_eq (tgt := 49) dX3_kindsThatFit_37 (by decide) (fun h37 => ?_) (fun h37 => ?_)
      · refine w_iinc dX3_kindsThatFit_49 rfl (by decide) ?_
        refine w_goto (tgt := 6) dX3_kindsThatFit_52 (by decide) ?_
        first | exact ih (q + 1) _ _ _ (by omega) (by rw [setN_t (by unfold kiB; rw [h37, decide_eq_true hq0]; rfl)]) (by omega) (by omega) (by omega) (hF2.trans hF3) | exact ih (q + 1) _ _ _ (by omega) (by rw [setN_f (by unfold kiB; rw [h37, Bool.and_false])]) (by omega) (by omega) (by omega) (hF2.trans hF3)
      · refine w_iload dX3_kindsThatFit_40 rfl ?_
        refine w_iconst dX3_kindsThatFit_42 ?_
        refine w_iload dX3_kindsThatFit_43 rfl ?_
        refine w_ibin (r := ((2 ^ q : Nat) : Int)) dX3_kindsThatFit_45 (Or.inr <| Or.inr <| Or.inr <| Or.inl ⟨rfl, b_1shlN (by omega)⟩) ?_
        refine w_ibin (r := ((setN q (kiB (zr S) c f (M (5 + j)) i n.toNat) ||| 2 ^ q : Nat) : Int)) dX3_kindsThatFit_46 (Or.inr <| Or.inl ⟨rfl, b_or _ _⟩) ?_
        refine w_istore dX3_kindsThatFit_47 (by decide) ?_
        refine w_iinc dX3_kindsThatFit_49 rfl (by decide) ?_
        refine w_goto (tgt := 6) dX3_kindsThatFit_52 (by decide) ?_
        first | exact ih (q + 1) _ _ _ (by omega) (by rw [setN_t (by unfold kiB; rw [h37, decide_eq_true hq0]; rfl)]) (by omega) (by omega) (by omega) (hF2.trans hF3) | exact ih (q + 1) _ _ _ (by omega) (by rw [setN_f (by unfold kiB; rw [h37, Bool.and_false])]) (by omega) (by omega) (by omega) (hF2.trans hF3)
theorem c_X3_kindsThatFit {E : EV} {M : MM} {S : SS} {B : Int} {j : Nat} {c f i n : Int} (hV : SV M 23 S) (hO : SOK B S) (hD : S 3 ≤ 1000) (c0 : 0 ≤ c) (c1 : c < S 0) (f0 : 0 ≤ f) (f1 : f ≤ 15) (hj : j < 8) (i0 : 0 ≤ i) (n0 : 1 ≤ n) (n1 : n ≤ 12) (hin : i + n ≤ 40) : Cx E mX3_kindsThatFit 7 [vr 201, vi c, vi f, vi (j : Int), vi i, vi n] M (fun z m => z = ((setN 6 (kiB (zr S) c f (M (5 + j)) i n.toNat) : Nat) : Int) ∧ Fr 202 M m) := by
  refine Ct.of [some (vr 201), some (vi c), some (vi f), some (vi (j : Int)), some (vi i), some (vi n), none, none] rfl rfl rfl (Nat.le_of_ble_eq_true rfl) ?_
  refine w_iconst dX3_kindsThatFit_0 ?_
  refine w_istore dX3_kindsThatFit_1 (by decide) ?_
  refine w_iconst dX3_kindsThatFit_3 ?_
  refine w_istore dX3_kindsThatFit_4 (by decide) ?_
  exact l_X3_kinds hV hO hD c0 c1 f0 f1 hj i0 n0 n1 hin 6 1 _ _ _ rfl (by rw [setN_f (by rfl)]; rfl) (by omega) (by omega) (by omega) (Fr.refl 202 M)
theorem l_X3_places {E : EV} {M : MM} {S : SS} {B : Int} {j : Nat} {c f i n : Int} (hV : SV M 23 S) (hO : SOK B S) (hD : S 3 ≤ 1000) (c0 : 0 ≤ c) (c1 : c < S 0) (f0 : 0 ≤ f) (f1 : f ≤ 15) (hj : j < 8) (i0 : 0 ≤ i) (n0 : 1 ≤ n) (n1 : n ≤ 12) (hin : i + n ≤ 40) :
    ∀ (k q : Nat) (z s : Int) (m : MM), z = q → s = ((setN q (plB (zr S) c f (M (5 + j)) i n.toNat) : Nat) : Int) → q ≤ 16 → 16 - q < k → Fr 202 M m → Wp E mX3_placesThatFit (kd 7) 6 [some (vr 201), some (vi c), some (vi f), some (vi (j : Int)), some (vi i), some (vi n), some (vi s), some (vi z)] [] N0 G0 m (Px (fun z m => z = ((setN 16 (plB (zr S) c f (M (5 + j)) i n.toNat) : Nat) : Int) ∧ Fr 202 M m)) := by
  intro k
  induction k with
  | zero => intro q z s m hz hs hq hk; exact absurd hk (by omega)
  | succ k ih =>
    intro q z s m hz hs hq hk hF
    subst hz
    subst hs
    have hn := hO.1
    have hz0 : zr S 0 = S 0 := zr_lo (by omega)
    have hr := setN_r (P := plB (zr S) c f (M (5 + j)) i n.toNat) (n := q) (by omega)
    have hV1 : SV m 23 S := hV.kept hF (by omega)
    refine w_iload dX3_placesThatFit_6 rfl ?_
    refine w_bipush dX3_placesThatFit_8 (by decide +kernel) ?_
    refine w_icmp_ge (tgt := 56) dX3_placesThatFit_10 (by decide) (by omega) (by omega) (fun h10 => ?_) (fun h10 => ?_)
    · have eq6 : q = 16 := by omega
      subst eq6
      refine w_iload dX3_placesThatFit_56 rfl ?_
      refine w_iret dX3_placesThatFit_58 rfl (by omega) ?_ ⟨Nat.le_refl _, Nat.le_refl _⟩
      exact (q_x ⟨rfl, hF⟩)
    · refine w_aload_n dX3_placesThatFit_13 rfl ?_
      refine cVxv dX3_placesThatFit_14 ok_X3_begin lv3_32 (c_X3_begin hV1 hn.2) rfl (congrArg Prod.fst g0_201) (by decide) (by decide) rfl (by decide) (Nat.le_of_ble_eq_true rfl) (fun m14 p14 => ?_)
      refine w_aload_n dX3_placesThatFit_17 rfl ?_
      refine w_getR (r := 202) dX3_placesThatFit_18 fl3_12 g0_201 (by decide) rfl ?_
      refine w_getR (r := (202 + 2)) dX3_placesThatFit_21 fl3_81 (sk_g0 sk_202) (sk_n0 sk_202) rfl ?_
      refine w_iload_n dX3_placesThatFit_24 rfl ?_
      refine w_iload dX3_placesThatFit_25 rfl ?_
      refine r_ist dX3_placesThatFit_27 (sk_g2 sk_202) (sk_n2 sk_202) (by omega) (by omega) (by omega) (by decide) ?_
      refine wgen (fun m2 => SV m2 202 (upS (zr S) (5 + 5 * c) (q : Int)) ∧ Fr 202 M m2) ⟨p14.1.p_place c0 (by omega) (by omega) rfl, (hF.trans p14.2).up (by omega)⟩ (fun m2 hm2 => ?_)
      obtain ⟨hV2, hF2⟩ := hm2
      refine w_aload_n dX3_placesThatFit_28 rfl ?_
      refine w_iload_n dX3_placesThatFit_29 rfl ?_
      refine w_iload_n dX3_placesThatFit_30 rfl ?_
      refine w_iload dX3_placesThatFit_31 rfl ?_
      refine w_iload dX3_placesThatFit_33 rfl ?_
      refine cVx dX3_placesThatFit_35 ok_X3_fits lv3_77 (c_X3_fits hV2 (SOK_place (SOK_zr hO) c0 (by omega) (by omega) (by omega)) (by omega) (by rw [upS_at, if_neg (by omega), zr_lo (by omega)]; omega) f0 f1 hj i0 n0 n1 hin) rfl (congrArg Prod.fst g0_201) (by decide) (by decide) rfl (by decide) (Nat.le_of_ble_eq_true rfl) (fun z35 m35 r35 p35 => ?_)
      obtain ⟨rfl, hF3⟩ := p35
      rw [show m2 (5 + j) = M (5 + j) from hF2 (5 + j) (by omega)]
      refine w_ifB_eq (tgt := 50) dX3_placesThatFit_38 (by decide) (fun h38 => ?_) (fun h38 => ?_)
      · refine w_iinc dX3_placesThatFit_50 rfl (by decide) ?_
        refine w_goto (tgt := 6) dX3_placesThatFit_53 (by decide) ?_
        first | exact ih (q + 1) _ _ _ (by omega) (by rw [setN_t (by unfold plB; exact h38)]) (by omega) (by omega) (hF2.trans hF3) | exact ih (q + 1) _ _ _ (by omega) (by rw [setN_f (by unfold plB; exact h38)]) (by omega) (by omega) (hF2.trans hF3)
      · refine w_iload dX3_placesThatFit_41 rfl ?_
        refine w_iconst dX3_placesThatFit_43 ?_
        refine w_iload dX3_placesThatFit_44 rfl ?_
        refine w_ibin (r := ((2 ^ q : Nat) : Int)) dX3_placesThatFit_46 (Or.inr <| Or.inr <| Or.inr <| Or.inl ⟨rfl, b_1shlN (by omega)⟩) ?_
        refine w_ibin (r := ((setN q (plB (zr S) c f (M (5 + j)) i n.toNat) ||| 2 ^ q : Nat) : Int)) dX3_placesThatFit_47 (Or.inr <| Or.inl ⟨rfl, b_or _ _⟩) ?_
        refine w_istore dX3_placesThatFit_48 (by decide) ?_
        refine w_iinc dX3_placesThatFit_50 rfl (by decide) ?_
        refine w_goto (tgt := 6) dX3_placesThatFit_53 (by decide) ?_
        first | exact ih (q + 1) _ _ _ (by omega) (by rw [setN_t (by unfold plB; exact h38)]) (by omega) (by omega) (hF2.trans hF3) | exact ih (q + 1) _ _ _ (by omega) (by rw [setN_f (by unfold plB; exact h38)]) (by omega) (by omega) (hF2.trans hF3)
theorem c_X3_placesThatFit {E : EV} {M : MM} {S : SS} {B : Int} {j : Nat} {c f i n : Int} (hV : SV M 23 S) (hO : SOK B S) (hD : S 3 ≤ 1000) (c0 : 0 ≤ c) (c1 : c < S 0) (f0 : 0 ≤ f) (f1 : f ≤ 15) (hj : j < 8) (i0 : 0 ≤ i) (n0 : 1 ≤ n) (n1 : n ≤ 12) (hin : i + n ≤ 40) : Cx E mX3_placesThatFit 7 [vr 201, vi c, vi f, vi (j : Int), vi i, vi n] M (fun z m => z = ((setN 16 (plB (zr S) c f (M (5 + j)) i n.toNat) : Nat) : Int) ∧ Fr 202 M m) := by
  refine Ct.of [some (vr 201), some (vi c), some (vi f), some (vi (j : Int)), some (vi i), some (vi n), none, none] rfl rfl rfl (Nat.le_of_ble_eq_true rfl) ?_
  refine w_iconst dX3_placesThatFit_0 ?_
  refine w_istore dX3_placesThatFit_1 (by decide) ?_
  refine w_iconst dX3_placesThatFit_3 ?_
  refine w_istore dX3_placesThatFit_4 (by decide) ?_
  exact l_X3_places hV hO hD c0 c1 f0 f1 hj i0 n0 n1 hin 17 0 _ _ _ rfl rfl (by omega) (by omega) (Fr.refl 202 M)
theorem SV_sh {m : MM} {a : Nat} {T : SS} (hV : SV m a T) {c : Int} (c0 : 0 ≤ c) (c1 : c < T 0) : ((shadeF (m (a + 2) c) (m (a + 3) c) (m (a + 4) c) : Nat) : Int) = ((shF T c : Nat) : Int) := by
  rw [hV.place c0 c1, hV.wide c0 c1, hV.wet c0 c1]; rfl
def metB (T : SS) (c o : Int) (d : Nat) : Bool := decide (shF (dysF T d) c &&& shF (dysF T d) o ≠ 0)
theorem l_X3_firstMeeting {E : EV} {M : MM} {T : SS} {c o : Int} (hO : SOK 0 T) (hD : T 3 ≤ 2000) (c0 : 0 ≤ c) (c1 : c < T 0) (o0 : 0 ≤ o) (o1 : o < T 0) :
    ∀ (k d : Nat) (z : Int) (m : MM), z = (d : Int) → d + k = 61 → SV m 202 (dysF T d) → Fr 202 M m → Wp E mX3_firstMeeting (kd 6) 30 [some (vr 201), some (vi c), some (vi o), some (vi z)] [] N0 G0 m (Px (fun z m => z = foD (metB T c o) d k ∧ Fr 202 M m)) := by
  intro k
  have hn := hO.1
  induction k with
  | zero =>
    intro d z m hz hd hV hF
    subst hz
    refine w_iload_n dX3_firstMeeting_30 rfl ?_
    refine w_bipush dX3_firstMeeting_31 (by decide +kernel) ?_
    refine w_icmp_gt (tgt := 72) dX3_firstMeeting_33 (by decide) (by omega) (by omega) (fun h33 => ?_) (fun h33 => ?_)
    · refine w_ldc dX3_firstMeeting_72 co3_62 ?_
      refine w_iret dX3_firstMeeting_74 rfl (by omega) ?_ ⟨Nat.le_refl _, Nat.le_refl _⟩
      exact (q_x ⟨rfl, hF⟩)
    · exact absurd h33 (by omega)
  | succ k ih =>
    intro d z m hz hd hV hF
    subst hz
    have h3 := dysF_3 T d
    have hOd := SOK_dys hO d
    have e0 : dysF T d 0 = T 0 := dysF_low (by omega) d
    have bc := hOd.cl c0 (by omega)
    have bo := hOd.cl o0 (by omega)
    have k2 := hV.place c0 (by omega)
    have k3 := hV.wide c0 (by omega)
    have q2 := hV.place o0 (by omega)
    have q3 := hV.wide o0 (by omega)
    have hand : shF (dysF T d) c &&& shF (dysF T d) o ≤ shF (dysF T d) c := Nat.and_le_left
    have hsl := shF_lt (dysF T d) c
    refine w_iload_n dX3_firstMeeting_30 rfl ?_
    refine w_bipush dX3_firstMeeting_31 (by decide +kernel) ?_
    refine w_icmp_gt (tgt := 72) dX3_firstMeeting_33 (by decide) (by omega) (by omega) (fun h33 => ?_) (fun h33 => ?_)
    · exact absurd h33 (by omega)
    · refine w_aload_n dX3_firstMeeting_36 rfl ?_
      refine w_getR (r := 202) dX3_firstMeeting_37 fl3_12 g0_201 (by decide) rfl ?_
      refine w_iload_n dX3_firstMeeting_40 rfl ?_
      refine cVm dX3_firstMeeting_41 ok_X6_shade lv3_70 (c_X6_shade sk_202 (by omega) (by omega) (by omega) (by omega) (by omega) (by omega)) rfl (sk_k sk_202) (sk_n0 sk_202) (by decide) rfl (by decide) (Nat.le_of_ble_eq_true rfl) (fun r41 => ?_)
      rw [SV_sh hV c0 (by omega)]
      refine w_aload_n dX3_firstMeeting_44 rfl ?_
      refine w_getR (r := 202) dX3_firstMeeting_45 fl3_12 g0_201 (by decide) rfl ?_
      refine w_iload_n dX3_firstMeeting_48 rfl ?_
      refine cVm dX3_firstMeeting_49 ok_X6_shade lv3_70 (c_X6_shade sk_202 (by omega) (by omega) (by omega) (by omega) (by omega) (by omega)) rfl (sk_k sk_202) (sk_n0 sk_202) (by decide) rfl (by decide) (Nat.le_of_ble_eq_true rfl) (fun r49 => ?_)
      rw [SV_sh hV o0 (by omega)]
      refine w_ibin (r := ((shF (dysF T d) c &&& shF (dysF T d) o : Nat) : Int)) dX3_firstMeeting_52 (Or.inl ⟨rfl, b_and _ _⟩) ?_
      refine w_if_eq (tgt := 58) dX3_firstMeeting_53 (by decide) (by omega) (fun h53 => ?_) (fun h53 => ?_)
      · refine w_aload_n dX3_firstMeeting_58 rfl ?_
        refine w_getR (r := 202) dX3_firstMeeting_59 fl3_12 g0_201 (by decide) rfl ?_
        refine cVx dX3_firstMeeting_62 ok_X6_passDay lv3_35 (c_X6_passDay sk_202 hV hOd (by omega) (by omega)) rfl (sk_k sk_202) (sk_n0 sk_202) (by decide) rfl (by decide) (Nat.le_of_ble_eq_true rfl) (fun z62 m62 r62 p62 => ?_)
        refine w_pop dX3_firstMeeting_65 rfl ?_
        refine w_iinc dX3_firstMeeting_66 rfl (by decide) ?_
        refine w_goto (tgt := 30) dX3_firstMeeting_69 (by decide) ?_
        rw [foD_f (by unfold metB; exact decide_eq_false (by omega))]
        exact ih (d + 1) _ _ (by omega) (by omega) p62.2.1 (hF.trans p62.2.2)
      · refine w_iload_n dX3_firstMeeting_56 rfl ?_
        refine w_iret dX3_firstMeeting_57 rfl (by omega) ?_ ⟨Nat.le_refl _, Nat.le_refl _⟩
        exact (q_x ⟨by rw [foD_t (by unfold metB; exact decide_eq_true (by omega))], hF⟩)
theorem c_X3_firstMeeting {E : EV} {M : MM} {S : SS} {B c o : Int} (hV : SV M 23 S) (hO : SOK B S) (hD : S 3 ≤ 1000) (c0 : 0 ≤ c) (c1 : c < S 0) (o0 : 0 ≤ o) (o1 : o < S 0) : Cx E mX3_firstMeeting 6 [vr 201, vi c, vi o] M (fun z m => z = (if S (8 + 5 * c) = S (8 + 5 * o) then -1000000 else foD (metB (zr S) c o) 0 61) ∧ Fr 202 M m) := by
  refine Ct.of [some (vr 201), some (vi c), some (vi o), none] rfl rfl rfl (Nat.le_of_ble_eq_true rfl) ?_
  have hn := hO.1
  have k1 := hV.hand c0 c1
  have k2 := hV.hand o0 o1
  have hz0 : zr S 0 = S 0 := zr_lo (by omega)
  refine w_aload_n dX3_firstMeeting_0 rfl ?_
  refine w_getR (r := 23) dX3_firstMeeting_1 fl3_18 g0_201 (by decide) rfl ?_
  refine w_getR (r := (23 + 5)) dX3_firstMeeting_4 fl3_67 (sk_g0 sk_23) (sk_n0 sk_23) rfl ?_
  refine w_iload_n dX3_firstMeeting_7 rfl ?_
  refine r_ild dX3_firstMeeting_8 (sk_g5 sk_23) (sk_n5 sk_23) (by omega) (by omega) (by decide) (fun r8 => ?_)
  refine w_aload_n dX3_firstMeeting_9 rfl ?_
  refine w_getR (r := 23) dX3_firstMeeting_10 fl3_18 g0_201 (by decide) rfl ?_
  refine w_getR (r := (23 + 5)) dX3_firstMeeting_13 fl3_67 (sk_g0 sk_23) (sk_n0 sk_23) rfl ?_
  refine w_iload_n dX3_firstMeeting_16 rfl ?_
  refine r_ild dX3_firstMeeting_17 (sk_g5 sk_23) (sk_n5 sk_23) (by omega) (by omega) (by decide) (fun r17 => ?_)
  refine w_icmp_ne (tgt := 24) dX3_firstMeeting_18 (by decide) (by omega) (by omega) (fun h18 => ?_) (fun h18 => ?_)
  · refine w_aload_n dX3_firstMeeting_24 rfl ?_
    refine cVxv dX3_firstMeeting_25 ok_X3_begin lv3_32 (c_X3_begin hV hO.1.2) rfl (congrArg Prod.fst g0_201) (by decide) (by decide) rfl (by decide) (Nat.le_of_ble_eq_true rfl) (fun m25 p25 => ?_)
    refine w_iconst dX3_firstMeeting_28 ?_
    refine w_istore_n dX3_firstMeeting_29 (by decide) ?_
    rw [if_neg (by omega)]
    exact l_X3_firstMeeting (SOK_zr hO) (by rw [zr_lo (by omega)]; omega) c0 (by omega) o0 (by omega) 61 0 _ _ rfl (by omega) p25.1 p25.2
  · refine w_ldc dX3_firstMeeting_21 co3_62 ?_
    refine w_iret dX3_firstMeeting_23 rfl (by omega) ?_ ⟨Nat.le_refl _, Nat.le_refl _⟩
    exact (q_x ⟨by rw [if_pos (by omega)], Fr.refl 202 M⟩)
/-! harvest -/
def rnB (T : SS) (f : Int) (d : Nat) : Bool := decide (dysF T (d + 1) (29 + f) ≠ dysF T d (29 + f))
def hvC (r : Nat → Bool) (w : Nat) : Nat → Nat → Nat → Int
  | 0, _, _ => -1000000
  | k + 1, d, a => if d < 30 + w ∧ a ≤ 30 then (if r d = true then hvC r w k (d + 1) (d + 1) else if w ≤ d + 1 - a then (a : Int) else hvC r w k (d + 1) a) else -1000000
theorem l_X3_firstDrySpell {E : EV} {M : MM} {T : SS} {f : Int} {w : Nat} (hO : SOK 0 T) (hD : T 3 ≤ 2000) (f0 : 0 ≤ f) (f1 : f ≤ 15) (w1 : 1 ≤ w) (w9 : w ≤ 9) :
    ∀ (k d a : Nat) (z y : Int) (m : MM) (x5 : Option AV), z = (d : Int) → y = (a : Int) → a ≤ d → d + k = 40 → SV m 202 (dysF T d) → Fr 202 M m → Wp E mX3_firstDrySpell (kd 6) 9 [some (vr 201), some (vi f), some (vi (w : Int)), some (vi y), some (vi z), x5] [] N0 G0 m (Px (fun z m => z = hvC (rnB T f) w k d a ∧ Fr 202 M m)) := by
  intro k
  induction k with
  | zero =>
    intro d a z y m x5 hz hy had hd hV hF
    subst hz
    subst hy
    refine w_iload dX3_firstDrySpell_9 rfl ?_
    refine w_bipush dX3_firstDrySpell_11 (by decide +kernel) ?_
    refine w_iload_n dX3_firstDrySpell_13 rfl ?_
    refine w_iadd dX3_firstDrySpell_14 ?_
    refine w_icmp_ge (tgt := 83) dX3_firstDrySpell_15 (by decide) (by omega) (by omega) (fun h15 => ?_) (fun h15 => ?_)
    · refine w_ldc dX3_firstDrySpell_83 co3_62 ?_
      refine w_iret dX3_firstDrySpell_85 rfl (by omega) ?_ ⟨Nat.le_refl _, Nat.le_refl _⟩
      exact (q_x ⟨rfl, hF⟩)
    · exact absurd h15 (by omega)
  | succ k ih =>
    intro d a z y m x5 hz hy had hd hV hF
    subst hz
    subst hy
    have h3 := dysF_3 T d
    have hOd := SOK_dys hO d
    have hOe := SOK_dys hO (d + 1)
    have b1 := hOd.2.2.2.2.2 f f0 (by omega)
    have b2 := hOe.2.2.2.2.2 f f0 (by omega)
    have e1 := hV.2.2 f f0 (by omega)
    refine w_iload dX3_firstDrySpell_9 rfl ?_
    refine w_bipush dX3_firstDrySpell_11 (by decide +kernel) ?_
    refine w_iload_n dX3_firstDrySpell_13 rfl ?_
    refine w_iadd dX3_firstDrySpell_14 ?_
    refine w_icmp_ge (tgt := 83) dX3_firstDrySpell_15 (by decide) (by omega) (by omega) (fun h15 => ?_) (fun h15 => ?_)
    · refine w_ldc dX3_firstDrySpell_83 co3_62 ?_
      refine w_iret dX3_firstDrySpell_85 rfl (by omega) ?_ ⟨Nat.le_refl _, Nat.le_refl _⟩
      exact (q_x ⟨by rw [hvC, if_neg (by omega)], hF⟩)
    · refine w_iload_n dX3_firstDrySpell_18 rfl ?_
      refine w_bipush dX3_firstDrySpell_19 (by decide +kernel) ?_
      refine w_icmp_gt (tgt := 83) dX3_firstDrySpell_21 (by decide) (by omega) (by omega) (fun h21 => ?_) (fun h21 => ?_)
      · refine w_ldc dX3_firstDrySpell_83 co3_62 ?_
        refine w_iret dX3_firstDrySpell_85 rfl (by omega) ?_ ⟨Nat.le_refl _, Nat.le_refl _⟩
        exact (q_x ⟨by rw [hvC, if_neg (by omega)], hF⟩)
      · refine w_aload_n dX3_firstDrySpell_24 rfl ?_
        refine w_getR (r := 202) dX3_firstDrySpell_25 fl3_12 g0_201 (by decide) rfl ?_
        refine w_getR (r := (202 + 6)) dX3_firstDrySpell_28 fl3_58 (sk_g0 sk_202) (sk_n0 sk_202) rfl ?_
        refine w_iload_n dX3_firstDrySpell_31 rfl ?_
        refine r_ild dX3_firstDrySpell_32 (sk_g6 sk_202) (sk_n6 sk_202) (by omega) (by omega) (by decide) (fun r32 => ?_)
        refine w_istore dX3_firstDrySpell_33 (by decide) ?_
        refine w_aload_n dX3_firstDrySpell_35 rfl ?_
        refine w_getR (r := 202) dX3_firstDrySpell_36 fl3_12 g0_201 (by decide) rfl ?_
        refine cVx dX3_firstDrySpell_39 ok_X6_passDay lv3_35 (c_X6_passDay sk_202 hV hOd (by omega) (by omega)) rfl (sk_k sk_202) (sk_n0 sk_202) (by decide) rfl (by decide) (Nat.le_of_ble_eq_true rfl) (fun z39 m39 r39 p39 => ?_)
        obtain ⟨p39, hV2, hF2⟩ := p39
        have e2 : m39 (202 + 6) f = dysF T (d + 1) (29 + f) := hV2.2.2 f f0 (by omega)
        have hcond : d < 30 + w ∧ a ≤ 30 := by omega
        refine w_pop dX3_firstDrySpell_42 rfl ?_
        refine w_aload_n dX3_firstDrySpell_43 rfl ?_
        refine w_getR (r := 202) dX3_firstDrySpell_44 fl3_12 g0_201 (by decide) rfl ?_
        refine w_getR (r := (202 + 6)) dX3_firstDrySpell_47 fl3_58 (sk_g0 sk_202) (sk_n0 sk_202) rfl ?_
        refine w_iload_n dX3_firstDrySpell_50 rfl ?_
        refine r_ild dX3_firstDrySpell_51 (sk_g6 sk_202) (sk_n6 sk_202) (by omega) (by omega) (by decide) (fun r51 => ?_)
        refine w_iload dX3_firstDrySpell_52 rfl ?_
        refine w_icmp_eq (tgt := 65) dX3_firstDrySpell_54 (by decide) (by omega) (by omega) (fun h54 => ?_) (fun h54 => ?_)
        · refine w_iload dX3_firstDrySpell_65 rfl ?_
          refine w_iconst dX3_firstDrySpell_67 ?_
          refine w_iadd dX3_firstDrySpell_68 ?_
          refine w_iload_n dX3_firstDrySpell_69 rfl ?_
          refine w_isub dX3_firstDrySpell_70 ?_
          refine w_iload_n dX3_firstDrySpell_71 rfl ?_
          refine w_icmp_lt (tgt := 77) dX3_firstDrySpell_72 (by decide) (by omega) (by omega) (fun h72 => ?_) (fun h72 => ?_)
          · refine w_iinc dX3_firstDrySpell_77 rfl (by decide) ?_
            refine w_goto (tgt := 9) dX3_firstDrySpell_80 (by decide) ?_
            first | (rw [hvC, if_pos hcond, if_pos (by unfold rnB; rw [decide_eq_true_eq]; omega)]; exact ih (d + 1) (d + 1) _ _ _ _ (by omega) (by omega) (by omega) (by omega) hV2 (hF.trans hF2)) | (rw [hvC, if_pos hcond, if_neg (by unfold rnB; rw [decide_eq_true_eq]; omega), if_neg (by omega)]; exact ih (d + 1) a _ _ _ _ (by omega) (by omega) (by omega) (by omega) hV2 (hF.trans hF2))
          · refine w_iload_n dX3_firstDrySpell_75 rfl ?_
            refine w_iret dX3_firstDrySpell_76 rfl (by omega) ?_ ⟨Nat.le_refl _, Nat.le_refl _⟩
            exact (q_x ⟨by rw [hvC, if_pos hcond, if_neg (by unfold rnB; rw [decide_eq_true_eq]; omega), if_pos (by omega)], hF.trans hF2⟩)
        · refine w_iload dX3_firstDrySpell_57 rfl ?_
          refine w_iconst dX3_firstDrySpell_59 ?_
          refine w_iadd dX3_firstDrySpell_60 ?_
          refine w_istore_n dX3_firstDrySpell_61 (by decide) ?_
          refine w_goto (tgt := 77) dX3_firstDrySpell_62 (by decide) ?_
          refine w_iinc dX3_firstDrySpell_77 rfl (by decide) ?_
          refine w_goto (tgt := 9) dX3_firstDrySpell_80 (by decide) ?_
          first | (rw [hvC, if_pos hcond, if_pos (by unfold rnB; rw [decide_eq_true_eq]; omega)]; exact ih (d + 1) (d + 1) _ _ _ _ (by omega) (by omega) (by omega) (by omega) hV2 (hF.trans hF2)) | (rw [hvC, if_pos hcond, if_neg (by unfold rnB; rw [decide_eq_true_eq]; omega), if_neg (by omega)]; exact ih (d + 1) a _ _ _ _ (by omega) (by omega) (by omega) (by omega) hV2 (hF.trans hF2))
theorem c_X3_firstDrySpell {E : EV} {M : MM} {S : SS} {B f : Int} {w : Nat} (hV : SV M 23 S) (hO : SOK B S) (hD : S 3 ≤ 1000) (f0 : 0 ≤ f) (f1 : f ≤ 15) (w1 : 1 ≤ w) (w9 : w ≤ 9) : Cx E mX3_firstDrySpell 6 [vr 201, vi f, vi (w : Int)] M (fun z m => z = hvC (rnB (zr S) f) w 40 0 0 ∧ Fr 202 M m) := by
  refine Ct.of [some (vr 201), some (vi f), some (vi (w : Int)), none, none, none] rfl rfl rfl (Nat.le_of_ble_eq_true rfl) ?_
  refine w_aload_n dX3_firstDrySpell_0 rfl ?_
  refine cVxv dX3_firstDrySpell_1 ok_X3_begin lv3_32 (c_X3_begin hV hO.1.2) rfl (congrArg Prod.fst g0_201) (by decide) (by decide) rfl (by decide) (Nat.le_of_ble_eq_true rfl) (fun m1 p1 => ?_)
  refine w_iconst dX3_firstDrySpell_4 ?_
  refine w_istore_n dX3_firstDrySpell_5 (by decide) ?_
  refine w_iconst dX3_firstDrySpell_6 ?_
  refine w_istore dX3_firstDrySpell_7 (by decide) ?_
  exact l_X3_firstDrySpell (SOK_zr hO) (by rw [zr_lo (by omega)]; omega) f0 f1 w1 w9 40 0 0 _ _ _ _ rfl rfl (by omega) (by omega) p1.1 p1.2
/-! years by draws -/
def lcgF (x : Int) : Int := x * 16807 % 2147483647
def mdF (T : SS) (x : Int) : SS := if x % 9 = 0 then upS T (7 + 5 * (x % T 0)) (if 99 < T (7 + 5 * (x % T 0)) + T 2 then 99 else T (7 + 5 * (x % T 0)) + T 2) else T
def drF (T : SS) (x : Int) : SS := dyF (mdF (upS T 1 (x % 16)) x)
def xsF (x : Int) : Nat → Int
  | 0 => x
  | n + 1 => lcgF (xsF x n)
def drsF (T : SS) (x : Int) : Nat → SS
  | 0 => T
  | n + 1 => drF (drsF T x n) (xsF x (n + 1))
theorem xsF_r {x : Int} (h0 : 0 ≤ x) (h1 : x < 2147483647) : ∀ n : Nat, 0 ≤ xsF x n ∧ xsF x n < 2147483647
  | 0 => ⟨h0, h1⟩
  | n + 1 => by rw [xsF, lcgF]; omega
theorem mdF_0 (T : SS) (x : Int) (hT : 1 ≤ T 0) : mdF T x 0 = T 0 := by
  unfold mdF
  split
  · have := Int.emod_nonneg x (show T 0 ≠ 0 by omega)
    rw [upS_at, if_neg (by omega)]
  · rfl
theorem mdF_3 (T : SS) (x : Int) (hT : 1 ≤ T 0) : mdF T x 3 = T 3 := by
  unfold mdF
  split
  · have := Int.emod_nonneg x (show T 0 ≠ 0 by omega)
    rw [upS_at, if_neg (by omega)]
  · rfl
theorem SOK_md {B : Int} {T : SS} (h : SOK B T) (x : Int) (hT : 1 ≤ T 0) : SOK B (mdF T x) := by
  unfold mdF
  split
  · have r1 := Int.emod_nonneg x (show T 0 ≠ 0 by omega)
    have r2 := Int.emod_lt_of_pos x (show 0 < T 0 by omega)
    have hc := h.cl r1 r2
    have hs := h.2.2.1
    exact SOK_wet h r1 r2 (by split <;> omega) (by split <;> omega)
  · exact h
theorem drF_low {T : SS} {x : Int} (hT : 1 ≤ T 0) : drF T x 0 = T 0 := by
  unfold drF
  rw [dyF_low (by omega), mdF_0 _ _ (by rw [upS_at, if_neg (by omega)]; exact hT), upS_at, if_neg (by omega)]
theorem drF_3 {T : SS} {x : Int} (hT : 1 ≤ T 0) : drF T x 3 = T 3 + 1 := by
  unfold drF
  rw [dyF_3, mdF_3 _ _ (by rw [upS_at, if_neg (by omega)]; exact hT), upS_at, if_neg (by omega)]
theorem SOK_dr {B : Int} {T : SS} (h : SOK B T) (x : Int) (hT : 1 ≤ T 0) : SOK (B + 10) (drF T x) := SOK_dy (SOK_md (SOK_wind h (by omega) (by omega)) x (by rw [upS_at, if_neg (by omega)]; exact hT))
theorem drsF_all {B : Int} {T : SS} (h : SOK B T) (x : Int) (hT : 1 ≤ T 0) : ∀ n : Nat, SOK (B + 10 * n) (drsF T x n) ∧ drsF T x n 0 = T 0 ∧ drsF T x n 3 = T 3 + n
  | 0 => ⟨by simpa [drsF] using h, rfl, by simp [drsF]⟩
  | n + 1 => by
    obtain ⟨h1, h2, h3⟩ := drsF_all h x hT n
    refine ⟨?_, ?_, ?_⟩
    · rw [drsF, show B + 10 * ((n + 1 : Nat) : Int) = B + 10 * n + 10 by omega]
      exact SOK_dr h1 _ (by omega)
    · rw [drsF, drF_low (by omega), h2]
    · rw [drsF, drF_3 (by omega), h3]; omega
theorem l_X3_behindDraws {E : EV} {M : MM} {T : SS} {n s9 x : Int} (hO : SOK 0 T) (hT : 1 ≤ T 0) (hD : T 3 ≤ 2000) (n0 : 0 ≤ n) (n1 : n ≤ 60) (x0 : 0 ≤ x) (x1 : x < 2147483647) :
    ∀ (k d : Nat) (z y : Int) (m : MM), z = d → y = xsF x d → (d : Int) ≤ n → n.toNat - d < k → SV m 202 (drsF T x d) → Fr 202 M m → Wp E mX3_behindDraws (kd 6) 10 [some (vr 201), some (vi n), some (vi s9), some (vl y), none, some (vi z)] [] N0 G0 m (Pr 202 (fun m => SV m 202 (drsF T x n.toNat) ∧ Fr 202 M m)) := by
  intro k
  induction k with
  | zero => intro d z y m hz hy hd hk; exact absurd hk (by omega)
  | succ k ih =>
    intro d z y m hz hy hd hk hV hF
    subst hz
    subst hy
    have hx := xsF_r x0 x1 d
    have hx2 := xsF_r x0 x1 (d + 1)
    obtain ⟨a1, a2, a3⟩ := drsF_all hO x hT d
    have hn := hO.1
    have hsi := a1.2.2.1
    have ex : xsF x d * 16807 % 2147483647 = xsF x (d + 1) := rfl
    have e1 : upS (drsF T x d) 1 (xsF x (d + 1) % 16) 0 = T 0 := by rw [upS_at, if_neg (by omega)]; exact a2
    have e3 : upS (drsF T x d) 1 (xsF x (d + 1) % 16) 3 = T 3 + d := by rw [upS_at, if_neg (by omega)]; exact a3
    have hOw := SOK_wind a1 (v := xsF x (d + 1) % 16) (by omega) (by omega)
    have tail : (d : Int) < n → ∀ m2 : MM, SV m2 202 (mdF (upS (drsF T x d) 1 (xsF x (d + 1) % 16)) (xsF x (d + 1))) → Fr 202 M m2 → Wp E mX3_behindDraws (kd 6) 77 [some (vr 201), some (vi n), some (vi s9), some (vl (xsF x (d + 1))), none, some (vi (d : Int))] [] N0 G0 m2 (Pr 202 (fun m => SV m 202 (drsF T x n.toNat) ∧ Fr 202 M m)) := by
      intro hdn m2 hV2 hF2
      refine w_aload_n dX3_behindDraws_77 rfl ?_
      refine w_getR (r := 202) dX3_behindDraws_78 fl3_12 g0_201 (by decide) rfl ?_
      refine cVx dX3_behindDraws_81 ok_X6_passDay lv3_35 (c_X6_passDay sk_202 hV2 (SOK_md hOw _ (by omega)) (by omega) (by rw [mdF_3 _ _ (by omega)]; omega)) rfl (sk_k sk_202) (sk_n0 sk_202) (by decide) rfl (by decide) (Nat.le_of_ble_eq_true rfl) (fun z81 m81 r81 p81 => ?_)
      refine w_pop dX3_behindDraws_84 rfl ?_
      refine w_iinc dX3_behindDraws_85 rfl (by decide) ?_
      refine w_goto (tgt := 10) dX3_behindDraws_88 (by decide) ?_
      exact ih (d + 1) _ _ _ (by omega) rfl (by omega) (by omega) p81.2.1 (hF2.trans p81.2.2)
    have tA : xsF x (d + 1) % 9 ≠ 0 → ∀ q, upS (drsF T x d) 1 (xsF x (d + 1) % 16) q = mdF (upS (drsF T x d) 1 (xsF x (d + 1) % 16)) (xsF x (d + 1)) q := fun h q => by
      unfold mdF
      rw [if_neg h]
    have tB : xsF x (d + 1) % 9 = 0 → ∀ q, upS (upS (drsF T x d) 1 (xsF x (d + 1) % 16)) (7 + 5 * (xsF x (d + 1) % T 0)) (if 99 < upS (drsF T x d) 1 (xsF x (d + 1) % 16) (7 + 5 * (xsF x (d + 1) % T 0)) + upS (drsF T x d) 1 (xsF x (d + 1) % 16) 2 then 99 else upS (drsF T x d) 1 (xsF x (d + 1) % 16) (7 + 5 * (xsF x (d + 1) % T 0)) + upS (drsF T x d) 1 (xsF x (d + 1) % 16) 2) q = mdF (upS (drsF T x d) 1 (xsF x (d + 1) % 16)) (xsF x (d + 1)) q := fun h q => by
      unfold mdF
      rw [if_pos h, e1]
    refine w_iload dX3_behindDraws_10 rfl ?_
    refine w_iload_n dX3_behindDraws_12 rfl ?_
    refine w_icmp_ge (tgt := 91) dX3_behindDraws_13 (by decide) (by omega) (by omega) (fun h13 => ?_) (fun h13 => ?_)
    · have ed : n.toNat = d := by omega
      refine w_aload_n dX3_behindDraws_91 rfl ?_
      refine w_getR (r := 202) dX3_behindDraws_92 fl3_12 g0_201 (by decide) rfl ?_
      refine w_aret dX3_behindDraws_95 rfl ?_ ⟨Nat.le_refl _, Nat.le_refl _⟩
      exact ⟨rfl, rfl, rfl, by rw [ed]; exact hV, hF⟩
    · refine w_lload_n dX3_behindDraws_16 rfl ?_
      refine w_ldc2 dX3_behindDraws_17 cl3_39 ?_
      refine w_lmul dX3_behindDraws_20 ?_
      refine w_ldc2 dX3_behindDraws_21 cl3_41 ?_
      refine w_lrem dX3_behindDraws_24 (by omega) (by omega) (by omega) (by omega) ?_
      refine w_lstore_n dX3_behindDraws_25 (by decide) ?_
      refine w_aload_n dX3_behindDraws_26 rfl ?_
      refine w_getR (r := 202) dX3_behindDraws_27 fl3_12 g0_201 (by decide) rfl ?_
      refine w_lload_n dX3_behindDraws_30 rfl ?_
      refine w_ldc2 dX3_behindDraws_31 cl3_43 ?_
      refine w_lrem dX3_behindDraws_34 (by omega) (by omega) (by omega) (by omega) ?_
      refine w_l2i dX3_behindDraws_35 ?_
      refine r_putI (q := 1) dX3_behindDraws_36 fl3_45 (sk_g0 sk_202) (sk_n0 sk_202) rfl (by decide) (by omega) rfl (by decide +kernel) rfl ?_
      rw [ex]
      refine wgen (fun m2 => SV m2 202 (upS (drsF T x d) 1 (xsF x (d + 1) % 16)) ∧ Fr 202 M m2) ⟨hV.p_fld (j := 1) (by omega) (by omega) rfl, hF.up (by omega)⟩ (fun m2 hm2 => ?_)
      obtain ⟨hV2, hF2⟩ := hm2
      have kn : m2 202 0 = T 0 := by rw [hV2.num, e1]
      refine w_lload_n dX3_behindDraws_39 rfl ?_
      refine w_ldc2 dX3_behindDraws_40 cl3_49 ?_
      refine w_lrem dX3_behindDraws_43 (by omega) (by omega) (by omega) (by omega) ?_
      refine w_lconst0 dX3_behindDraws_44 ?_
      refine w_lcmp dX3_behindDraws_45 (by omega) (by omega) ?_
      refine w_ifL_ne (tgt := 77) dX3_behindDraws_46 (by decide) (fun h46 => ?_) (fun h46 => ?_)
      · first | exact tail (by omega) _ (hV2.congr (tA h46)) hF2 | exact absurd h56 (by omega) | exact tail (by omega) _ ((hV2.p_wet r1 (by rw [e1]; exact r2) (by rw [e1]; omega) (by rw [kw, ks])).congr (tB h46)) (hF2.up (by omega))
      · refine w_aload_n dX3_behindDraws_49 rfl ?_
        refine w_getR (r := 202) dX3_behindDraws_50 fl3_12 g0_201 (by decide) rfl ?_
        refine r_getI (q := 0) dX3_behindDraws_53 fl3_51 (sk_g0 sk_202) (sk_n0 sk_202) rfl (by decide) rfl (fun r53 => ?_)
        refine w_if_le (tgt := 77) dX3_behindDraws_56 (by decide) (by omega) (fun h56 => ?_) (fun h56 => ?_)
        · first | exact tail (by omega) _ (hV2.congr (tA h46)) hF2 | exact absurd h56 (by omega) | exact tail (by omega) _ ((hV2.p_wet r1 (by rw [e1]; exact r2) (by rw [e1]; omega) (by rw [kw, ks])).congr (tB h46)) (hF2.up (by omega))
        · have r1 := Int.emod_nonneg (xsF x (d + 1)) (show T 0 ≠ 0 by omega)
          have r2 := Int.emod_lt_of_pos (xsF x (d + 1)) (show 0 < T 0 by omega)
          have kw := hV2.wet r1 (by rw [e1]; exact r2)
          have ks : m2 202 2 = upS (drsF T x d) 1 (xsF x (d + 1) % 16) 2 := hV2.silk
          have bc := hOw.cl r1 (by rw [e1]; exact r2)
          have bs := hOw.2.2.1
          refine w_aload_n dX3_behindDraws_59 rfl ?_
          refine w_getR (r := 202) dX3_behindDraws_60 fl3_12 g0_201 (by decide) rfl ?_
          refine w_lload_n dX3_behindDraws_63 rfl ?_
          refine w_aload_n dX3_behindDraws_64 rfl ?_
          refine w_getR (r := 202) dX3_behindDraws_65 fl3_12 g0_201 (by decide) rfl ?_
          refine r_getI (q := 0) dX3_behindDraws_68 fl3_51 (sk_g0 sk_202) (sk_n0 sk_202) rfl (by decide) rfl (fun r68 => ?_)
          refine w_i2l dX3_behindDraws_71 (by omega) ?_
          refine w_lrem dX3_behindDraws_72 (by omega) (by omega) (by omega) (by omega) ?_
          refine w_l2i dX3_behindDraws_73 ?_
          rw [kn]
          refine cVv dX3_behindDraws_74 ok_X6_mend lv3_54 (c_X6_mend sk_202 (by omega) (by omega) (by omega) (by omega) (by omega) (by omega)) rfl (sk_k sk_202) (sk_n0 sk_202) (by decide) rfl (by decide) (Nat.le_of_ble_eq_true rfl) ?_
          first | exact tail (by omega) _ (hV2.congr (tA h46)) hF2 | exact absurd h56 (by omega) | exact tail (by omega) _ ((hV2.p_wet r1 (by rw [e1]; exact r2) (by rw [e1]; omega) (by rw [kw, ks])).congr (tB h46)) (hF2.up (by omega))
theorem c_X3_behindDraws {E : EV} {M : MM} {S : SS} {B n x : Int} (hV : SV M 23 S) (hO : SOK B S) (hT : 1 ≤ S 0) (hD : S 3 ≤ 1000) (n0 : 0 ≤ n) (n1 : n ≤ 60) (x0 : 0 ≤ x) (x1 : x < 2147483647) : Cr E mX3_behindDraws 6 [vr 201, vi n, vi x] M 202 (fun m => SV m 202 (drsF (zr S) x n.toNat) ∧ Fr 202 M m) := by
  refine Ct.of [some (vr 201), some (vi n), some (vi x), none, none, none] rfl rfl rfl (Nat.le_of_ble_eq_true rfl) ?_
  refine w_aload_n dX3_behindDraws_0 rfl ?_
  refine cVxv dX3_behindDraws_1 ok_X3_begin lv3_32 (c_X3_begin hV hO.1.2) rfl (congrArg Prod.fst g0_201) (by decide) (by decide) rfl (by decide) (Nat.le_of_ble_eq_true rfl) (fun m1 p1 => ?_)
  refine w_iload_n dX3_behindDraws_4 rfl ?_
  refine w_i2l dX3_behindDraws_5 (by omega) ?_
  refine w_lstore_n dX3_behindDraws_6 (by decide) ?_
  refine w_iconst dX3_behindDraws_7 ?_
  refine w_istore dX3_behindDraws_8 (by decide) ?_
  exact l_X3_behindDraws (SOK_zr hO) (by rw [zr_lo (by omega)]; exact hT) (by rw [zr_lo (by omega)]; omega) n0 n1 x0 x1 (n.toNat + 1) 0 _ _ _ rfl rfl (by omega) (by omega) p1.1 p1.2
