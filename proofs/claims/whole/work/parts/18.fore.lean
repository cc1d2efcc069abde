/-! ===== Acts ===== -/
theorem c_X0_forgetAll {E : EV} {M : MM} : Cv E mX0_forgetAll 0 [vr 30] M (upM (upM M 30 0 0) 30 3 0) := by
  refine Ct.of [some (vr 30)] rfl rfl rfl (Nat.le_of_ble_eq_true rfl) ?_
  refine w_aload_n dX0_forgetAll_0 rfl ?_
  refine w_iconst dX0_forgetAll_1 ?_
  refine r_putI (q := 0) dX0_forgetAll_2 fl0_20 g0_30 (by decide) rfl (by decide) (by omega) rfl (by decide +kernel) rfl ?_
  refine w_aload_n dX0_forgetAll_5 rfl ?_
  refine w_iconst dX0_forgetAll_6 ?_
  refine r_putI (q := 3) dX0_forgetAll_7 fl0_24 g0_30 (by decide) rfl (by decide) (by omega) rfl (by decide +kernel) rfl ?_
  refine w_vret dX0_forgetAll_10 rfl ?_ ⟨Nat.le_refl _, Nat.le_refl _⟩
  exact ⟨rfl, rfl, rfl, rfl⟩
theorem c_X0_keep {E : EV} {M : MM} {S : SS} {j : Nat} {K : Int} (hV : SV M 23 S) (hn5 : S 0 ≤ 5) (hj : j < 24) (hN : M 30 3 = (j : Int)) (hK : M 30 0 = K) (hK0 : 0 ≤ K) (hK1 : K ≤ 24) : Cxv E mX0_keep 2 [vr 30] M (fun m => SV m (32 + 7 * j) S ∧ m 30 3 = (if (j : Int) + 1 < 24 then (j : Int) + 1 else 0) ∧ m 30 0 = (if 24 < K + 1 then 24 else K + 1) ∧ ∀ i, i ≠ 30 → ¬ (32 + 7 * j ≤ i ∧ i ≤ 32 + 7 * j + 6) → m i = M i) := by
  refine Ct.of [some (vr 30)] rfl rfl rfl (Nat.le_of_ble_eq_true rfl) ?_
  refine w_aload_n dX0_keep_0 rfl ?_
  refine w_getR (r := 31) dX0_keep_1 fl0_11 g0_30 (by decide) rfl ?_
  refine w_aload_n dX0_keep_4 rfl ?_
  refine r_getI (q := 3) dX0_keep_5 fl0_24 g0_30 (by decide) rfl (by decide) rfl (fun r5 => ?_)
  refine w_aald2 (r := (32 + 7 * j)) dX0_keep_8 g0_31 (by decide) (by omega) (by rw [hN, Int.toNat_natCast]; exact g0_31at j hj) (by decide) ?_
  refine w_aload_n dX0_keep_9 rfl ?_
  refine w_getR (r := 23) dX0_keep_10 fl0_15 g0_30 (by decide) rfl ?_
  refine cVxv dX0_keep_13 ok_X6_become lv0_27 (c_X6_become (sk_all j hj) sk_23 (by omega) hV hn5) rfl (sk_k (sk_all j hj)) (sk_n0 (sk_all j hj)) (by decide) rfl (by decide) (Nat.le_of_ble_eq_true rfl) (fun m13 p13 => ?_)
  have k3 : m13 30 3 = (j : Int) := by rw [p13.2 30 (by omega)]; exact hN
  have k0 : m13 30 0 = K := by rw [p13.2 30 (by omega)]; exact hK
  refine w_aload_n dX0_keep_16 rfl ?_
  refine w_aload_n dX0_keep_17 rfl ?_
  refine r_getI (q := 3) dX0_keep_18 fl0_24 g0_30 (by decide) rfl (by decide) rfl (fun r18 => ?_)
  refine w_iconst dX0_keep_21 ?_
  refine w_iadd dX0_keep_22 ?_
  refine w_bipush dX0_keep_23 (by decide +kernel) ?_
  refine w_icmp_ge (tgt := 37) dX0_keep_25 (by decide) (by omega) (by omega) (fun h25 => ?_) (fun h25 => ?_)
  · refine w_iconst dX0_keep_37 ?_
    refine r_putI (q := 3) dX0_keep_38 fl0_24 g0_30 (by decide) rfl (by decide) (by omega) rfl (by decide +kernel) rfl ?_
    try rw [k3]
    refine wgen (fun m => SV m (32 + 7 * j) S ∧ m 30 3 = (if (j : Int) + 1 < 24 then (j : Int) + 1 else 0) ∧ m 30 0 = K ∧ ∀ i, i ≠ 30 → ¬ (32 + 7 * j ≤ i ∧ i ≤ 32 + 7 * j + 6) → m i = M i) ⟨p13.1.same (fun i h1 h2 => upM_cell (by omega)), by rw [upM_same]; first | rw [if_pos (by omega)] | rw [if_neg (by omega)], by rw [upM_ne (by omega)]; exact k0, fun i h1 h2 => by rw [upM_cell h1]; exact p13.2 i h2⟩ (fun m hm => ?_)
    obtain ⟨q1, q2, q3, q4⟩ := hm
    refine w_aload_n dX0_keep_41 rfl ?_
    refine w_aload_n dX0_keep_42 rfl ?_
    refine r_getI (q := 0) dX0_keep_43 fl0_20 g0_30 (by decide) rfl (by decide) rfl (fun r43 => ?_)
    refine w_iconst dX0_keep_46 ?_
    refine w_iadd dX0_keep_47 ?_
    refine w_bipush dX0_keep_48 (by decide +kernel) ?_
    refine w_mmin dX0_keep_50 lm0_31 (by omega) (by omega) ⟨by decide, by decide, by decide⟩ (Nat.le_of_ble_eq_true rfl) ?_
    refine r_putI (q := 0) dX0_keep_53 fl0_20 g0_30 (by decide) rfl (by decide) (by split <;> omega) rfl (by decide +kernel) rfl ?_
    refine w_vret dX0_keep_56 rfl ?_ ⟨Nat.le_refl _, Nat.le_refl _⟩
    exact (q_xv ⟨q1.same (fun i h1 h2 => upM_cell (by omega)), by rw [upM_ne (by omega)]; exact q2, by rw [upM_same, q3], fun i h1 h2 => by rw [upM_cell h1]; exact q4 i h1 h2⟩)
  · refine w_aload_n dX0_keep_28 rfl ?_
    refine r_getI (q := 3) dX0_keep_29 fl0_24 g0_30 (by decide) rfl (by decide) rfl (fun r29 => ?_)
    refine w_iconst dX0_keep_32 ?_
    refine w_iadd dX0_keep_33 ?_
    refine w_goto (tgt := 38) dX0_keep_34 (by decide) ?_
    refine r_putI (q := 3) dX0_keep_38 fl0_24 g0_30 (by decide) rfl (by decide) (by omega) rfl (by decide +kernel) rfl ?_
    try rw [k3]
    refine wgen (fun m => SV m (32 + 7 * j) S ∧ m 30 3 = (if (j : Int) + 1 < 24 then (j : Int) + 1 else 0) ∧ m 30 0 = K ∧ ∀ i, i ≠ 30 → ¬ (32 + 7 * j ≤ i ∧ i ≤ 32 + 7 * j + 6) → m i = M i) ⟨p13.1.same (fun i h1 h2 => upM_cell (by omega)), by rw [upM_same]; first | rw [if_pos (by omega)] | rw [if_neg (by omega)], by rw [upM_ne (by omega)]; exact k0, fun i h1 h2 => by rw [upM_cell h1]; exact p13.2 i h2⟩ (fun m hm => ?_)
    obtain ⟨q1, q2, q3, q4⟩ := hm
    refine w_aload_n dX0_keep_41 rfl ?_
    refine w_aload_n dX0_keep_42 rfl ?_
    refine r_getI (q := 0) dX0_keep_43 fl0_20 g0_30 (by decide) rfl (by decide) rfl (fun r43 => ?_)
    refine w_iconst dX0_keep_46 ?_
    refine w_iadd dX0_keep_47 ?_
    refine w_bipush dX0_keep_48 (by decide +kernel) ?_
    refine w_mmin dX0_keep_50 lm0_31 (by omega) (by omega) ⟨by decide, by decide, by decide⟩ (Nat.le_of_ble_eq_true rfl) ?_
    refine r_putI (q := 0) dX0_keep_53 fl0_20 g0_30 (by decide) rfl (by decide) (by split <;> omega) rfl (by decide +kernel) rfl ?_
    refine w_vret dX0_keep_56 rfl ?_ ⟨Nat.le_refl _, Nat.le_refl _⟩
    exact (q_xv ⟨q1.same (fun i h1 h2 => upM_cell (by omega)), by rw [upM_ne (by omega)]; exact q2, by rw [upM_same, q3], fun i h1 h2 => by rw [upM_cell h1]; exact q4 i h1 h2⟩)
def prevJ (j : Nat) : Nat := if 0 < j then j - 1 else 23
theorem t_X0_takeBack {E : EV} {M m : MM} {S : SS} {j : Nat} {K : Int} (hj : j < 24) (hV : SV m (32 + 7 * j) S) (hn5 : S 0 ≤ 5) (hN : m 30 3 = (j : Int)) (hK : m 30 0 = K) (hK0 : 1 ≤ K) (hK1 : K ≤ 24) (hF : ∀ i, i ≠ 30 → m i = M i) : Wp E mX0_takeBack (kd 2) 22 [some (vr 30)] [] N0 G0 m (Pxv (fun m => SV m 23 S ∧ m 30 3 = (j : Int) ∧ m 30 0 = K - 1 ∧ ∀ i, i ≠ 30 → ¬ (23 ≤ i ∧ i ≤ 29) → m i = M i)) := by
  refine w_aload_n dX0_takeBack_22 rfl ?_
  refine w_dup dX0_takeBack_23 rfl ?_
  refine r_getI (q := 0) dX0_takeBack_24 fl0_20 g0_30 (by decide) rfl (by decide) rfl (fun r24 => ?_)
  refine w_iconst dX0_takeBack_27 ?_
  refine w_isub dX0_takeBack_28 ?_
  refine r_putI (q := 0) dX0_takeBack_29 fl0_20 g0_30 (by decide) rfl (by decide) (by omega) rfl (by decide +kernel) rfl ?_
  refine wgen (fun m2 => SV m2 (32 + 7 * j) S ∧ m2 30 3 = (j : Int) ∧ m2 30 0 = K - 1 ∧ ∀ i, i ≠ 30 → m2 i = M i) ⟨hV.same (fun i h1 h2 => upM_cell (by omega)), by rw [upM_ne (by omega)]; exact hN, by rw [upM_same, hK], fun i h1 => by rw [upM_cell h1]; exact hF i h1⟩ (fun m2 hm => ?_)
  obtain ⟨q1, q2, q3, q4⟩ := hm
  refine w_aload_n dX0_takeBack_32 rfl ?_
  refine w_getR (r := 23) dX0_takeBack_33 fl0_15 g0_30 (by decide) rfl ?_
  refine w_aload_n dX0_takeBack_36 rfl ?_
  refine w_getR (r := 31) dX0_takeBack_37 fl0_11 g0_30 (by decide) rfl ?_
  refine w_aload_n dX0_takeBack_40 rfl ?_
  refine r_getI (q := 3) dX0_takeBack_41 fl0_24 g0_30 (by decide) rfl (by decide) rfl (fun r41 => ?_)
  refine w_aald2 (r := (32 + 7 * j)) dX0_takeBack_44 g0_31 (by decide) (by omega) (by rw [q2, Int.toNat_natCast]; exact g0_31at j hj) (by decide) ?_
  refine cVxv dX0_takeBack_45 ok_X6_become lv0_27 (c_X6_become sk_23 (sk_all j hj) (by omega) q1 hn5) rfl (sk_k sk_23) (sk_n0 sk_23) (by decide) rfl (by decide) (Nat.le_of_ble_eq_true rfl) (fun m45 p45 => ?_)
  refine w_vret dX0_takeBack_48 rfl ?_ ⟨Nat.le_refl _, Nat.le_refl _⟩
  exact (q_xv ⟨p45.1, by rw [p45.2 30 (by omega)]; exact q2, by rw [p45.2 30 (by omega)]; exact q3, fun i h1 h2 => by rw [p45.2 i (by omega)]; exact q4 i h1⟩)
theorem c_X0_takeBack {E : EV} {M : MM} {S : SS} {j : Nat} {K : Int} (hj : j < 24) (hV : SV M (32 + 7 * prevJ j) S) (hn5 : S 0 ≤ 5) (hN : M 30 3 = (j : Int)) (hK : M 30 0 = K) (hK0 : 1 ≤ K) (hK1 : K ≤ 24) : Cxv E mX0_takeBack 2 [vr 30] M (fun m => SV m 23 S ∧ m 30 3 = (prevJ j : Int) ∧ m 30 0 = K - 1 ∧ ∀ i, i ≠ 30 → ¬ (23 ≤ i ∧ i ≤ 29) → m i = M i) := by
  refine Ct.of [some (vr 30)] rfl rfl rfl (Nat.le_of_ble_eq_true rfl) ?_
  have e1 : 0 < j → prevJ j = j - 1 := fun h => if_pos h
  have e2 : ¬ 0 < j → prevJ j = 23 := fun h => if_neg h
  have hp : prevJ j < 24 := by unfold prevJ; split <;> omega
  refine w_aload_n dX0_takeBack_0 rfl ?_
  refine w_aload_n dX0_takeBack_1 rfl ?_
  refine r_getI (q := 3) dX0_takeBack_2 fl0_24 g0_30 (by decide) rfl (by decide) rfl (fun r2 => ?_)
  refine w_if_le (tgt := 17) dX0_takeBack_5 (by decide) (by omega) (fun h5 => ?_) (fun h5 => ?_)
  · refine w_bipush dX0_takeBack_17 (by decide +kernel) ?_
    refine r_putI (q := 3) dX0_takeBack_19 fl0_24 g0_30 (by decide) rfl (by decide) (by omega) rfl (by decide +kernel) rfl ?_
    exact t_X0_takeBack hp (hV.same (fun i h1 h2 => upM_cell (by omega))) hn5 (by rw [upM_same]; first | (rw [e1 (by omega)]; omega) | (rw [e2 (by omega)]; omega)) (by rw [upM_ne (by omega)]; exact hK) hK0 hK1 (fun i h1 => upM_cell h1)
  · refine w_aload_n dX0_takeBack_8 rfl ?_
    refine r_getI (q := 3) dX0_takeBack_9 fl0_24 g0_30 (by decide) rfl (by decide) rfl (fun r9 => ?_)
    refine w_iconst dX0_takeBack_12 ?_
    refine w_isub dX0_takeBack_13 ?_
    refine w_goto (tgt := 19) dX0_takeBack_14 (by decide) ?_
    refine r_putI (q := 3) dX0_takeBack_19 fl0_24 g0_30 (by decide) rfl (by decide) (by omega) rfl (by decide +kernel) rfl ?_
    exact t_X0_takeBack hp (hV.same (fun i h1 h2 => upM_cell (by omega))) hn5 (by rw [upM_same]; first | (rw [e1 (by omega)]; omega) | (rw [e2 (by omega)]; omega)) (by rw [upM_ne (by omega)]; exact hK) hK0 hK1 (fun i h1 => upM_cell h1)
/-! ===== Foreteller ===== -/
def zr (S : SS) : SS := fun q => if 29 ≤ q ∧ q < 45 then 0 else S q
theorem zr_lo {S : SS} {q : Int} (h : q < 29) : zr S q = S q := if_neg (by omega)
theorem SOK_zr {B : Int} {S : SS} (h : SOK B S) : SOK 0 (zr S) := by
  have hn := h.1
  have e0 : zr S 0 = S 0 := zr_lo (by omega)
  refine ⟨by rw [e0]; exact h.1, by rw [zr_lo (by omega)]; exact h.2.1, by rw [zr_lo (by omega)]; exact h.2.2.1, by rw [zr_lo (by omega)]; exact h.2.2.2.1, fun c c0 c1 => ?_, fun f f0 f1 => ?_⟩
  · rw [e0] at c1
    rw [zr_lo (by omega), zr_lo (by omega), zr_lo (by omega), zr_lo (by omega), zr_lo (by omega)]
    exact h.cl c0 c1
  · have : zr S (29 + f) = 0 := if_pos (by omega)
    omega
theorem c_X3_begin {E : EV} {M : MM} {S : SS} (hV : SV M 23 S) (hn5 : S 0 ≤ 5) : Cxv E mX3_begin 2 [vr 201] M (fun m => SV m 202 (zr S) ∧ Fr 202 M m) := by
  refine Ct.of [some (vr 201)] rfl rfl rfl (Nat.le_of_ble_eq_true rfl) ?_
  refine w_aload_n dX3_begin_0 rfl ?_
  refine w_getR (r := 202) dX3_begin_1 fl3_12 g0_201 (by decide) rfl ?_
  refine w_aload_n dX3_begin_4 rfl ?_
  refine w_getR (r := 23) dX3_begin_5 fl3_18 g0_201 (by decide) rfl ?_
  refine cVxv dX3_begin_8 ok_X6_become lv3_25 (c_X6_become sk_202 sk_23 (by omega) hV hn5) rfl (sk_k sk_202) (sk_n0 sk_202) (by decide) rfl (by decide) (Nat.le_of_ble_eq_true rfl) (fun m8 p8 => ?_)
  refine w_aload_n dX3_begin_11 rfl ?_
  refine w_getR (r := 202) dX3_begin_12 fl3_12 g0_201 (by decide) rfl ?_
  refine cVxv dX3_begin_15 ok_X6_forgetRain lv3_29 (c_X6_forgetRain sk_202 p8.1 hn5) rfl (sk_k sk_202) (sk_n0 sk_202) (by decide) rfl (by decide) (Nat.le_of_ble_eq_true rfl) (fun m15 p15 => ?_)
  refine w_vret dX3_begin_18 rfl ?_ ⟨Nat.le_refl _, Nat.le_refl _⟩
  exact (q_xv ⟨p15.1, p8.2.trans p15.2⟩)
theorem l_X3_behind {E : EV} {M : MM} {T : SS} {B n : Int} (hO : SOK B T) (hB : B ≤ 1000) (hD : T 3 ≤ 2000) (n0 : 0 ≤ n) (n1 : n ≤ 100) :
    ∀ (k d : Nat) (z : Int) (m : MM), z = d → (d : Int) ≤ n → n.toNat - d < k → SV m 202 (dysF T d) → Fr 202 M m → Wp E mX3_behind (kd 6) 6 [some (vr 201), some (vi n), some (vi z)] [] N0 G0 m (Pr 202 (fun m => SV m 202 (dysF T n.toNat) ∧ Fr 202 M m)) := by
  intro k
  induction k with
  | zero => intro d z m hz hd hk; exact absurd hk (by omega)
  | succ k ih =>
    intro d z m hz hd hk hV hF
    subst hz
    have h3 := dysF_3 T d
    refine w_iload_n dX3_behind_6 rfl ?_
    refine w_iload_n dX3_behind_7 rfl ?_
    refine w_icmp_ge (tgt := 25) dX3_behind_8 (by decide) (by omega) (by omega) (fun h8 => ?_) (fun h8 => ?_)
    · have ed : n.toNat = d := by omega
      refine w_aload_n dX3_behind_25 rfl ?_
      refine w_getR (r := 202) dX3_behind_26 fl3_12 g0_201 (by decide) rfl ?_
      refine w_aret dX3_behind_29 rfl ?_ ⟨Nat.le_refl _, Nat.le_refl _⟩
      exact ⟨rfl, rfl, rfl, by rw [ed]; exact hV, hF⟩
    · refine w_aload_n dX3_behind_11 rfl ?_
      refine w_getR (r := 202) dX3_behind_12 fl3_12 g0_201 (by decide) rfl ?_
      refine cVx dX3_behind_15 ok_X6_passDay lv3_35 (c_X6_passDay sk_202 hV (SOK_dys hO d) (by omega) (by omega)) rfl (sk_k sk_202) (sk_n0 sk_202) (by decide) rfl (by decide) (Nat.le_of_ble_eq_true rfl) (fun z15 m15 r15 p15 => ?_)
      refine w_pop dX3_behind_18 rfl ?_
      refine w_iinc dX3_behind_19 rfl (by decide) ?_
      refine w_goto (tgt := 6) dX3_behind_22 (by decide) ?_
      exact ih (d + 1) _ _ (by omega) (by omega) (by omega) p15.2.1 (hF.trans p15.2.2)
theorem c_X3_behind {E : EV} {M : MM} {S : SS} {B n : Int} (hV : SV M 23 S) (hO : SOK B S) (hD : S 3 ≤ 1000) (n0 : 0 ≤ n) (n1 : n ≤ 100) : Cr E mX3_behind 6 [vr 201, vi n] M 202 (fun m => SV m 202 (dysF (zr S) n.toNat) ∧ Fr 202 M m) := by
  refine Ct.of [some (vr 201), some (vi n), none] rfl rfl rfl (Nat.le_of_ble_eq_true rfl) ?_
  refine w_aload_n dX3_behind_0 rfl ?_
  refine cVxv dX3_behind_1 ok_X3_begin lv3_32 (c_X3_begin hV hO.1.2) rfl (congrArg Prod.fst g0_201) (by decide) (by decide) rfl (by decide) (Nat.le_of_ble_eq_true rfl) (fun m1 p1 => ?_)
  refine w_iconst dX3_behind_4 ?_
  refine w_istore_n dX3_behind_5 (by decide) ?_
  exact l_X3_behind (SOK_zr hO) (by omega) (by rw [zr_lo (by omega)]; omega) n0 n1 (n.toNat + 1) 0 _ _ rfl (by omega) (by omega) p1.1 p1.2
/-- the first d from d0 on, k of them looked at -/
def foD (P : Nat → Bool) : Nat → Nat → Int
  | _, 0 => -1000000
  | d, k + 1 => if P d = true then (d : Int) else foD P (d + 1) k
theorem foD_t {P : Nat → Bool} {d k : Nat} (h : P d = true) : foD P d (k + 1) = d := if_pos h
theorem foD_f {P : Nat → Bool} {d k : Nat} (h : P d = false) : foD P d (k + 1) = foD P (d + 1) k := if_neg (by rw [h]; decide)
theorem foD_congr {P R : Nat → Bool} : ∀ (k d : Nat), (∀ i, d ≤ i → i < d + k → P i = R i) → foD P d k = foD R d k
  | 0, _, _ => rfl
  | k + 1, d, h => by rw [foD, foD, h d (by omega) (by omega), foD_congr k (d + 1) (fun i h1 h2 => h i (by omega) (by omega))]
theorem foD_r {P : Nat → Bool} : ∀ (k d : Nat), d + k ≤ 1000 → R32 (foD P d k)
  | 0, _, _ => by rw [foD]; omega
  | k + 1, d, h => by
    rw [foD]
    split
    · omega
    · exact foD_r k (d + 1) (by omega)
theorem l_X3_firstRain {E : EV} {M : MM} {T : SS} {f : Nat} (hO : SOK 0 T) (hD : T 3 ≤ 2000) (hf : f < 16) :
    ∀ (k d : Nat) (z : Int) (m : MM), z = ((d + 1 : Nat) : Int) → d + k = 60 → SV m 202 (dysF T d) → Fr 202 M m → Wp E mX3_firstRain (kd 6) 6 [some (vr 201), some (vi (f : Int)), some (vi z)] [] N0 G0 m (Px (fun z m => z = foD (fun d => decide (dysF T d (29 + (f : Int)) ≠ 0)) (d + 1) k ∧ Fr 202 M m)) := by
  intro k
  induction k with
  | zero =>
    intro d z m hz hd hV hF
    subst hz
    refine w_iload_n dX3_firstRain_6 rfl ?_
    refine w_bipush dX3_firstRain_7 (by decide +kernel) ?_
    refine w_icmp_gt (tgt := 40) dX3_firstRain_9 (by decide) (by omega) (by omega) (fun h9 => ?_) (fun h9 => ?_)
    · refine w_ldc dX3_firstRain_40 co3_62 ?_
      refine w_iret dX3_firstRain_42 rfl (by omega) ?_ ⟨Nat.le_refl _, Nat.le_refl _⟩
      exact (q_x ⟨rfl, hF⟩)
    · exact absurd h9 (by omega)
  | succ k ih =>
    intro d z m hz hd hV hF
    subst hz
    have h3 := dysF_3 T d
    refine w_iload_n dX3_firstRain_6 rfl ?_
    refine w_bipush dX3_firstRain_7 (by decide +kernel) ?_
    refine w_icmp_gt (tgt := 40) dX3_firstRain_9 (by decide) (by omega) (by omega) (fun h9 => ?_) (fun h9 => ?_)
    · exact absurd h9 (by omega)
    · refine w_aload_n dX3_firstRain_12 rfl ?_
      refine w_getR (r := 202) dX3_firstRain_13 fl3_12 g0_201 (by decide) rfl ?_
      refine cVx dX3_firstRain_16 ok_X6_passDay lv3_35 (c_X6_passDay sk_202 hV (SOK_dys hO d) (by omega) (by omega)) rfl (sk_k sk_202) (sk_n0 sk_202) (by decide) rfl (by decide) (Nat.le_of_ble_eq_true rfl) (fun z16 m16 r16 p16 => ?_)
      obtain ⟨p16, hV2, hF2⟩ := p16
      have ef := hV2.2.2 (f : Int) (by omega) (by omega)
      refine w_pop dX3_firstRain_19 rfl ?_
      refine w_aload_n dX3_firstRain_20 rfl ?_
      refine w_getR (r := 202) dX3_firstRain_21 fl3_12 g0_201 (by decide) rfl ?_
      refine w_getR (r := (202 + 6)) dX3_firstRain_24 fl3_58 (sk_g0 sk_202) (sk_n0 sk_202) rfl ?_
      refine w_iload_n dX3_firstRain_27 rfl ?_
      refine r_ild dX3_firstRain_28 (sk_g6 sk_202) (sk_n6 sk_202) (by omega) (by omega) (by decide) (fun r28 => ?_)
      refine w_if_eq (tgt := 34) dX3_firstRain_29 (by decide) (by omega) (fun h29 => ?_) (fun h29 => ?_)
      · refine w_iinc dX3_firstRain_34 rfl (by decide) ?_
        refine w_goto (tgt := 6) dX3_firstRain_37 (by decide) ?_
        rw [foD_f (d := d + 1) (by show decide (dysF T (d + 1) _ ≠ 0) = false; exact decide_eq_false (by show ¬ dyF (dysF T d) _ ≠ 0; omega))]
        exact ih (d + 1) _ _ (by omega) (by omega) hV2 (hF.trans hF2)
      · refine w_iload_n dX3_firstRain_32 rfl ?_
        refine w_iret dX3_firstRain_33 rfl (by omega) ?_ ⟨Nat.le_refl _, Nat.le_refl _⟩
        exact (q_x ⟨by rw [foD_t (d := d + 1) (by show decide (dysF T (d + 1) _ ≠ 0) = true; exact decide_eq_true (by show dyF (dysF T d) _ ≠ 0; omega))], hF.trans hF2⟩)
theorem c_X3_firstRain {E : EV} {M : MM} {S : SS} {B f : Int} (hV : SV M 23 S) (hO : SOK B S) (hD : S 3 ≤ 1000) (f0 : 0 ≤ f) (f1 : f ≤ 15) : Cx E mX3_firstRain 6 [vr 201, vi f] M (fun z m => z = foD (fun d => decide (dysF (zr S) d (29 + f) ≠ 0)) 1 60 ∧ Fr 202 M m) := by
  refine Ct.of [some (vr 201), some (vi f), none] rfl rfl rfl (Nat.le_of_ble_eq_true rfl) ?_
  obtain ⟨g, rfl⟩ : ∃ g : Nat, f = g := ⟨f.toNat, by omega⟩
  refine w_aload_n dX3_firstRain_0 rfl ?_
  refine cVxv dX3_firstRain_1 ok_X3_begin lv3_32 (c_X3_begin hV hO.1.2) rfl (congrArg Prod.fst g0_201) (by decide) (by decide) rfl (by decide) (Nat.le_of_ble_eq_true rfl) (fun m1 p1 => ?_)
  refine w_iconst dX3_firstRain_4 ?_
  refine w_istore_n dX3_firstRain_5 (by decide) ?_
  exact l_X3_firstRain (SOK_zr hO) (by rw [zr_lo (by omega)]; omega) (by omega) 60 0 _ _ rfl (by omega) p1.1 p1.2
theorem l_X3_firstGone {E : EV} {M : MM} {T : SS} {c : Int} (hO : SOK 0 T) (hD : T 3 ≤ 2000) (c0 : 0 ≤ c) (c1 : c < T 0) :
    ∀ (k d : Nat) (z : Int) (m : MM), z = (d : Int) → d + k = 61 → SV m 202 (dysF T d) → Fr 202 M m → Wp E mX3_firstGone (kd 6) 6 [some (vr 201), some (vi c), some (vi z)] [] N0 G0 m (Px (fun z m => z = foD (fun d => decide (dysF T d (7 + 5 * c) = 0)) d k ∧ Fr 202 M m)) := by
  intro k
  have hn := hO.1
  induction k with
  | zero =>
    intro d z m hz hd hV hF
    subst hz
    refine w_iload_n dX3_firstGone_6 rfl ?_
    refine w_bipush dX3_firstGone_7 (by decide +kernel) ?_
    refine w_icmp_gt (tgt := 39) dX3_firstGone_9 (by decide) (by omega) (by omega) (fun h9 => ?_) (fun h9 => ?_)
    · refine w_ldc dX3_firstGone_39 co3_62 ?_
      refine w_iret dX3_firstGone_41 rfl (by omega) ?_ ⟨Nat.le_refl _, Nat.le_refl _⟩
      exact (q_x ⟨rfl, hF⟩)
    · exact absurd h9 (by omega)
  | succ k ih =>
    intro d z m hz hd hV hF
    subst hz
    have h3 := dysF_3 T d
    have eT := hV.wet c0 (by rw [dysF_low (by omega)]; exact c1)
    refine w_iload_n dX3_firstGone_6 rfl ?_
    refine w_bipush dX3_firstGone_7 (by decide +kernel) ?_
    refine w_icmp_gt (tgt := 39) dX3_firstGone_9 (by decide) (by omega) (by omega) (fun h9 => ?_) (fun h9 => ?_)
    · exact absurd h9 (by omega)
    · refine w_aload_n dX3_firstGone_12 rfl ?_
      refine w_getR (r := 202) dX3_firstGone_13 fl3_12 g0_201 (by decide) rfl ?_
      refine w_iload_n dX3_firstGone_16 rfl ?_
      refine cVm dX3_firstGone_17 ok_X6_isGone lv3_63 (c_X6_isGone sk_202 (by omega) (by omega)) rfl (sk_k sk_202) (sk_n0 sk_202) (by decide) rfl (by decide) (Nat.le_of_ble_eq_true rfl) (fun r17 => ?_)
      refine w_ifB_eq (tgt := 25) dX3_firstGone_20 (by decide) (fun h20 => ?_) (fun h20 => ?_)
      · have h20 := of_decide_eq_false h20
        refine w_aload_n dX3_firstGone_25 rfl ?_
        refine w_getR (r := 202) dX3_firstGone_26 fl3_12 g0_201 (by decide) rfl ?_
        refine cVx dX3_firstGone_29 ok_X6_passDay lv3_35 (c_X6_passDay sk_202 hV (SOK_dys hO d) (by omega) (by omega)) rfl (sk_k sk_202) (sk_n0 sk_202) (by decide) rfl (by decide) (Nat.le_of_ble_eq_true rfl) (fun z29 m29 r29 p29 => ?_)
        refine w_pop dX3_firstGone_32 rfl ?_
        refine w_iinc dX3_firstGone_33 rfl (by decide) ?_
        refine w_goto (tgt := 6) dX3_firstGone_36 (by decide) ?_
        rw [foD_f (decide_eq_false (by omega))]
        exact ih (d + 1) _ _ (by omega) (by omega) p29.2.1 (hF.trans p29.2.2)
      · have h20 := of_decide_eq_true h20
        refine w_iload_n dX3_firstGone_23 rfl ?_
        refine w_iret dX3_firstGone_24 rfl (by omega) ?_ ⟨Nat.le_refl _, Nat.le_refl _⟩
        exact (q_x ⟨by rw [foD_t (decide_eq_true (by omega))], hF⟩)
theorem c_X3_firstGone {E : EV} {M : MM} {S : SS} {B c : Int} (hV : SV M 23 S) (hO : SOK B S) (hD : S 3 ≤ 1000) (c0 : 0 ≤ c) (c1 : c < S 0) : Cx E mX3_firstGone 6 [vr 201, vi c] M (fun z m => z = foD (fun d => decide (dysF (zr S) d (7 + 5 * c) = 0)) 0 61 ∧ Fr 202 M m) := by
  refine Ct.of [some (vr 201), some (vi c), none] rfl rfl rfl (Nat.le_of_ble_eq_true rfl) ?_
  refine w_aload_n dX3_firstGone_0 rfl ?_
  refine cVxv dX3_firstGone_1 ok_X3_begin lv3_32 (c_X3_begin hV hO.1.2) rfl (congrArg Prod.fst g0_201) (by decide) (by decide) rfl (by decide) (Nat.le_of_ble_eq_true rfl) (fun m1 p1 => ?_)
  refine w_iconst dX3_firstGone_4 ?_
  refine w_istore_n dX3_firstGone_5 (by decide) ?_
  exact l_X3_firstGone (SOK_zr hO) (by rw [zr_lo (by omega)]; omega) c0 (by rw [zr_lo (by omega)]; exact c1) 61 0 _ _ rfl (by omega) p1.1 p1.2
