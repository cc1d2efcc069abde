/-! ===== Rows ===== -/
def byteF (v : Int) : Int := ((i32 v).toInt8.toInt32).toInt
def shortF (v : Int) : Int := ((i32 v).toInt16.toInt32).toInt
theorem byteF_ok (v : Int) : (i32 v).toInt8.toInt32 = i32 (byteF v) := by unfold byteF; rw [i32_self]
theorem shortF_ok (v : Int) : (i32 v).toInt16.toInt32 = i32 (shortF v) := by unfold shortF; rw [i32_self]
theorem byteF_r (v : Int) : R32 (byteF v) := R32_of _
theorem shortF_r (v : Int) : R32 (shortF v) := R32_of _
def narF (l v : Int) : Int := if l = 0 then byteF v else if l = 1 then shortF v else v
theorem narF_r {l v : Int} (h : R32 v) : R32 (narF l v) := by
  unfold narF
  split
  · exact byteF_r v
  · split
    · exact shortF_r v
    · exact h
/-- zeros from lo on, ahead of hi, in a row -/
def zR (M : MM) (b : Nat) (lo hi : Int) : MM := fun i q => if i = b ∧ lo ≤ q ∧ q < hi then 0 else M i q
theorem zR_step (M : MM) (b : Nat) {lo hi : Int} (h : lo ≤ hi) : upM (zR M b lo hi) b hi 0 = zR M b lo (hi + 1) := by
  funext i q
  unfold upM zR
  by_cases h1 : i = b ∧ q = hi
  · rw [if_pos h1, if_pos ⟨h1.1, by omega, by omega⟩]
  · rw [if_neg h1]
    by_cases h2 : i = b ∧ lo ≤ q ∧ q < hi
    · rw [if_pos h2, if_pos ⟨h2.1, h2.2.1, by omega⟩]
    · rw [if_neg h2, if_neg (fun w => by
        by_cases e : q = hi
        · exact h1 ⟨w.1, e⟩
        · exact h2 ⟨w.1, w.2.1, by omega⟩)]
theorem zR_none (M : MM) (b : Nat) (lo : Int) : zR M b lo lo = M := by
  funext i q
  unfold zR
  rw [if_neg (by omega)]
theorem zR_cell {M : MM} {b i : Nat} {lo hi : Int} (h : i ≠ b) : zR M b lo hi i = M i := by funext q; simp [zR, h]
theorem c_X5_isRow {E : EV} {M : MM} {z : Int} (hz : R32 z) : Cm E mX5_isRow 0 [vi z] M (bi (decide (0 ≤ z ∧ z < 8))) M := by
  refine Ct.of [some (vi z)] rfl rfl rfl (Nat.le_of_ble_eq_true rfl) ?_
  refine w_iload_n dX5_isRow_0 rfl ?_
  refine w_if_lt (tgt := 14) dX5_isRow_1 (by decide) (by omega) (fun h1 => ?_) (fun h1 => ?_)
  · refine w_iconst dX5_isRow_14 ?_
    refine w_zret (b := false) dX5_isRow_15 rfl ?_ ⟨Nat.le_refl _, Nat.le_refl _⟩
    exact (q_b (decide_eq_false (by omega)).symm)
  · refine w_iload_n dX5_isRow_4 rfl ?_
    refine w_bipush dX5_isRow_5 (by decide +kernel) ?_
    refine w_icmp_ge (tgt := 14) dX5_isRow_7 (by decide) (by omega) (by omega) (fun h7 => ?_) (fun h7 => ?_)
    · refine w_iconst dX5_isRow_14 ?_
      refine w_zret (b := false) dX5_isRow_15 rfl ?_ ⟨Nat.le_refl _, Nat.le_refl _⟩
      exact (q_b (decide_eq_false (by omega)).symm)
    · refine w_iconst dX5_isRow_10 ?_
      refine w_goto (tgt := 15) dX5_isRow_11 (by decide) ?_
      refine w_zret (b := true) dX5_isRow_15 rfl ?_ ⟨Nat.le_refl _, Nat.le_refl _⟩
      exact (q_b (decide_eq_true (by omega)).symm)
theorem c_X5_isMissing {E : EV} {M : MM} {r : Int} (h0 : 0 ≤ r) (h1 : r < 8) : Cm E mX5_isMissing 0 [vr 1, vi r] M (bi (decide (M 2 r = -1))) M := by
  refine Ct.of [some (vr 1), some (vi r)] rfl rfl rfl (Nat.le_of_ble_eq_true rfl) ?_
  refine w_aload_n dX5_isMissing_0 rfl ?_
  refine w_getR (r := 2) dX5_isMissing_1 fl5_9 g0_1 (by decide) rfl ?_
  refine w_iload_n dX5_isMissing_4 rfl ?_
  refine r_ild dX5_isMissing_5 g0_2 (by decide) (by omega) (by omega) (by decide) (fun r5 => ?_)
  refine w_iconst dX5_isMissing_6 ?_
  refine w_icmp_ne (tgt := 14) dX5_isMissing_7 (by decide) (by omega) (by omega) (fun h7 => ?_) (fun h7 => ?_)
  · refine w_iconst dX5_isMissing_14 ?_
    refine w_zret (b := false) dX5_isMissing_15 rfl ?_ ⟨Nat.le_refl _, Nat.le_refl _⟩
    exact (q_b (decide_eq_false (by omega)).symm)
  · refine w_iconst dX5_isMissing_10 ?_
    refine w_goto (tgt := 15) dX5_isMissing_11 (by decide) ?_
    refine w_zret (b := true) dX5_isMissing_15 rfl ?_ ⟨Nat.le_refl _, Nat.le_refl _⟩
    exact (q_b (decide_eq_true (by omega)).symm)
theorem c_X5_reaches {E : EV} {M : MM} {r i n : Int} (h0 : 0 ≤ r) (h1 : r < 8) (hi : R32 i) (hn : R32 n) (hs : 0 ≤ M 3 r ∧ M 3 r ≤ 40) : Cm E mX5_reaches 0 [vr 1, vi r, vi i, vi n] M (bi (decide (0 ≤ i ∧ 0 ≤ n ∧ i + n ≤ M 3 r))) M := by
  refine Ct.of [some (vr 1), some (vi r), some (vi i), some (vi n)] rfl rfl rfl (Nat.le_of_ble_eq_true rfl) ?_
  refine w_iload_n dX5_reaches_0 rfl ?_
  refine w_if_lt (tgt := 34) dX5_reaches_1 (by decide) (by omega) (fun h1 => ?_) (fun h1 => ?_)
  · refine w_iconst dX5_reaches_34 ?_
    refine w_zret (b := false) dX5_reaches_35 rfl ?_ ⟨Nat.le_refl _, Nat.le_refl _⟩
    exact (q_b (decide_eq_false (by omega)).symm)
  · refine w_iload_n dX5_reaches_4 rfl ?_
    refine w_if_lt (tgt := 34) dX5_reaches_5 (by decide) (by omega) (fun h5 => ?_) (fun h5 => ?_)
    · refine w_iconst dX5_reaches_34 ?_
      refine w_zret (b := false) dX5_reaches_35 rfl ?_ ⟨Nat.le_refl _, Nat.le_refl _⟩
      exact (q_b (decide_eq_false (by omega)).symm)
    · refine w_iload_n dX5_reaches_8 rfl ?_
      refine w_aload_n dX5_reaches_9 rfl ?_
      refine w_getR (r := 3) dX5_reaches_10 fl5_13 g0_1 (by decide) rfl ?_
      refine w_iload_n dX5_reaches_13 rfl ?_
      refine r_ild dX5_reaches_14 g0_3 (by decide) (by omega) (by omega) (by decide) (fun r14 => ?_)
      refine w_icmp_gt (tgt := 34) dX5_reaches_15 (by decide) (by omega) (by omega) (fun h15 => ?_) (fun h15 => ?_)
      · refine w_iconst dX5_reaches_34 ?_
        refine w_zret (b := false) dX5_reaches_35 rfl ?_ ⟨Nat.le_refl _, Nat.le_refl _⟩
        exact (q_b (decide_eq_false (by omega)).symm)
      · refine w_iload_n dX5_reaches_18 rfl ?_
        refine w_aload_n dX5_reaches_19 rfl ?_
        refine w_getR (r := 3) dX5_reaches_20 fl5_13 g0_1 (by decide) rfl ?_
        refine w_iload_n dX5_reaches_23 rfl ?_
        refine r_ild dX5_reaches_24 g0_3 (by decide) (by omega) (by omega) (by decide) (fun r24 => ?_)
        refine w_iload_n dX5_reaches_25 rfl ?_
        refine w_isub dX5_reaches_26 ?_
        refine w_icmp_gt (tgt := 34) dX5_reaches_27 (by decide) (by omega) (by omega) (fun h27 => ?_) (fun h27 => ?_)
        · refine w_iconst dX5_reaches_34 ?_
          refine w_zret (b := false) dX5_reaches_35 rfl ?_ ⟨Nat.le_refl _, Nat.le_refl _⟩
          exact (q_b (decide_eq_false (by omega)).symm)
        · refine w_iconst dX5_reaches_30 ?_
          refine w_goto (tgt := 35) dX5_reaches_31 (by decide) ?_
          refine w_zret (b := true) dX5_reaches_35 rfl ?_ ⟨Nat.le_refl _, Nat.le_refl _⟩
          exact (q_b (decide_eq_true (by omega)).symm)
theorem l_X5_make {E : EV} {M : MM} {j : Nat} {l9 n9 : Int} (hj : j < 8) :
    ∀ (k c : Nat) (z : Int) (m : MM), z = c → m = zR M (5 + j) 0 (c : Int) → c ≤ 40 → 40 - c < k → Wp E mX5_make (kd 0) 17 [some (vr 1), some (vi (j : Int)), some (vi l9), some (vi n9), some (vi z)] [] N0 G0 m (Pv (zR M (5 + j) 0 40)) := by
  intro k
  induction k with
  | zero => intro c z m hz hm hc hk; exact absurd hk (by omega)
  | succ k ih =>
    intro c z m hz hm hc hk
    subst hz
    refine w_iload dX5_make_17 rfl ?_
    refine w_bipush dX5_make_19 (by decide +kernel) ?_
    refine w_icmp_ge (tgt := 40) dX5_make_21 (by decide) (by omega) (by omega) (fun h21 => ?_) (fun h21 => ?_)
    · have ec : c = 40 := by omega
      subst ec
      refine w_vret dX5_make_40 rfl ?_ ⟨Nat.le_refl _, Nat.le_refl _⟩
      exact (q_v hm)
    · refine w_aload_n dX5_make_24 rfl ?_
      refine w_getR (r := 4) dX5_make_25 fl5_18 g0_1 (by decide) rfl ?_
      refine w_iload_n dX5_make_28 rfl ?_
      refine w_aald3 (r := (5 + j)) dX5_make_29 g0_4 (by decide) (by omega) (by rw [Int.toNat_natCast]; exact g0_4at j hj) (by decide) ?_
      refine w_iload dX5_make_30 rfl ?_
      refine w_iconst dX5_make_32 ?_
      refine r_ist dX5_make_33 (g0_4row j hj) (show 5 + j < 250 by omega) (by omega) (by omega) (by omega) (by decide) ?_
      refine w_iinc dX5_make_34 rfl (by decide) ?_
      refine w_goto (tgt := 17) dX5_make_37 (by decide) ?_
      exact ih (c + 1) _ _ (by omega) (by rw [hm, zR_step M (5 + j) (by omega)]; rfl) (by omega) (by omega)
theorem c_X5_make {E : EV} {M : MM} {j : Nat} {l n : Int} (hj : j < 8) (hl : R32 l) (hn : R32 n) : Cv E mX5_make 0 [vr 1, vi (j : Int), vi l, vi n] M (zR (upM (upM M 2 (j : Int) l) 3 (j : Int) n) (5 + j) 0 40) := by
  refine Ct.of [some (vr 1), some (vi (j : Int)), some (vi l), some (vi n), none] rfl rfl rfl (Nat.le_of_ble_eq_true rfl) ?_
  refine w_aload_n dX5_make_0 rfl ?_
  refine w_getR (r := 2) dX5_make_1 fl5_9 g0_1 (by decide) rfl ?_
  refine w_iload_n dX5_make_4 rfl ?_
  refine w_iload_n dX5_make_5 rfl ?_
  refine r_ist dX5_make_6 g0_2 (by decide) (by omega) (by omega) (by omega) (by decide) ?_
  refine w_aload_n dX5_make_7 rfl ?_
  refine w_getR (r := 3) dX5_make_8 fl5_13 g0_1 (by decide) rfl ?_
  refine w_iload_n dX5_make_11 rfl ?_
  refine w_iload_n dX5_make_12 rfl ?_
  refine r_ist dX5_make_13 g0_3 (by decide) (by omega) (by omega) (by omega) (by decide) ?_
  refine w_iconst dX5_make_14 ?_
  refine w_istore dX5_make_15 (by decide) ?_
  exact l_X5_make hj 41 0 _ _ rfl (zR_none _ _ _).symm (by omega) (by omega)
theorem c_X5_narrowed {E : EV} {M : MM} {l v : Int} (hl : R32 l) (hv : R32 v) : Cm E mX5_narrowed 0 [vi l, vi v] M (narF l v) M := by
  refine Ct.of [some (vi l), some (vi v)] rfl rfl rfl (Nat.le_of_ble_eq_true rfl) ?_
  have b := byteF_r v
  have s := shortF_r v
  refine w_iload_n dX5_narrowed_0 rfl ?_
  refine w_if_ne (tgt := 7) dX5_narrowed_1 (by decide) (by omega) (fun h1 => ?_) (fun h1 => ?_)
  · refine w_iload_n dX5_narrowed_7 rfl ?_
    refine w_iconst dX5_narrowed_8 ?_
    refine w_icmp_ne (tgt := 17) dX5_narrowed_9 (by decide) (by omega) (by omega) (fun h9 => ?_) (fun h9 => ?_)
    · refine w_iload_n dX5_narrowed_17 rfl ?_
      refine w_iret dX5_narrowed_18 rfl (by omega) ?_ ⟨Nat.le_refl _, Nat.le_refl _⟩
      exact (q_i (by unfold narF; (repeat' split) <;> omega))
    · refine w_iload_n dX5_narrowed_12 rfl ?_
      refine w_i2s (r := shortF v) dX5_narrowed_13 (shortF_ok v) ?_
      refine w_goto (tgt := 18) dX5_narrowed_14 (by decide) ?_
      refine w_iret dX5_narrowed_18 rfl (by omega) ?_ ⟨Nat.le_refl _, Nat.le_refl _⟩
      exact (q_i (by unfold narF; (repeat' split) <;> omega))
  · refine w_iload_n dX5_narrowed_4 rfl ?_
    refine w_i2b (r := byteF v) dX5_narrowed_5 (byteF_ok v) ?_
    refine w_iret dX5_narrowed_6 rfl (by omega) ?_ ⟨Nat.le_refl _, Nat.le_refl _⟩
    exact (q_i (by unfold narF; (repeat' split) <;> omega))
theorem c_X5_put {E : EV} {M : MM} {j : Nat} {i v : Int} (hj : j < 8) (i0 : 0 ≤ i) (i1 : i < 40) (hl : R32 (M 2 (j : Int))) (hv : R32 v) : Cm E mX5_put 1 [vr 1, vi (j : Int), vi i, vi v] M (narF (M 2 (j : Int)) v) (upM M (5 + j) i (narF (M 2 (j : Int)) v)) := by
  refine Ct.of [some (vr 1), some (vi (j : Int)), some (vi i), some (vi v)] rfl rfl rfl (Nat.le_of_ble_eq_true rfl) ?_
  refine w_aload_n dX5_put_0 rfl ?_
  refine w_getR (r := 4) dX5_put_1 fl5_18 g0_1 (by decide) rfl ?_
  refine w_iload_n dX5_put_4 rfl ?_
  refine w_aald3 (r := (5 + j)) dX5_put_5 g0_4 (by decide) (by omega) (by rw [Int.toNat_natCast]; exact g0_4at j hj) (by decide) ?_
  refine w_iload_n dX5_put_6 rfl ?_
  refine w_aload_n dX5_put_7 rfl ?_
  refine w_getR (r := 2) dX5_put_8 fl5_9 g0_1 (by decide) rfl ?_
  refine w_iload_n dX5_put_11 rfl ?_
  refine r_ild dX5_put_12 g0_2 (by decide) (by omega) (by omega) (by decide) (fun r12 => ?_)
  refine w_iload_n dX5_put_13 rfl ?_
  refine cSm dX5_put_14 ok_X5_narrowed (Or.inl ls5_21) (c_X5_narrowed hl hv) rfl  rfl (by decide) (Nat.le_of_ble_eq_true rfl) (fun r14 => ?_)
  refine r_ist dX5_put_17 (g0_4row j hj) (show 5 + j < 250 by omega) (by omega) (by omega) (narF_r hv) (by decide) ?_
  refine w_aload_n dX5_put_18 rfl ?_
  refine w_getR (r := 4) dX5_put_19 fl5_18 g0_1 (by decide) rfl ?_
  refine w_iload_n dX5_put_22 rfl ?_
  refine w_aald3 (r := (5 + j)) dX5_put_23 g0_4 (by decide) (by omega) (by rw [Int.toNat_natCast]; exact g0_4at j hj) (by decide) ?_
  refine w_iload_n dX5_put_24 rfl ?_
  refine r_ild dX5_put_25 (g0_4row j hj) (show 5 + j < 250 by omega) (by omega) (by omega) (by decide) (fun r25 => ?_)
  refine w_iret dX5_put_26 rfl (by omega) ?_ ⟨Nat.le_refl _, Nat.le_refl _⟩
  exact (q_im (upM_same _ _ _ _) rfl)
theorem c_X5_item {E : EV} {M : MM} {j : Nat} {i : Int} (hj : j < 8) (i0 : 0 ≤ i) (i1 : i < 40) : Cm E mX5_item 0 [vr 1, vi (j : Int), vi i] M (M (5 + j) i) M := by
  refine Ct.of [some (vr 1), some (vi (j : Int)), some (vi i)] rfl rfl rfl (Nat.le_of_ble_eq_true rfl) ?_
  refine w_aload_n dX5_item_0 rfl ?_
  refine w_getR (r := 4) dX5_item_1 fl5_18 g0_1 (by decide) rfl ?_
  refine w_iload_n dX5_item_4 rfl ?_
  refine w_aald3 (r := (5 + j)) dX5_item_5 g0_4 (by decide) (by omega) (by rw [Int.toNat_natCast]; exact g0_4at j hj) (by decide) ?_
  refine w_iload_n dX5_item_6 rfl ?_
  refine r_ild dX5_item_7 (g0_4row j hj) (show 5 + j < 250 by omega) (by omega) (by omega) (by decide) (fun r7 => ?_)
  refine w_iret dX5_item_8 rfl (by omega) ?_ ⟨Nat.le_refl _, Nat.le_refl _⟩
  exact ⟨rfl, rfl, rfl, rfl⟩
theorem c_X5_move {E : EV} {M : MM} {a b : Nat} {i j n : Int} (ha : a < 8) (hb : b < 8) (i0 : 0 ≤ i) (j0 : 0 ≤ j) (n0 : 0 ≤ n) (hi : i + n ≤ 40) (hj : j + n ≤ 40) : Cv E mX5_move 1 [vr 1, vi (a : Int), vi i, vi (b : Int), vi j, vi n] M (cpM M (5 + a) (5 + b) i j n) := by
  refine Ct.of [some (vr 1), some (vi (a : Int)), some (vi i), some (vi (b : Int)), some (vi j), some (vi n)] rfl rfl rfl (Nat.le_of_ble_eq_true rfl) ?_
  refine w_aload_n dX5_move_0 rfl ?_
  refine w_getR (r := 4) dX5_move_1 fl5_18 g0_1 (by decide) rfl ?_
  refine w_iload_n dX5_move_4 rfl ?_
  refine w_aald3 (r := (5 + a)) dX5_move_5 g0_4 (by decide) (by omega) (by rw [Int.toNat_natCast]; exact g0_4at a ha) (by decide) ?_
  refine w_iload_n dX5_move_6 rfl ?_
  refine w_aload_n dX5_move_7 rfl ?_
  refine w_getR (r := 4) dX5_move_8 fl5_18 g0_1 (by decide) rfl ?_
  refine w_iload_n dX5_move_11 rfl ?_
  refine w_aald3 (r := (5 + b)) dX5_move_12 g0_4 (by decide) (by omega) (by rw [Int.toNat_natCast]; exact g0_4at b hb) (by decide) ?_
  refine w_iload dX5_move_13 rfl ?_
  refine w_iload dX5_move_15 rfl ?_
  refine r_copy dX5_move_17 lc5_25 (g0_4row a ha) (g0_4row b hb) (show 5 + a < 250 by omega) (show 5 + b < 250 by omega) (by omega) (by omega) (by omega) (by omega) (by omega) (by decide) (by decide) (by decide) (Nat.le_of_ble_eq_true rfl) ?_
  refine w_vret dX5_move_20 rfl ?_ ⟨Nat.le_refl _, Nat.le_refl _⟩
  exact ⟨rfl, rfl, rfl, rfl⟩
theorem c_X5_lose {E : EV} {M : MM} {r : Int} (h0 : 0 ≤ r) (h1 : r < 8) : Cm E mX5_lose 0 [vr 1, vi r] M (M 3 r) (upM M 2 r (-1)) := by
  refine Ct.of [some (vr 1), some (vi r)] rfl rfl rfl (Nat.le_of_ble_eq_true rfl) ?_
  refine w_aload_n dX5_lose_0 rfl ?_
  refine w_getR (r := 2) dX5_lose_1 fl5_9 g0_1 (by decide) rfl ?_
  refine w_iload_n dX5_lose_4 rfl ?_
  refine w_iconst dX5_lose_5 ?_
  refine r_ist dX5_lose_6 g0_2 (by decide) (by omega) (by omega) (by omega) (by decide) ?_
  refine w_aload_n dX5_lose_7 rfl ?_
  refine w_getR (r := 3) dX5_lose_8 fl5_13 g0_1 (by decide) rfl ?_
  refine w_iload_n dX5_lose_11 rfl ?_
  refine r_ild dX5_lose_12 g0_3 (by decide) (by omega) (by omega) (by decide) (fun r12 => ?_)
  refine w_iret dX5_lose_13 rfl (by omega) ?_ ⟨Nat.le_refl _, Nat.le_refl _⟩
  exact (q_im (by rw [upM_cell (by omega)]) rfl)
def presF (f : Int → Int) : Int := sumI 8 (fun r => if f (r : Int) = -1 then 0 else 1)
theorem l_X5_present {E : EV} {M : MM} :
    ∀ (k c : Nat) (z s : Int), z = c → s = sumI c (fun r => if M 2 (r : Int) = -1 then 0 else 1) → c ≤ 8 → 8 - c < k → Wp E mX5_present (kd 0) 4 [some (vr 1), some (vi s), some (vi z)] [] N0 G0 M (Pm (presF (M 2)) M) := by
  intro k
  induction k with
  | zero => intro c z s hz hs hc hk; exact absurd hk (by omega)
  | succ k ih =>
    intro c z s hz hs hc hk
    subst hz
    subst hs
    have hle := sumI_le (n := c) (g := fun r => if M 2 (r : Int) = -1 then 0 else 1) (B := 1) (fun i hi => by split <;> omega)
    refine w_iload_n dX5_present_4 rfl ?_
    refine w_bipush dX5_present_5 (by decide +kernel) ?_
    refine w_icmp_ge (tgt := 29) dX5_present_7 (by decide) (by omega) (by omega) (fun h7 => ?_) (fun h7 => ?_)
    · have ec : c = 8 := by omega
      subst ec
      refine w_iload_n dX5_present_29 rfl ?_
      refine w_iret dX5_present_30 rfl (by omega) ?_ ⟨Nat.le_refl _, Nat.le_refl _⟩
      exact (q_i rfl)
    · refine w_aload_n dX5_present_10 rfl ?_
      refine w_getR (r := 2) dX5_present_11 fl5_9 g0_1 (by decide) rfl ?_
      refine w_iload_n dX5_present_14 rfl ?_
      refine r_ild dX5_present_15 g0_2 (by decide) (by omega) (by omega) (by decide) (fun r15 => ?_)
      refine w_iconst dX5_present_16 ?_
      refine w_icmp_eq (tgt := 23) dX5_present_17 (by decide) (by omega) (by omega) (fun h17 => ?_) (fun h17 => ?_)
      · refine w_iinc dX5_present_23 rfl (by decide) ?_
        refine w_goto (tgt := 4) dX5_present_26 (by decide) ?_
        first | exact ih (c + 1) _ _ (by omega) (by rw [sumI, if_neg (by omega)]) (by omega) (by omega) | exact ih (c + 1) _ _ (by omega) (by rw [sumI, if_pos (by omega)]; omega) (by omega) (by omega)
      · refine w_iinc dX5_present_20 rfl (by decide) ?_
        refine w_iinc dX5_present_23 rfl (by decide) ?_
        refine w_goto (tgt := 4) dX5_present_26 (by decide) ?_
        first | exact ih (c + 1) _ _ (by omega) (by rw [sumI, if_neg (by omega)]) (by omega) (by omega) | exact ih (c + 1) _ _ (by omega) (by rw [sumI, if_pos (by omega)]; omega) (by omega) (by omega)
theorem c_X5_present {E : EV} {M : MM} : Cm E mX5_present 0 [vr 1] M (presF (M 2)) M := by
  refine Ct.of [some (vr 1), none, none] rfl rfl rfl (Nat.le_of_ble_eq_true rfl) ?_
  refine w_iconst dX5_present_0 ?_
  refine w_istore_n dX5_present_1 (by decide) ?_
  refine w_iconst dX5_present_2 ?_
  refine w_istore_n dX5_present_3 (by decide) ?_
  exact l_X5_present 9 0 _ _ rfl rfl (by omega) (by omega)
/-! ===== Tape ===== -/
theorem c_X7_isFull {E : EV} {M : MM} : Cm E mX7_isFull 0 [vr 13] M (bi (decide (100 ≤ M 13 1))) M := by
  refine Ct.of [some (vr 13)] rfl rfl rfl (Nat.le_of_ble_eq_true rfl) ?_
  refine w_aload_n dX7_isFull_0 rfl ?_
  refine r_getI (q := 1) dX7_isFull_1 fl7_13 g0_13 (by decide) rfl (by decide) rfl (fun r1 => ?_)
  refine w_bipush dX7_isFull_4 (by decide +kernel) ?_
  refine w_icmp_lt (tgt := 13) dX7_isFull_6 (by decide) (by omega) (by omega) (fun h6 => ?_) (fun h6 => ?_)
  · refine w_iconst dX7_isFull_13 ?_
    refine w_zret (b := false) dX7_isFull_14 rfl ?_ ⟨Nat.le_refl _, Nat.le_refl _⟩
    exact (q_b (decide_eq_false (by omega)).symm)
  · refine w_iconst dX7_isFull_9 ?_
    refine w_goto (tgt := 14) dX7_isFull_10 (by decide) ?_
    refine w_zret (b := true) dX7_isFull_14 rfl ?_ ⟨Nat.le_refl _, Nat.le_refl _⟩
    exact (q_b (decide_eq_true (by omega)).symm)
theorem c_X7_add {E : EV} {M : MM} {l : Int} (h0 : 0 ≤ M 13 1) (h1 : M 13 1 < 100) (hl : R32 l) : Cm E mX7_add 0 [vr 13, vi l] M (M 13 1 + 1) (upM (upM M 14 (M 13 1) l) 13 1 (M 13 1 + 1)) := by
  refine Ct.of [some (vr 13), some (vi l)] rfl rfl rfl (Nat.le_of_ble_eq_true rfl) ?_
  have e : upM M 14 (M 13 1) l 13 1 = M 13 1 := by rw [upM_cell (by omega)]
  refine w_aload_n dX7_add_0 rfl ?_
  refine w_getR (r := 14) dX7_add_1 fl7_9 g0_13 (by decide) rfl ?_
  refine w_aload_n dX7_add_4 rfl ?_
  refine r_getI (q := 1) dX7_add_5 fl7_13 g0_13 (by decide) rfl (by decide) rfl (fun r5 => ?_)
  refine w_iload_n dX7_add_8 rfl ?_
  refine r_ist dX7_add_9 g0_14 (by decide) (by omega) (by omega) (by omega) (by decide) ?_
  refine w_aload_n dX7_add_10 rfl ?_
  refine w_dup dX7_add_11 rfl ?_
  refine r_getI (q := 1) dX7_add_12 fl7_13 g0_13 (by decide) rfl (by decide) rfl (fun r12 => ?_)
  refine w_iconst dX7_add_15 ?_
  refine w_iadd dX7_add_16 ?_
  refine r_putI (q := 1) dX7_add_17 fl7_13 g0_13 (by decide) rfl (by decide) (by omega) rfl (by decide +kernel) rfl ?_
  refine w_aload_n dX7_add_20 rfl ?_
  refine r_getI (q := 1) dX7_add_21 fl7_13 g0_13 (by decide) rfl (by decide) rfl (fun r21 => ?_)
  refine w_iret dX7_add_24 rfl (by omega) ?_ ⟨Nat.le_refl _, Nat.le_refl _⟩
  exact (q_im (by rw [upM_same, e]) (by rw [e]))
theorem c_X7_letter {E : EV} {M : MM} {i : Int} (hi : R32 i) (h1 : M 13 1 ≤ 100) : Cm E mX7_letter 0 [vr 13, vi i] M (if 0 ≤ i ∧ i < M 13 1 then M 14 i else -1) M := by
  refine Ct.of [some (vr 13), some (vi i)] rfl rfl rfl (Nat.le_of_ble_eq_true rfl) ?_
  refine w_iload_n dX7_letter_0 rfl ?_
  refine w_if_lt (tgt := 21) dX7_letter_1 (by decide) (by omega) (fun h1 => ?_) (fun h1 => ?_)
  · refine w_iconst dX7_letter_21 ?_
    refine w_iret dX7_letter_22 rfl (by omega) ?_ ⟨Nat.le_refl _, Nat.le_refl _⟩
    exact (q_i (by first | rw [if_pos (by omega)] | rw [if_neg (by omega)]))
  · refine w_iload_n dX7_letter_4 rfl ?_
    refine w_aload_n dX7_letter_5 rfl ?_
    refine r_getI (q := 1) dX7_letter_6 fl7_13 g0_13 (by decide) rfl (by decide) rfl (fun r6 => ?_)
    refine w_icmp_ge (tgt := 21) dX7_letter_9 (by decide) (by omega) (by omega) (fun h9 => ?_) (fun h9 => ?_)
    · refine w_iconst dX7_letter_21 ?_
      refine w_iret dX7_letter_22 rfl (by omega) ?_ ⟨Nat.le_refl _, Nat.le_refl _⟩
      exact (q_i (by first | rw [if_pos (by omega)] | rw [if_neg (by omega)]))
    · refine w_aload_n dX7_letter_12 rfl ?_
      refine w_getR (r := 14) dX7_letter_13 fl7_9 g0_13 (by decide) rfl ?_
      refine w_iload_n dX7_letter_16 rfl ?_
      refine r_ild dX7_letter_17 g0_14 (by decide) (by omega) (by omega) (by decide) (fun r17 => ?_)
      refine w_goto (tgt := 22) dX7_letter_18 (by decide) ?_
      refine w_iret dX7_letter_22 rfl (by omega) ?_ ⟨Nat.le_refl _, Nat.le_refl _⟩
      exact (q_i (by first | rw [if_pos (by omega)] | rw [if_neg (by omega)]))
