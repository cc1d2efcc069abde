/-! ===== blue; harvest ===== -/
theorem l_X9_blueFrom {E : EV} {M : MM} {f x : Nat} (hf : f < 16) (hx : x < 65536) :
    ∀ (k n : Nat) (z : Int), z = (n : Int) → n + k = 16 → Wp E mX9_blueFrom (kd 1) 2 [some (vi (f : Int)), some (vi (x : Int)), some (vi z)] [] N0 G0 M (Pm ((runB (fun g => !x.testBit g) f n k : Nat) : Int) M) := by
  intro k
  induction k with
  | zero =>
    intro n z hz hk
    subst hz
    refine w_iload_n dX9_blueFrom_2 rfl ?_
    refine w_bipush dX9_blueFrom_3 (by decide +kernel) ?_
    refine w_icmp_ge (tgt := 27) dX9_blueFrom_5 (by decide) (by omega) (by omega) (fun h5 => ?_) (fun h5 => ?_)
    · refine w_iload_n dX9_blueFrom_27 rfl ?_
      refine w_iret dX9_blueFrom_28 rfl (by omega) ?_ ⟨Nat.le_refl _, Nat.le_refl _⟩
      exact (q_i rfl)
    · exact absurd h5 (by omega)
  | succ k ih =>
    intro n z hz hk
    subst hz
    have em : ((f : Int) + (n : Int)) % 16 = (((f + n) % 16 : Nat) : Int) := by omega
    have hb := b_bit x ((f + n) % 16)
    have e2 : ((x / 2 ^ ((f + n) % 16) : Nat) : Int) % 2 = ((x / 2 ^ ((f + n) % 16) % 2 : Nat) : Int) := by omega
    refine w_iload_n dX9_blueFrom_2 rfl ?_
    refine w_bipush dX9_blueFrom_3 (by decide +kernel) ?_
    refine w_icmp_ge (tgt := 27) dX9_blueFrom_5 (by decide) (by omega) (by omega) (fun h5 => ?_) (fun h5 => ?_)
    · exact absurd h5 (by omega)
    · refine w_iload_n dX9_blueFrom_8 rfl ?_
      refine w_iload_n dX9_blueFrom_9 rfl ?_
      refine w_iload_n dX9_blueFrom_10 rfl ?_
      refine w_iadd dX9_blueFrom_11 ?_
      refine cSm dX9_blueFrom_12 ok_X9_ring (Or.inl ls9_189) c_X9_ring rfl  rfl (by decide) (Nat.le_of_ble_eq_true rfl) (fun r12 => ?_)
      rw [em]
      refine w_ibin (r := ((x / 2 ^ ((f + n) % 16) : Nat) : Int)) dX9_blueFrom_15 (Or.inr <| Or.inr <| Or.inr <| Or.inr <| Or.inl ⟨rfl, b_shr (by omega) (by omega)⟩) ?_
      refine w_iconst dX9_blueFrom_16 ?_
      refine w_ibin (r := ((x / 2 ^ ((f + n) % 16) % 2 : Nat) : Int)) dX9_blueFrom_17 (Or.inl ⟨rfl, by rw [← e2]; exact b_m1 _⟩) ?_
      refine w_if_ne (tgt := 27) dX9_blueFrom_18 (by decide) (by omega) (fun h18 => ?_) (fun h18 => ?_)
      · refine w_iload_n dX9_blueFrom_27 rfl ?_
        refine w_iret dX9_blueFrom_28 rfl (by omega) ?_ ⟨Nat.le_refl _, Nat.le_refl _⟩
        exact (q_i (by rw [runB, if_neg (by cases hq : x.testBit ((f + n) % 16) with | true => decide | false => rw [hq, if_neg (by decide)] at hb; omega)]))
      · refine w_iinc dX9_blueFrom_21 rfl (by decide) ?_
        refine w_goto (tgt := 2) dX9_blueFrom_24 (by decide) ?_
        rw [runB, if_pos (by cases hq : x.testBit ((f + n) % 16) with | true => rw [hq, if_pos rfl] at hb; omega | false => rfl)]
        exact ih (n + 1) _ (by omega) (by omega)
theorem c_X9_blueFrom {E : EV} {M : MM} {f x : Nat} (hf : f < 16) (hx : x < 65536) : Cm E mX9_blueFrom 1 [vi (f : Int), vi (x : Int)] M ((runB (fun g => !x.testBit g) f 0 16 : Nat) : Int) M := by
  refine Ct.of [some (vi (f : Int)), some (vi (x : Int)), none] rfl rfl rfl (Nat.le_of_ble_eq_true rfl) ?_
  refine w_iconst dX9_blueFrom_0 ?_
  refine w_istore_n dX9_blueFrom_1 (by decide) ?_
  exact l_X9_blueFrom hf hx 16 0 _ rfl rfl
theorem l_X9_blue {E : EV} {M : MM} {w : Int} {x : Nat} {Q : PP} (hx : x < 65536) (hQ : ∀ x6 : Option AV, Wp E mX9_blue (kd 9) 71 [some (vr 0), some (vi w), some (vi (x : Int)), some (vi (bluB (fun g => !x.testBit g) 16).1), some (vi (bluB (fun g => !x.testBit g) 16).2), some (vi 16), x6] [] N0 G0 M Q) :
    ∀ (k f : Nat) (z a b : Int) (x6 : Option AV), z = (f : Int) → a = (bluB (fun g => !x.testBit g) f).1 → b = (bluB (fun g => !x.testBit g) f).2 → f + k = 16 → Wp E mX9_blue (kd 9) 37 [some (vr 0), some (vi w), some (vi (x : Int)), some (vi a), some (vi b), some (vi z), x6] [] N0 G0 M Q := by
  intro k
  induction k with
  | zero =>
    intro f z a b x6 hz ha hb hk
    obtain rfl : f = 16 := by omega
    subst hz
    subst ha
    subst hb
    refine w_iload dX9_blue_37 rfl ?_
    refine w_bipush dX9_blue_39 (by decide +kernel) ?_
    refine w_icmp_ge (tgt := 71) dX9_blue_41 (by decide) (by omega) (by omega) (fun h41 => ?_) (fun h41 => ?_)
    · exact hQ x6
    · exact absurd h41 (by omega)
  | succ k ih =>
    intro f z a b x6 hz ha hb hk
    subst hz
    subst ha
    subst hb
    have br := bluB_r (fun g => !x.testBit g) f (by omega)
    have rr := runB_r (fun g => !x.testBit g) f 16 0
    refine w_iload dX9_blue_37 rfl ?_
    refine w_bipush dX9_blue_39 (by decide +kernel) ?_
    refine w_icmp_ge (tgt := 71) dX9_blue_41 (by decide) (by omega) (by omega) (fun h41 => ?_) (fun h41 => ?_)
    · exact absurd h41 (by omega)
    · refine w_iload dX9_blue_44 rfl ?_
      refine w_iload_n dX9_blue_46 rfl ?_
      refine cSm dX9_blue_47 ok_X9_blueFrom (Or.inl ls9_251) (c_X9_blueFrom (by omega) hx) rfl  rfl (by decide) (Nat.le_of_ble_eq_true rfl) (fun r47 => ?_)
      refine w_istore dX9_blue_50 (by decide) ?_
      refine w_iload dX9_blue_52 rfl ?_
      refine w_iload_n dX9_blue_54 rfl ?_
      refine w_icmp_le (tgt := 65) dX9_blue_55 (by decide) (by omega) (by omega) (fun h55 => ?_) (fun h55 => ?_)
      · refine w_iinc dX9_blue_65 rfl (by decide) ?_
        refine w_goto (tgt := 37) dX9_blue_68 (by decide) ?_
        first | exact ih (f + 1) _ _ _ _ (by omega) (by rw [bluB, if_pos (by omega)]) (by rw [bluB, if_pos (by omega)]) (by omega) | exact ih (f + 1) _ _ _ _ (by omega) (by rw [bluB, if_neg (by omega)]) (by rw [bluB, if_neg (by omega)]) (by omega)
      · refine w_iload dX9_blue_58 rfl ?_
        refine w_istore_n dX9_blue_60 (by decide) ?_
        refine w_iload dX9_blue_61 rfl ?_
        refine w_istore dX9_blue_63 (by decide) ?_
        refine w_iinc dX9_blue_65 rfl (by decide) ?_
        refine w_goto (tgt := 37) dX9_blue_68 (by decide) ?_
        first | exact ih (f + 1) _ _ _ _ (by omega) (by rw [bluB, if_pos (by omega)]) (by rw [bluB, if_pos (by omega)]) (by omega) | exact ih (f + 1) _ _ _ _ (by omega) (by rw [bluB, if_neg (by omega)]) (by rw [bluB, if_neg (by omega)]) (by omega)
theorem c_X9_blue {E : EV} {M : MM} {p : PS} {w : Int} (hC : CI M p) (hP : POK p) (hw : R32 w) : Cx E mX9_blue 9 [vr 0, vi w] M (KC M (blueR p w)) := by
  refine Ct.of [some (vr 0), some (vi w), none, none, none, none, none] rfl rfl rfl (Nat.le_of_ble_eq_true rfl) ?_
  have e0 := hC.S.num
  have hx : shadedF p.S < 65536 := orN_lt (k := 16) (fun i _ => shF_lt p.S (i : Int))
  have br := bluB_r (fun g => !(shadedF p.S).testBit g) 16 (by omega)
  refine w_aload_n dX9_blue_0 rfl ?_
  refine cVm dX9_blue_1 ok_X9_noSky lv9_165 c_X9_noSky rfl (congrArg Prod.fst g0_0) (by decide) (by decide) rfl (by decide) (Nat.le_of_ble_eq_true rfl) (fun r1 => ?_)
  refine w_ifB_eq (tgt := 10) dX9_blue_4 (by decide) (fun h4 => ?_) (fun h4 => ?_)
  · (first | replace h4 := of_decide_eq_true h4 | replace h4 := of_decide_eq_false h4 | skip)
    refine w_iload_n dX9_blue_10 rfl ?_
    refine cSm dX9_blue_11 ok_X9_isZeroOrOne (Or.inl ls9_217) (c_X9_isZeroOrOne (by omega)) rfl  rfl (by decide) (Nat.le_of_ble_eq_true rfl) (fun r11 => ?_)
    refine w_ifB_ne (tgt := 20) dX9_blue_14 (by decide) (fun h14 => ?_) (fun h14 => ?_)
    · (first | replace h14 := of_decide_eq_true h14 | replace h14 := of_decide_eq_false h14 | skip)
      refine w_aload_n dX9_blue_20 rfl ?_
      refine w_getR (r := 23) dX9_blue_21 fl9_35 g0_0 (by decide) rfl ?_
      refine cVm dX9_blue_24 ok_X6_shaded lv9_248 (c_X6_shaded sk_23 hC.S hP.hs.ok) rfl (sk_k sk_23) (sk_n0 sk_23) (by decide) rfl (by decide) (Nat.le_of_ble_eq_true rfl) (fun r24 => ?_)
      refine w_istore_n dX9_blue_27 (by decide) ?_
      refine w_iconst dX9_blue_28 ?_
      refine w_istore_n dX9_blue_29 (by decide) ?_
      refine w_ldc dX9_blue_30 co9_230 ?_
      refine w_istore dX9_blue_32 (by decide) ?_
      refine w_iconst dX9_blue_34 ?_
      refine w_istore dX9_blue_35 (by decide) ?_
      refine l_X9_blue hx (fun x6 => ?_) 16 0 _ _ _ _ rfl rfl rfl rfl
      refine w_iload_n dX9_blue_71 rfl ?_
      refine w_if_ne (tgt := 79) dX9_blue_72 (by decide) (by omega) (fun h72 => ?_) (fun h72 => ?_)
      · refine w_iload dX9_blue_79 rfl ?_
        refine w_iret dX9_blue_81 rfl (by omega) ?_ ⟨Nat.le_refl _, Nat.le_refl _⟩
        exact q_x (KC.stay hC (by unfold blueR; ((repeat (first | rw [if_pos (by omega)] | rw [if_neg (by omega)])) <;> rfl)))
      · refine w_iload_n dX9_blue_75 rfl ?_
        refine w_goto (tgt := 81) dX9_blue_76 (by decide) ?_
        refine w_iret dX9_blue_81 rfl (by omega) ?_ ⟨Nat.le_refl _, Nat.le_refl _⟩
        exact q_x (KC.stay hC (by unfold blueR; ((repeat (first | rw [if_pos (by omega)] | rw [if_neg (by omega)])) <;> rfl)))
    · (first | replace h14 := of_decide_eq_true h14 | replace h14 := of_decide_eq_false h14 | skip)
      refine w_ldc dX9_blue_17 co9_90 ?_
      refine w_iret dX9_blue_19 rfl (by omega) ?_ ⟨Nat.le_refl _, Nat.le_refl _⟩
      exact (q_x (KC.stay hC (by unfold blueR; ((repeat (first | rw [if_pos (by omega)] | rw [if_neg (by omega)])) <;> rfl))))
  · (first | replace h4 := of_decide_eq_true h4 | replace h4 := of_decide_eq_false h4 | skip)
    refine w_ldc dX9_blue_7 co9_161 ?_
    refine w_iret dX9_blue_9 rfl (by omega) ?_ ⟨Nat.le_refl _, Nat.le_refl _⟩
    exact (q_x (KC.stay hC (by unfold blueR; ((repeat (first | rw [if_pos (by omega)] | rw [if_neg (by omega)])) <;> rfl))))
/-! the reference's blue -/
theorem setN_none {P : Nat → Bool} : ∀ {n : Nat}, setN n P = 0 ↔ ∀ i, i < n → P i = false := by
  intro n
  constructor
  · intro h i hi
    have := setN_bit P n i
    rw [h, Nat.zero_testBit, decide_eq_true hi, Bool.true_and] at this
    exact this.symm
  · intro h
    apply Nat.eq_of_testBit_eq
    intro i
    rw [setN_bit, Nat.zero_testBit]
    by_cases hi : i < n
    · rw [h i hi, Bool.and_false]
    · rw [decide_eq_false hi, Bool.false_and]
theorem blue_bit (S : SS) (g : Nat) : (!(shadedF S).testBit g) = decide (overF S g = 0) := by
  unfold overF shadedF
  by_cases h : setN (S 0).toNat (fun c => (shF S (c : Int)).testBit g) = 0
  · rw [decide_eq_true h]
    have h2 := setN_none.mp h
    cases hq : (orN (S 0).toNat (fun c => shF S (c : Int))).testBit g with
    | false => rfl
    | true =>
      obtain ⟨c, hc, hb⟩ := orN_bit.mp hq
      have := h2 c hc
      rw [hb] at this
      cases this
  · rw [decide_eq_false h]
    cases hq : (orN (S 0).toNat (fun c => shF S (c : Int))).testBit g with
    | true => rfl
    | false =>
      exact absurd (setN_none.mpr (fun i hi => by
        cases hb : (shF S (i : Int)).testBit g with
        | false => rfl
        | true => rw [orN_bit.mpr ⟨i, hi, hb⟩] at hq; cases hq)) h
theorem l_X10_blueIn {E : EV} {M : MM} {S : SS} {B w a b : Int} {f : Nat} {Q : PP} (hM : M 243 = S) (hO : SOK B S) (hf : f < 16) (hQ : Wp E mX10_blue (kd 9) 69 [some (vr 238), some (vi w), some (vi a), some (vi b), some (vi (f : Int)), some (vi ((runB (fun g => decide (overF S g = 0)) f 0 16 : Nat) : Int))] [] N0 G0 M Q) :
    ∀ (k n : Nat) (z : Int), z = (n : Int) → n + k = 16 → runB (fun g => decide (overF S g = 0)) f 0 16 = runB (fun g => decide (overF S g = 0)) f n k → Wp E mX10_blue (kd 9) 41 [some (vr 238), some (vi w), some (vi a), some (vi b), some (vi (f : Int)), some (vi z)] [] N0 G0 M Q := by
  intro k
  induction k with
  | zero =>
    intro n z hz hk he
    subst hz
    refine w_iload dX10_blue_41 rfl ?_
    refine w_bipush dX10_blue_43 (by decide +kernel) ?_
    refine w_icmp_ge (tgt := 69) dX10_blue_45 (by decide) (by omega) (by omega) (fun h45 => ?_) (fun h45 => ?_)
    · rw [he] at hQ
      exact hQ
    · exact absurd h45 (by omega)
  | succ k ih =>
    intro n z hz hk he
    subst hz
    have em : ((f : Int) + (n : Int)) % 16 = (((f + n) % 16 : Nat) : Int) := by omega
    refine w_iload dX10_blue_41 rfl ?_
    refine w_bipush dX10_blue_43 (by decide +kernel) ?_
    refine w_icmp_ge (tgt := 69) dX10_blue_45 (by decide) (by omega) (by omega) (fun h45 => ?_) (fun h45 => ?_)
    · exact absurd h45 (by omega)
    · refine w_aload_n dX10_blue_48 rfl ?_
      refine w_iload dX10_blue_49 rfl ?_
      refine w_iload dX10_blue_51 rfl ?_
      refine w_iadd dX10_blue_53 ?_
      refine w_bipush dX10_blue_54 (by decide +kernel) ?_
      refine w_irem dX10_blue_56 (by omega) (by omega) (by omega) (by omega) ?_
      refine cVm dX10_blue_57 ok_X10_clouds lv10_166 (c_X10_clouds (by rw [hM]; exact hO) (by omega) (by omega)) rfl (congrArg Prod.fst g0_238) (by decide) (by decide) rfl (by decide) (Nat.le_of_ble_eq_true rfl) (fun r57 => ?_)
      rw [em, hM, Int.toNat_natCast] at r57
      rw [em, hM, Int.toNat_natCast]
      refine w_if_ne (tgt := 69) dX10_blue_60 (by decide) (by omega) (fun h60 => ?_) (fun h60 => ?_)
      · rw [he, runB, if_neg (fun q => h60 (by have := of_decide_eq_true q; omega))] at hQ
        exact hQ
      · refine w_iinc dX10_blue_63 rfl (by decide) ?_
        refine w_goto (tgt := 41) dX10_blue_66 (by decide) ?_
        exact ih (n + 1) _ (by omega) (by omega) (by rw [he, runB, if_pos (decide_eq_true (by omega))])
theorem l_X10_blue {E : EV} {M : MM} {S : SS} {B w : Int} {Q : PP} (hM : M 243 = S) (hO : SOK B S) (hQ : ∀ x5 : Option AV, Wp E mX10_blue (kd 9) 101 [some (vr 238), some (vi w), some (vi (bluB (fun g => decide (overF S g = 0)) 16).1), some (vi (bluB (fun g => decide (overF S g = 0)) 16).2), some (vi 16), x5] [] N0 G0 M Q) :
    ∀ (k f : Nat) (z a b : Int) (x5 : Option AV), z = (f : Int) → a = (bluB (fun g => decide (overF S g = 0)) f).1 → b = (bluB (fun g => decide (overF S g = 0)) f).2 → f + k = 16 → Wp E mX10_blue (kd 9) 31 [some (vr 238), some (vi w), some (vi a), some (vi b), some (vi z), x5] [] N0 G0 M Q := by
  intro k
  induction k with
  | zero =>
    intro f z a b x5 hz ha hb hk
    obtain rfl : f = 16 := by omega
    subst hz
    subst ha
    subst hb
    refine w_iload dX10_blue_31 rfl ?_
    refine w_bipush dX10_blue_33 (by decide +kernel) ?_
    refine w_icmp_ge (tgt := 101) dX10_blue_35 (by decide) (by omega) (by omega) (fun h35 => ?_) (fun h35 => ?_)
    · exact hQ x5
    · exact absurd h35 (by omega)
  | succ k ih =>
    intro f z a b x5 hz ha hb hk
    subst hz
    subst ha
    subst hb
    have br := bluB_r (fun g => decide (overF S g = 0)) f (by omega)
    have rr := runB_r (fun g => decide (overF S g = 0)) f 16 0
    have tail : Wp E mX10_blue (kd 9) 69 [some (vr 238), some (vi w), some (vi (bluB (fun g => decide (overF S g = 0)) f).1), some (vi (bluB (fun g => decide (overF S g = 0)) f).2), some (vi (f : Int)), some (vi ((runB (fun g => decide (overF S g = 0)) f 0 16 : Nat) : Int))] [] N0 G0 M Q := by
      refine w_iload dX10_blue_69 rfl ?_
      refine w_iload_n dX10_blue_71 rfl ?_
      refine w_icmp_le (tgt := 80) dX10_blue_72 (by decide) (by omega) (by omega) (fun h72 => ?_) (fun h72 => ?_)
      · refine w_iload_n dX10_blue_80 rfl ?_
        refine w_istore_n dX10_blue_81 (by decide) ?_
        refine w_iload dX10_blue_82 rfl ?_
        refine w_iload_n dX10_blue_84 rfl ?_
        refine w_icmp_le (tgt := 93) dX10_blue_85 (by decide) (by omega) (by omega) (fun h85 => ?_) (fun h85 => ?_)
        · refine w_iload_n dX10_blue_93 rfl ?_
          refine w_istore_n dX10_blue_94 (by decide) ?_
          refine w_iinc dX10_blue_95 rfl (by decide) ?_
          refine w_goto (tgt := 31) dX10_blue_98 (by decide) ?_
          first | (exfalso; omega) | exact ih (f + 1) _ _ _ _ (by omega) (by rw [bluB, if_pos (by omega)]) (by rw [bluB, if_pos (by omega)]) (by omega) | exact ih (f + 1) _ _ _ _ (by omega) (by rw [bluB, if_neg (by omega)]) (by rw [bluB, if_neg (by omega)]) (by omega)
        · refine w_iload dX10_blue_88 rfl ?_
          refine w_goto (tgt := 94) dX10_blue_90 (by decide) ?_
          refine w_istore_n dX10_blue_94 (by decide) ?_
          refine w_iinc dX10_blue_95 rfl (by decide) ?_
          refine w_goto (tgt := 31) dX10_blue_98 (by decide) ?_
          first | (exfalso; omega) | exact ih (f + 1) _ _ _ _ (by omega) (by rw [bluB, if_pos (by omega)]) (by rw [bluB, if_pos (by omega)]) (by omega) | exact ih (f + 1) _ _ _ _ (by omega) (by rw [bluB, if_neg (by omega)]) (by rw [bluB, if_neg (by omega)]) (by omega)
      · refine w_iload dX10_blue_75 rfl ?_
        refine w_goto (tgt := 81) dX10_blue_77 (by decide) ?_
        refine w_istore_n dX10_blue_81 (by decide) ?_
        refine w_iload dX10_blue_82 rfl ?_
        refine w_iload_n dX10_blue_84 rfl ?_
        refine w_icmp_le (tgt := 93) dX10_blue_85 (by decide) (by omega) (by omega) (fun h85 => ?_) (fun h85 => ?_)
        · refine w_iload_n dX10_blue_93 rfl ?_
          refine w_istore_n dX10_blue_94 (by decide) ?_
          refine w_iinc dX10_blue_95 rfl (by decide) ?_
          refine w_goto (tgt := 31) dX10_blue_98 (by decide) ?_
          first | (exfalso; omega) | exact ih (f + 1) _ _ _ _ (by omega) (by rw [bluB, if_pos (by omega)]) (by rw [bluB, if_pos (by omega)]) (by omega) | exact ih (f + 1) _ _ _ _ (by omega) (by rw [bluB, if_neg (by omega)]) (by rw [bluB, if_neg (by omega)]) (by omega)
        · refine w_iload dX10_blue_88 rfl ?_
          refine w_goto (tgt := 94) dX10_blue_90 (by decide) ?_
          refine w_istore_n dX10_blue_94 (by decide) ?_
          refine w_iinc dX10_blue_95 rfl (by decide) ?_
          refine w_goto (tgt := 31) dX10_blue_98 (by decide) ?_
          first | (exfalso; omega) | exact ih (f + 1) _ _ _ _ (by omega) (by rw [bluB, if_pos (by omega)]) (by rw [bluB, if_pos (by omega)]) (by omega) | exact ih (f + 1) _ _ _ _ (by omega) (by rw [bluB, if_neg (by omega)]) (by rw [bluB, if_neg (by omega)]) (by omega)
    refine w_iload dX10_blue_31 rfl ?_
    refine w_bipush dX10_blue_33 (by decide +kernel) ?_
    refine w_icmp_ge (tgt := 101) dX10_blue_35 (by decide) (by omega) (by omega) (fun h35 => ?_) (fun h35 => ?_)
    · exact absurd h35 (by omega)
    · refine w_iconst dX10_blue_38 ?_
      refine w_istore dX10_blue_39 (by decide) ?_
      exact l_X10_blueIn hM hO (by omega) tail 16 0 _ rfl rfl rfl
theorem c_X10_blue {E : EV} {M : MM} {p : PS} {w : Int} (hI : MI M p) (hP : POK p) (hw : R32 w) : Cx E mX10_blue 9 [vr 238, vi w] M (KM M (blueR p w)) := by
  refine Ct.of [some (vr 238), some (vi w), none, none, none, none] rfl rfl rfl (Nat.le_of_ble_eq_true rfl) ?_
  have hs := hI.sn
  have eb : (fun g => !(shadedF p.S).testBit g) = (fun g => decide (overF p.S g = 0)) := funext (blue_bit p.S)
  have br := bluB_r (fun g => decide (overF p.S g = 0)) 16 (by omega)
  refine w_aload_n dX10_blue_0 rfl ?_
  refine r_getI (q := 13) dX10_blue_1 fl10_117 g0_238 (by decide) rfl (by decide) rfl (fun r1 => ?_)
  refine w_if_ne (tgt := 10) dX10_blue_4 (by decide) (by omega) (fun h4 => ?_) (fun h4 => ?_)
  · refine w_iload_n dX10_blue_10 rfl ?_
    refine w_i2l dX10_blue_11 (by omega) ?_
    refine w_lconst0 dX10_blue_12 ?_
    refine w_lconst1 dX10_blue_13 ?_
    refine cSm dX10_blue_14 ok_X10_in (Or.inl ls10_50) (c_X10_in (by omega) (by omega) (by omega)) rfl  rfl (by decide) (Nat.le_of_ble_eq_true rfl) (fun r14 => ?_)
    refine w_ifB_ne (tgt := 23) dX10_blue_17 (by decide) (fun h17 => ?_) (fun h17 => ?_)
    · (first | replace h17 := of_decide_eq_true h17 | replace h17 := of_decide_eq_false h17 | skip)
      refine w_iconst dX10_blue_23 ?_
      refine w_istore_n dX10_blue_24 (by decide) ?_
      refine w_ldc dX10_blue_25 co10_177 ?_
      refine w_istore_n dX10_blue_27 (by decide) ?_
      refine w_iconst dX10_blue_28 ?_
      refine w_istore dX10_blue_29 (by decide) ?_
      refine l_X10_blue hI.S hP.hs.ok (fun x5 => ?_) 16 0 _ _ _ _ rfl rfl rfl rfl
      refine w_iload_n dX10_blue_101 rfl ?_
      refine w_if_ne (tgt := 109) dX10_blue_102 (by decide) (by omega) (fun h102 => ?_) (fun h102 => ?_)
      · refine w_iload_n dX10_blue_109 rfl ?_
        refine w_iret dX10_blue_110 rfl (by omega) ?_ ⟨Nat.le_refl _, Nat.le_refl _⟩
        exact q_x (KM.stay hI (by unfold blueR; rw [eb]; ((repeat (first | rw [if_pos (by omega)] | rw [if_neg (by omega)])) <;> rfl)))
      · refine w_iload_n dX10_blue_105 rfl ?_
        refine w_goto (tgt := 110) dX10_blue_106 (by decide) ?_
        refine w_iret dX10_blue_110 rfl (by omega) ?_ ⟨Nat.le_refl _, Nat.le_refl _⟩
        exact q_x (KM.stay hI (by unfold blueR; rw [eb]; ((repeat (first | rw [if_pos (by omega)] | rw [if_neg (by omega)])) <;> rfl)))
    · (first | replace h17 := of_decide_eq_true h17 | replace h17 := of_decide_eq_false h17 | skip)
      refine w_ldc dX10_blue_20 co10_60 ?_
      refine w_iret dX10_blue_22 rfl (by omega) ?_ ⟨Nat.le_refl _, Nat.le_refl _⟩
      exact (q_x (KM.stay hI (by unfold blueR; ((repeat (first | rw [if_pos (by omega)] | rw [if_neg (by omega)])) <;> rfl))))
  · refine w_ldc dX10_blue_7 co10_144 ?_
    refine w_iret dX10_blue_9 rfl (by omega) ?_ ⟨Nat.le_refl _, Nat.le_refl _⟩
    exact (q_x (KM.stay hI (by unfold blueR; ((repeat (first | rw [if_pos (by omega)] | rw [if_neg (by omega)])) <;> rfl))))
/-! the reference's harvest -/
theorem hv_dead {r : Nat → Bool} {w : Nat} : ∀ (k d a : Nat), 30 + w ≤ d ∨ 30 < a → hvC r w k d a = -1000000
  | 0, _, _, _ => rfl
  | _ + 1, _, _, h => by rw [hvC, if_neg (by omega)]
theorem hv_rain {r : Nat → Bool} {w k d a : Nat} (had : a ≤ d) (h : r d = true) : hvC r w (k + 1) d a = hvC r w k (d + 1) (d + 1) := by
  by_cases e : d < 30 + w ∧ a ≤ 30
  · rw [hvC, if_pos e, if_pos h]
  · rw [hv_dead (k + 1) d a (by omega), hv_dead k (d + 1) (d + 1) (by omega)]
theorem hv_dry {r : Nat → Bool} {w k d a : Nat} (h : r d = false) (hw : ¬ (w ≤ d + 1 - a ∧ a ≤ 30 ∧ d < 30 + w)) : hvC r w (k + 1) d a = hvC r w k (d + 1) a := by
  by_cases e : d < 30 + w ∧ a ≤ 30
  · rw [hvC, if_pos e, if_neg (by rw [h]; decide), if_neg (by omega)]
  · rw [hv_dead (k + 1) d a (by omega), hv_dead k (d + 1) a (by omega)]
theorem hv_hit {r : Nat → Bool} {w k d a : Nat} (h : r d = false) (hw : w ≤ d + 1 - a) (ha : a ≤ 30) (hd : d < 30 + w) : hvC r w (k + 1) d a = (a : Int) := by
  rw [hvC, if_pos ⟨hd, ha⟩, if_neg (by rw [h]; decide), if_pos hw]
theorem rn_zr {S : SS} (hn : S 0 ≤ 5) {f : Int} (f0 : 0 ≤ f) (f1 : f < 16) (d : Nat) : rnB (zr S) f d = decide (dysF S (d + 1) (29 + f) ≠ dysF S d (29 + f)) := by
  unfold rnB
  rw [zr_fell hn (d + 1) f0 f1, zr_fell hn d f0 f1]
  exact decide_eq_decide.mpr (by omega)
theorem l_X10_harvest {E : EV} {M : MM} {p : PS} {f : Int} {w : Nat} (hI : MI M p) (hP : POK p) (f0 : 0 ≤ f) (f1 : f ≤ 15) (w1 : 1 ≤ w) (w9 : w ≤ 9) :
    ∀ (k d a : Nat) (z y : Int) (m : MM) (x6 : Option AV), z = (d : Int) + 1 → y = (d : Int) - (a : Int) → a ≤ d → d + k = 39 → (d - a < w ∨ 30 + w ≤ d) → (∀ q, m 243 q = dysF p.S d q) → FrN (cpM M 243 247 0 0 45) m → Wp E mX10_harvest (kd 9) 45 [some (vr 238), some (vi f), some (vi (w : Int)), some (vi (-1000000)), some (vi y), some (vi z), x6] [] N0 G0 m (Px (KM M (hvC (rnB (zr p.S) f) w (k + 1) d a, p))) := by
  intro k
  have hn := hP.hs.n
  have hdd := hP.hs.d
  induction k with
  | zero =>
    intro d a z y m x6 hz hy had hk hA hm hF
    subst hz
    subst hy
    refine w_iload dX10_harvest_45 rfl ?_
    refine w_bipush dX10_harvest_47 (by decide +kernel) ?_
    refine w_icmp_ge (tgt := 127) dX10_harvest_49 (by decide) (by omega) (by omega) (fun h49 => ?_) (fun h49 => ?_)
    · refine w_aload_n dX10_harvest_127 rfl ?_
      refine cVv dX10_harvest_128 ok_X10_backs lv10_178 c_X10_backs rfl (congrArg Prod.fst g0_238) (by decide) (by decide) rfl (by decide) (Nat.le_of_ble_eq_true rfl) ?_
      refine w_iload_n dX10_harvest_131 rfl ?_
      refine w_iret dX10_harvest_132 rfl (by omega) ?_ ⟨Nat.le_refl _, Nat.le_refl _⟩
      exact (q_x (KM.back hI hP hF (OUT_dys hn.2 hP.hs.1 d) hm (hv_dead 1 d a (by omega)).symm rfl))
    · exact absurd h49 (by omega)
  | succ k ih =>
    intro d a z y m x6 hz hy had hk hA hm hF
    subst hz
    subst hy
    have h3 := dysF_3 p.S d
    have hO := SOK_dys hP.hs.ok d
    have k1 := hm (29 + f)
    have b1 := hO.2.2.2.2.2 f f0 (by omega)
    have b2 := (SOK_dys hP.hs.ok (d + 1)).2.2.2.2.2 f f0 (by omega)
    have rz := rn_zr (S := p.S) hn.2 f0 (show f < 16 by omega) d
    have hit : ∀ (v z9 y9 : Int) (m2 : MM) (x9 : Option AV), 0 ≤ v → v ≤ 100 → 0 ≤ z9 → z9 ≤ 100 → v = hvC (rnB (zr p.S) f) w (k + 1 + 1) d a → (∀ q, m2 243 q = dysF p.S (d + 1) q) → FrN (cpM M 243 247 0 0 45) m2 → Wp E mX10_harvest (kd 9) 45 [some (vr 238), some (vi f), some (vi (w : Int)), some (vi v), some (vi y9), some (vi z9), x9] [] N0 G0 m2 (Px (KM M (hvC (rnB (zr p.S) f) w (k + 1 + 1) d a, p))) := by
      intro v z9 y9 m2 x9 v0 v1 z0 z1 hv hm2 hF2
      refine w_iload dX10_harvest_45 rfl ?_
      refine w_bipush dX10_harvest_47 (by decide +kernel) ?_
      refine w_icmp_ge (tgt := 127) dX10_harvest_49 (by decide) (by omega) (by omega) (fun h49 => ?_) (fun h49 => ?_)
      · refine w_aload_n dX10_harvest_127 rfl ?_
        refine cVv dX10_harvest_128 ok_X10_backs lv10_178 c_X10_backs rfl (congrArg Prod.fst g0_238) (by decide) (by decide) rfl (by decide) (Nat.le_of_ble_eq_true rfl) ?_
        refine w_iload_n dX10_harvest_131 rfl ?_
        refine w_iret dX10_harvest_132 rfl (by omega) ?_ ⟨Nat.le_refl _, Nat.le_refl _⟩
        exact (q_x (KM.back hI hP hF2 (OUT_dys hn.2 hP.hs.1 (d + 1)) hm2 hv rfl))
      · refine w_iload_n dX10_harvest_52 rfl ?_
        refine w_ldc dX10_harvest_53 co10_177 ?_
        refine w_icmp_ne (tgt := 127) dX10_harvest_55 (by decide) (by omega) (by omega) (fun h55 => ?_) (fun h55 => ?_)
        · refine w_aload_n dX10_harvest_127 rfl ?_
          refine cVv dX10_harvest_128 ok_X10_backs lv10_178 c_X10_backs rfl (congrArg Prod.fst g0_238) (by decide) (by decide) rfl (by decide) (Nat.le_of_ble_eq_true rfl) ?_
          refine w_iload_n dX10_harvest_131 rfl ?_
          refine w_iret dX10_harvest_132 rfl (by omega) ?_ ⟨Nat.le_refl _, Nat.le_refl _⟩
          exact (q_x (KM.back hI hP hF2 (OUT_dys hn.2 hP.hs.1 (d + 1)) hm2 hv rfl))
        · exact absurd h55 (by omega)
    refine w_iload dX10_harvest_45 rfl ?_
    refine w_bipush dX10_harvest_47 (by decide +kernel) ?_
    refine w_icmp_ge (tgt := 127) dX10_harvest_49 (by decide) (by omega) (by omega) (fun h49 => ?_) (fun h49 => ?_)
    · exact absurd h49 (by omega)
    · refine w_iload_n dX10_harvest_52 rfl ?_
      refine w_ldc dX10_harvest_53 co10_177 ?_
      refine w_icmp_ne (tgt := 127) dX10_harvest_55 (by decide) (by omega) (by omega) (fun h55 => ?_) (fun h55 => ?_)
      · exact absurd rfl h55
      · refine w_aload_n dX10_harvest_58 rfl ?_
        refine w_getR (r := 243) dX10_harvest_59 fl10_22 g0_238 (by decide) rfl ?_
        refine w_bipush dX10_harvest_62 (by decide +kernel) ?_
        refine w_iload_n dX10_harvest_64 rfl ?_
        refine w_iadd dX10_harvest_65 ?_
        refine r_ild dX10_harvest_66 g0_243 (by decide) (by omega) (by omega) (by decide) (fun r66 => ?_)
        refine w_istore dX10_harvest_67 (by decide) ?_
        refine w_aload_n dX10_harvest_69 rfl ?_
        refine cVxv dX10_harvest_70 ok_X10_goesBy lv10_153 (c_X10_goesBy hm hO (by omega) (by omega)) rfl (congrArg Prod.fst g0_238) (by decide) (by decide) rfl (by decide) (Nat.le_of_ble_eq_true rfl) (fun m70 p70 => ?_)
        have k2 : m70 243 (29 + f) = dysF p.S (d + 1) (29 + f) := p70.1 (29 + f)
        refine w_aload_n dX10_harvest_73 rfl ?_
        refine w_getR (r := 243) dX10_harvest_74 fl10_22 g0_238 (by decide) rfl ?_
        refine w_bipush dX10_harvest_77 (by decide +kernel) ?_
        refine w_iload_n dX10_harvest_79 rfl ?_
        refine w_iadd dX10_harvest_80 ?_
        refine r_ild dX10_harvest_81 g0_243 (by decide) (by omega) (by omega) (by decide) (fun r81 => ?_)
        refine w_iload dX10_harvest_82 rfl ?_
        refine w_icmp_ne (tgt := 94) dX10_harvest_84 (by decide) (by omega) (by omega) (fun h84 => ?_) (fun h84 => ?_)
        · have rd : rnB (zr p.S) f d = true := by rw [rz]; exact decide_eq_true (by omega)
          refine w_iconst dX10_harvest_94 ?_
          refine w_istore dX10_harvest_95 (by decide) ?_
          refine w_iload dX10_harvest_97 rfl ?_
          refine w_iload_n dX10_harvest_99 rfl ?_
          refine w_icmp_lt (tgt := 119) dX10_harvest_100 (by decide) (by omega) (by omega) (fun h100 => ?_) (fun h100 => ?_)
          · refine w_iload_n dX10_harvest_119 rfl ?_
            refine w_istore_n dX10_harvest_120 (by decide) ?_
            refine w_iinc dX10_harvest_121 rfl (by decide) ?_
            refine w_goto (tgt := 45) dX10_harvest_124 (by decide) ?_
            first | (exfalso; omega) | (rw [hv_rain had rd]; exact ih (d + 1) (d + 1) _ _ _ _ (by omega) (by omega) (by omega) (by omega) (by omega) p70.1 (hF.trans p70.2)) | (rw [hv_dry rd (by omega)]; exact ih (d + 1) a _ _ _ _ (by omega) (by omega) (by omega) (by omega) (by omega) p70.1 (hF.trans p70.2)) | exact hit _ _ _ _ _ (by omega) (by omega) (by omega) (by omega) (by rw [hv_hit rd (by omega) (by omega) (by omega)]; omega) p70.1 (hF.trans p70.2)
          · refine w_iload dX10_harvest_103 rfl ?_
            refine w_iload_n dX10_harvest_105 rfl ?_
            refine w_isub dX10_harvest_106 ?_
            refine w_bipush dX10_harvest_107 (by decide +kernel) ?_
            refine w_icmp_ge (tgt := 119) dX10_harvest_109 (by decide) (by omega) (by omega) (fun h109 => ?_) (fun h109 => ?_)
            · refine w_iload_n dX10_harvest_119 rfl ?_
              refine w_istore_n dX10_harvest_120 (by decide) ?_
              refine w_iinc dX10_harvest_121 rfl (by decide) ?_
              refine w_goto (tgt := 45) dX10_harvest_124 (by decide) ?_
              first | (exfalso; omega) | (rw [hv_rain had rd]; exact ih (d + 1) (d + 1) _ _ _ _ (by omega) (by omega) (by omega) (by omega) (by omega) p70.1 (hF.trans p70.2)) | (rw [hv_dry rd (by omega)]; exact ih (d + 1) a _ _ _ _ (by omega) (by omega) (by omega) (by omega) (by omega) p70.1 (hF.trans p70.2)) | exact hit _ _ _ _ _ (by omega) (by omega) (by omega) (by omega) (by rw [hv_hit rd (by omega) (by omega) (by omega)]; omega) p70.1 (hF.trans p70.2)
            · refine w_iload dX10_harvest_112 rfl ?_
              refine w_iload_n dX10_harvest_114 rfl ?_
              refine w_isub dX10_harvest_115 ?_
              refine w_goto (tgt := 120) dX10_harvest_116 (by decide) ?_
              refine w_istore_n dX10_harvest_120 (by decide) ?_
              refine w_iinc dX10_harvest_121 rfl (by decide) ?_
              refine w_goto (tgt := 45) dX10_harvest_124 (by decide) ?_
              first | (exfalso; omega) | (rw [hv_rain had rd]; exact ih (d + 1) (d + 1) _ _ _ _ (by omega) (by omega) (by omega) (by omega) (by omega) p70.1 (hF.trans p70.2)) | (rw [hv_dry rd (by omega)]; exact ih (d + 1) a _ _ _ _ (by omega) (by omega) (by omega) (by omega) (by omega) p70.1 (hF.trans p70.2)) | exact hit _ _ _ _ _ (by omega) (by omega) (by omega) (by omega) (by rw [hv_hit rd (by omega) (by omega) (by omega)]; omega) p70.1 (hF.trans p70.2)
        · have rd : rnB (zr p.S) f d = false := by rw [rz]; exact decide_eq_false (by omega)
          refine w_iload dX10_harvest_87 rfl ?_
          refine w_iconst dX10_harvest_89 ?_
          refine w_iadd dX10_harvest_90 ?_
          refine w_goto (tgt := 95) dX10_harvest_91 (by decide) ?_
          refine w_istore dX10_harvest_95 (by decide) ?_
          refine w_iload dX10_harvest_97 rfl ?_
          refine w_iload_n dX10_harvest_99 rfl ?_
          refine w_icmp_lt (tgt := 119) dX10_harvest_100 (by decide) (by omega) (by omega) (fun h100 => ?_) (fun h100 => ?_)
          · refine w_iload_n dX10_harvest_119 rfl ?_
            refine w_istore_n dX10_harvest_120 (by decide) ?_
            refine w_iinc dX10_harvest_121 rfl (by decide) ?_
            refine w_goto (tgt := 45) dX10_harvest_124 (by decide) ?_
            first | (exfalso; omega) | (rw [hv_rain had rd]; exact ih (d + 1) (d + 1) _ _ _ _ (by omega) (by omega) (by omega) (by omega) (by omega) p70.1 (hF.trans p70.2)) | (rw [hv_dry rd (by omega)]; exact ih (d + 1) a _ _ _ _ (by omega) (by omega) (by omega) (by omega) (by omega) p70.1 (hF.trans p70.2)) | exact hit _ _ _ _ _ (by omega) (by omega) (by omega) (by omega) (by rw [hv_hit rd (by omega) (by omega) (by omega)]; omega) p70.1 (hF.trans p70.2)
          · refine w_iload dX10_harvest_103 rfl ?_
            refine w_iload_n dX10_harvest_105 rfl ?_
            refine w_isub dX10_harvest_106 ?_
            refine w_bipush dX10_harvest_107 (by decide +kernel) ?_
            refine w_icmp_ge (tgt := 119) dX10_harvest_109 (by decide) (by omega) (by omega) (fun h109 => ?_) (fun h109 => ?_)
            · refine w_iload_n dX10_harvest_119 rfl ?_
              refine w_istore_n dX10_harvest_120 (by decide) ?_
              refine w_iinc dX10_harvest_121 rfl (by decide) ?_
              refine w_goto (tgt := 45) dX10_harvest_124 (by decide) ?_
              first | (exfalso; omega) | (rw [hv_rain had rd]; exact ih (d + 1) (d + 1) _ _ _ _ (by omega) (by omega) (by omega) (by omega) (by omega) p70.1 (hF.trans p70.2)) | (rw [hv_dry rd (by omega)]; exact ih (d + 1) a _ _ _ _ (by omega) (by omega) (by omega) (by omega) (by omega) p70.1 (hF.trans p70.2)) | exact hit _ _ _ _ _ (by omega) (by omega) (by omega) (by omega) (by rw [hv_hit rd (by omega) (by omega) (by omega)]; omega) p70.1 (hF.trans p70.2)
            · refine w_iload dX10_harvest_112 rfl ?_
              refine w_iload_n dX10_harvest_114 rfl ?_
              refine w_isub dX10_harvest_115 ?_
              refine w_goto (tgt := 120) dX10_harvest_116 (by decide) ?_
              refine w_istore_n dX10_harvest_120 (by decide) ?_
              refine w_iinc dX10_harvest_121 rfl (by decide) ?_
              refine w_goto (tgt := 45) dX10_harvest_124 (by decide) ?_
              first | (exfalso; omega) | (rw [hv_rain had rd]; exact ih (d + 1) (d + 1) _ _ _ _ (by omega) (by omega) (by omega) (by omega) (by omega) p70.1 (hF.trans p70.2)) | (rw [hv_dry rd (by omega)]; exact ih (d + 1) a _ _ _ _ (by omega) (by omega) (by omega) (by omega) (by omega) p70.1 (hF.trans p70.2)) | exact hit _ _ _ _ _ (by omega) (by omega) (by omega) (by omega) (by rw [hv_hit rd (by omega) (by omega) (by omega)]; omega) p70.1 (hF.trans p70.2)
theorem c_X10_harvest {E : EV} {M : MM} {p : PS} {f m : Int} (hI : MI M p) (hP : POK p) (hf : R32 f) (hm : R32 m) : Cx E mX10_harvest 9 [vr 238, vi f, vi m] M (KM M (harvR p f m)) := by
  refine Ct.of [some (vr 238), some (vi f), some (vi m), none, none, none, none] rfl rfl rfl (Nat.le_of_ble_eq_true rfl) ?_
  have hs := hI.sn
  refine w_aload_n dX10_harvest_0 rfl ?_
  refine r_getI (q := 13) dX10_harvest_1 fl10_117 g0_238 (by decide) rfl (by decide) rfl (fun r1 => ?_)
  refine w_if_ne (tgt := 10) dX10_harvest_4 (by decide) (by omega) (fun h4 => ?_) (fun h4 => ?_)
  · refine w_iload_n dX10_harvest_10 rfl ?_
    refine cSm dX10_harvest_11 ok_X10_isField (Or.inl ls10_163) (c_X10_isField (by omega)) rfl  rfl (by decide) (Nat.le_of_ble_eq_true rfl) (fun r11 => ?_)
    refine w_ifB_eq (tgt := 29) dX10_harvest_14 (by decide) (fun h14 => ?_) (fun h14 => ?_)
    · (first | replace h14 := of_decide_eq_true h14 | replace h14 := of_decide_eq_false h14 | skip)
      refine w_ldc dX10_harvest_29 co10_60 ?_
      refine w_iret dX10_harvest_31 rfl (by omega) ?_ ⟨Nat.le_refl _, Nat.le_refl _⟩
      exact (q_x (KM.stay hI (by unfold harvR; ((repeat (first | rw [if_pos (by omega)] | rw [if_neg (by omega)])) <;> rfl))))
    · (first | replace h14 := of_decide_eq_true h14 | replace h14 := of_decide_eq_false h14 | skip)
      refine w_iload_n dX10_harvest_17 rfl ?_
      refine w_i2l dX10_harvest_18 (by omega) ?_
      refine w_lconst1 dX10_harvest_19 ?_
      refine w_ldc2 dX10_harvest_20 cl10_159 ?_
      refine cSm dX10_harvest_23 ok_X10_in (Or.inl ls10_50) (c_X10_in (by omega) (by omega) (by omega)) rfl  rfl (by decide) (Nat.le_of_ble_eq_true rfl) (fun r23 => ?_)
      refine w_ifB_ne (tgt := 32) dX10_harvest_26 (by decide) (fun h26 => ?_) (fun h26 => ?_)
      · (first | replace h26 := of_decide_eq_true h26 | replace h26 := of_decide_eq_false h26 | skip)
        refine w_aload_n dX10_harvest_32 rfl ?_
        refine cVv dX10_harvest_33 ok_X10_asides lv10_171 c_X10_asides rfl (congrArg Prod.fst g0_238) (by decide) (by decide) rfl (by decide) (Nat.le_of_ble_eq_true rfl) ?_
        refine w_ldc dX10_harvest_36 co10_177 ?_
        refine w_istore_n dX10_harvest_38 (by decide) ?_
        refine w_iconst dX10_harvest_39 ?_
        refine w_istore dX10_harvest_40 (by decide) ?_
        refine w_iconst dX10_harvest_42 ?_
        refine w_istore dX10_harvest_43 (by decide) ?_
        obtain ⟨g, rfl⟩ : ∃ g : Nat, m = g := ⟨m.toNat, by omega⟩
        rw [show harvR p f (g : Int) = (hvC (rnB (zr p.S) f) g (39 + 1) 0 0, p) from by unfold harvR; ((repeat (first | rw [if_pos (by omega)] | rw [if_neg (by omega)])) <;> rfl)]
        exact l_X10_harvest hI hP (by omega) (by omega) (by omega) (by omega) 39 0 0 _ _ _ _ rfl rfl (by omega) (by omega) (by omega) (fun q => by rw [FrN.as, hI.S]; rfl) (fun i _ => rfl)
      · (first | replace h26 := of_decide_eq_true h26 | replace h26 := of_decide_eq_false h26 | skip)
        refine w_ldc dX10_harvest_29 co10_60 ?_
        refine w_iret dX10_harvest_31 rfl (by omega) ?_ ⟨Nat.le_refl _, Nat.le_refl _⟩
        exact (q_x (KM.stay hI (by unfold harvR; ((repeat (first | rw [if_pos (by omega)] | rw [if_neg (by omega)])) <;> rfl))))
  · refine w_ldc dX10_harvest_7 co10_144 ?_
    refine w_iret dX10_harvest_9 rfl (by omega) ?_ ⟨Nat.le_refl _, Nat.le_refl _⟩
    exact (q_x (KM.stay hI (by unfold harvR; ((repeat (first | rw [if_pos (by omega)] | rw [if_neg (by omega)])) <;> rfl))))
