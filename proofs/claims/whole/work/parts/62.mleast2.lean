/-! ===== the reference: leastTow, all of it ===== -/
/-- what the reference holds of the best way so far -/
def RB (N : Nat) (x : LB) (b f : Int) : Prop := (x.1 = 16 ∧ f = -1000000) ∨ (x.1 < 16 ∧ 0 ≤ x.1 ∧ f = x.1 ∧ ∃ W : Nat, W < 1024 ∧ b = (W : Int) ∧ x.2 = wyC N W)
theorem dry_and {w F : Nat} (hF : F < 65536) : (setN 16 (fun f => decide (w.testBit f = false)) &&& F = 0) ↔ (F &&& w = F) := by
  constructor
  · intro h
    apply Nat.eq_of_testBit_eq
    intro i
    have q := congrArg (fun x => x.testBit i) h
    simp only [Nat.testBit_and, setN_bit, Nat.zero_testBit] at q
    rw [Nat.testBit_and]
    by_cases hi : i < 16
    · rw [decide_eq_true hi, Bool.true_and] at q
      revert q
      cases F.testBit i <;> cases w.testBit i <;> decide
    · rw [Nat.testBit_lt_two_pow (Nat.lt_of_lt_of_le hF (Nat.pow_le_pow_right (n := 2) (by decide) (show 16 ≤ i by omega)))]
      rfl
  · intro h
    apply Nat.eq_of_testBit_eq
    intro i
    have q := congrArg (fun x => x.testBit i) h
    simp only [Nat.testBit_and] at q
    rw [Nat.testBit_and, setN_bit, Nat.zero_testBit]
    revert q
    cases F.testBit i <;> cases w.testBit i <;> cases decide (i < 16) <;> decide
theorem stp_no {S : SS} {n F N W : Nat} {x : LB} (h : ¬ (myC S N W = true ∧ ((smC N W : Nat) : Int) < x.1 ∧ F &&& wtC S n N W = F)) : stp S n F N W x = x := if_neg h
theorem stp_ye {S : SS} {n F N W : Nat} {x : LB} (h : myC S N W = true ∧ ((smC N W : Nat) : Int) < x.1 ∧ F &&& wtC S n N W = F) : stp S n F N W x = (((smC N W : Nat) : Int), wyC N W) := if_pos h
theorem OUT_ts {S : SS} {N W : Nat} (h : OUT S) : ∀ c, c ≤ 5 → OUT (tsF S N W c)
  | 0, _ => h
  | c + 1, hc => OUT_up (OUT_ts h c (by omega)) (by omega)
theorem l_X10_leastTow {E : EV} {M : MM} {p : PS} {k4 : Int} {n F N K : Nat} {Q : PP} (hK : K = 4 ^ N) (hI : MI M p) (hP : POK p) (hN : N = (p.S 0).toNat) (n1 : n ≤ 24) (hF9 : F < 65536)
    (hQ : ∀ (b f : Int) (m : MM) (x7 x8 x9 x10 : Option AV), RB N (lsF p.S n F) b f → (∀ q, m 243 q = p.S q) → FrN (cpM M 243 247 0 0 45) m → Wp E mX10_leastTow (kd 9) 269 [some (vr 238), some (vi (F : Int)), some (vi (n : Int)), some (vi k4), some (vi b), some (vi f), some (vi (K : Int)), x7, x8, x9, x10] [] N0 G0 m Q) :
    ∀ (j W : Nat) (z b f : Int) (m : MM) (x7 x8 x9 x10 : Option AV), z = (W : Int) → W + j = K → RB N (fo (stp p.S n F N) 0 W (16, fun _ => 0)) b f → (∀ q, m 243 q = p.S q) → FrN (cpM M 243 247 0 0 45) m → Wp E mX10_leastTow (kd 9) 65 [some (vr 238), some (vi (F : Int)), some (vi (n : Int)), some (vi k4), some (vi b), some (vi f), some (vi z), x7, x8, x9, x10] [] N0 G0 m Q := by
  intro j
  have h5 := hP.hs.n
  have hd := hP.hs.d
  have N5 : N ≤ 5 := by omega
  have p5 : K ≤ 1024 := hK ▸ Nat.le_trans (Nat.pow_le_pow_right (by decide) N5) (by decide)
  have ep : (2 ^ (2 * N) : Nat) = K := hK ▸ p42 N
  induction j with
  | zero =>
    intro W z b f m x7 x8 x9 x10 hz hW hR hm hF
    subst hz
    obtain rfl : W = K := by omega
    have a0 : m 247 0 = p.S 0 := by rw [as_at hF (by omega) (by omega), hI.S]
    refine w_iload dX10_leastTow_65 rfl ?_
    refine w_iconst dX10_leastTow_67 ?_
    refine w_iconst dX10_leastTow_68 ?_
    refine w_aload_n dX10_leastTow_69 rfl ?_
    refine w_getR (r := 247) dX10_leastTow_70 fl10_34 g0_238 (by decide) rfl ?_
    refine w_iconst dX10_leastTow_73 ?_
    refine r_ild dX10_leastTow_74 g0_247 (by decide) (by omega) (by omega) (by decide) (fun r74 => ?_)
    refine w_imul dX10_leastTow_75 ?_
    rw [show 2 * m 247 0 = ((2 * N : Nat) : Int) by omega]
    refine w_ibin (r := (W : Int)) dX10_leastTow_76 (Or.inr <| Or.inr <| Or.inr <| Or.inl ⟨rfl, by rw [← ep]; exact b_1shlN (by omega)⟩) ?_
    refine w_icmp_ge (tgt := 269) dX10_leastTow_77 (by decide) (by omega) (by omega) (fun h77 => ?_) (fun h77 => ?_)
    · exact hQ b f m x7 x8 x9 x10 (by unfold lsF; rw [← hN, ← hK]; exact hR) hm hF
    · exact absurd h77 (by omega)
  | succ j ih =>
    intro W z b f m x7 x8 x9 x10 hz hW hR hm hF
    subst hz
    have a0 : m 247 0 = p.S 0 := by rw [as_at hF (by omega) (by omega), hI.S]
    have sl := sm_le N W
    have wl := wtC_lt p.S n N W
    have fr : R32 f := by rcases hR with h | h <;> omega
    have br : RB N (fo (stp p.S n F N) 0 W (16, fun _ => 0)) b f := hR
    have back : ∀ (b2 f2 : Int) (m2 : MM) (T : SS) (s7 : Int) (bb : Bool) (z9 : Int) (x10 : Option AV), OUT T → (∀ q, m2 243 q = T q) → FrN (cpM M 243 247 0 0 45) m2 → RB N (stp p.S n F N W (fo (stp p.S n F N) 0 W (16, fun _ => 0))) b2 f2 → Wp E mX10_leastTow (kd 9) 259 [some (vr 238), some (vi (F : Int)), some (vi (n : Int)), some (vi k4), some (vi b2), some (vi f2), some (vi (W : Int)), some (vi s7), some (vi (bi bb)), some (vi z9), x10] [] N0 G0 m2 Q := by
      intro b2 f2 m2 T s7 bb z9 x10 oT hm2 hF2 hR2
      refine w_aload_n dX10_leastTow_259 rfl ?_
      refine cVv dX10_leastTow_260 ok_X10_backs lv10_178 c_X10_backs rfl (congrArg Prod.fst g0_238) (by decide) (by decide) rfl (by decide) (Nat.le_of_ble_eq_true rfl) ?_
      refine w_iinc dX10_leastTow_263 rfl (by decide) ?_
      refine w_goto (tgt := 65) dX10_leastTow_266 (by decide) ?_
      exact ih (W + 1) _ _ _ _ _ _ _ _ (by omega) (by omega) (by rw [fo, Nat.zero_add]; exact hR2) (OUT_kept (M := M) hP.hs.1 oT hm2 (fun q q0 q1 => by rw [as_at hF2 q0 q1, hI.S])) (fun i hi => by rw [cpM_cell hi]; exact hF2 i hi)
    have tail : ∀ (m1 : MM) (x10 : Option AV), (∀ q, m1 243 q = tsF p.S N W N q) → FrN m m1 → Wp E mX10_leastTow (kd 9) 191 [some (vr 238), some (vi (F : Int)), some (vi (n : Int)), some (vi k4), some (vi b), some (vi f), some (vi (W : Int)), some (vi ((smC N W : Nat) : Int)), some (vi (bi (myC p.S N W))), some (vi (N : Int)), x10] [] N0 G0 m1 Q := by
      intro m1 x10 hm1 hF1
      have hF1' := hF.trans hF1
      have oT := OUT_ts (N := N) (W := W) hP.hs.1 N N5
      have hT := SOK_ts (W := W) hP.hs.ok hN N (Nat.le_refl N)
      have t3 : tsF p.S N W N 3 = p.S 3 := ts_fell (by omega) N N5
      have t0 : tsF p.S N W N 0 = p.S 0 := ts_fell (by omega) N N5
      have no : ∀ hh : ¬ (myC p.S N W = true ∧ ((smC N W : Nat) : Int) < (fo (stp p.S n F N) 0 W (16, fun _ => 0)).1 ∧ F &&& wtC p.S n N W = F), RB N (stp p.S n F N W (fo (stp p.S n F N) 0 W (16, fun _ => 0))) b f := fun hh => by rw [stp_no hh]; exact br
      have ye : ∀ hh : (myC p.S N W = true ∧ ((smC N W : Nat) : Int) < (fo (stp p.S n F N) 0 W (16, fun _ => 0)).1 ∧ F &&& wtC p.S n N W = F), RB N (stp p.S n F N W (fo (stp p.S n F N) 0 W (16, fun _ => 0))) (W : Int) ((smC N W : Nat) : Int) := fun hh => by
        rw [stp_ye hh]
        exact Or.inr ⟨show ((smC N W : Nat) : Int) < 16 by omega, show 0 ≤ ((smC N W : Nat) : Int) by omega, rfl, W, by omega, rfl, rfl⟩
      refine w_iload dX10_leastTow_191 rfl ?_
      refine w_ifB_eq (tgt := 259) dX10_leastTow_193 (by decide) (fun h193 => ?_) (fun h193 => ?_)
      · first | (refine back _ _ _ _ _ _ _ _ oT hm1 hF1' (no ?_); intro w; exact Bool.noConfusion (w.1.symm.trans h193)) | (refine back _ _ _ _ _ _ _ _ oT hm1 hF1' (no ?_); intro w; rcases br with q | q <;> omega) | (exfalso; omega) | exact back _ _ _ _ _ _ _ _ oD hm2 hF2 (ye ⟨h193, by rcases br with q | q <;> omega, da.mp (by omega)⟩) | exact back _ _ _ _ _ _ _ _ oD hm2 hF2 (no (fun w => h221 (by rw [da.mpr w.2.2]; rfl)))
      · refine w_iload dX10_leastTow_196 rfl ?_
        refine w_ldc dX10_leastTow_198 co10_177 ?_
        refine w_icmp_eq (tgt := 210) dX10_leastTow_200 (by decide) (by omega) (by omega) (fun h200 => ?_) (fun h200 => ?_)
        · refine w_aload_n dX10_leastTow_210 rfl ?_
          refine w_iload_n dX10_leastTow_211 rfl ?_
          refine cVxv dX10_leastTow_212 ok_X10_goes lv10_174 (c_X10_goes (S := tsF p.S N W N) (n := (n : Int)) hm1 hT (by omega) (by omega) (by omega) (by omega)) rfl (congrArg Prod.fst g0_238) (by decide) (by decide) rfl (by decide) (Nat.le_of_ble_eq_true rfl) (fun m212 p212 => ?_)
          have hF2 := hF1'.trans p212.2
          have hm2 : ∀ q, m212 243 q = dysF (tsF p.S N W N) n q := p212.1
          have oD := OUT_dys (show tsF p.S N W N 0 ≤ 5 by omega) oT n
          have eD : setN 16 (fun g => decide (m212 243 (29 + (g : Int)) = m212 247 (29 + (g : Int)))) = setN 16 (fun g => decide ((wtC p.S n N W).testBit g = false)) := setN_congr (fun g hg => decide_eq_decide.mpr (by rw [hm2, as_at hF2 (by omega) (by omega), hI.S]; exact dry_towed hP.hs.ok hN hg))
          have da := dry_and (w := wtC p.S n N W) hF9
          have al : setN 16 (fun g => decide ((wtC p.S n N W).testBit g = false)) &&& F ≤ F := Nat.and_le_right
          refine w_aload_n dX10_leastTow_215 rfl ?_
          refine cVm dX10_leastTow_216 ok_X10_dryOnes lv10_181 c_X10_dryOnes rfl (congrArg Prod.fst g0_238) (by decide) (by decide) rfl (by decide) (Nat.le_of_ble_eq_true rfl) (fun r216 => ?_)
          rw [eD]
          refine w_iload_n dX10_leastTow_219 rfl ?_
          refine w_ibin (r := ((setN 16 (fun g => decide ((wtC p.S n N W).testBit g = false)) &&& F : Nat) : Int)) dX10_leastTow_220 (Or.inl ⟨rfl, b_and _ _⟩) ?_
          refine w_if_ne (tgt := 228) dX10_leastTow_221 (by decide) (by omega) (fun h221 => ?_) (fun h221 => ?_)
          · refine w_iconst dX10_leastTow_228 ?_
            refine w_istore dX10_leastTow_229 (by decide) ?_
            refine w_iload dX10_leastTow_231 rfl ?_
            refine w_if_eq (tgt := 241) dX10_leastTow_233 (by decide) (by omega) (fun h233 => ?_) (fun h233 => ?_)
            · refine w_iload dX10_leastTow_241 rfl ?_
              refine w_istore dX10_leastTow_243 (by decide) ?_
              refine w_iload dX10_leastTow_245 rfl ?_
              refine w_if_eq (tgt := 255) dX10_leastTow_247 (by decide) (by omega) (fun h247 => ?_) (fun h247 => ?_)
              · refine w_iload dX10_leastTow_255 rfl ?_
                refine w_istore dX10_leastTow_257 (by decide) ?_
                first | (refine back _ _ _ _ _ _ _ _ oT hm1 hF1' (no ?_); intro w; exact Bool.noConfusion (w.1.symm.trans h193)) | (refine back _ _ _ _ _ _ _ _ oT hm1 hF1' (no ?_); intro w; rcases br with q | q <;> omega) | (exfalso; omega) | exact back _ _ _ _ _ _ _ _ oD hm2 hF2 (ye ⟨h193, by rcases br with q | q <;> omega, da.mp (by omega)⟩) | exact back _ _ _ _ _ _ _ _ oD hm2 hF2 (no (fun w => h221 (by rw [da.mpr w.2.2]; rfl)))
              · refine w_iload dX10_leastTow_250 rfl ?_
                refine w_goto (tgt := 257) dX10_leastTow_252 (by decide) ?_
                refine w_istore dX10_leastTow_257 (by decide) ?_
                first | (refine back _ _ _ _ _ _ _ _ oT hm1 hF1' (no ?_); intro w; exact Bool.noConfusion (w.1.symm.trans h193)) | (refine back _ _ _ _ _ _ _ _ oT hm1 hF1' (no ?_); intro w; rcases br with q | q <;> omega) | (exfalso; omega) | exact back _ _ _ _ _ _ _ _ oD hm2 hF2 (ye ⟨h193, by rcases br with q | q <;> omega, da.mp (by omega)⟩) | exact back _ _ _ _ _ _ _ _ oD hm2 hF2 (no (fun w => h221 (by rw [da.mpr w.2.2]; rfl)))
            · refine w_iload dX10_leastTow_236 rfl ?_
              refine w_goto (tgt := 243) dX10_leastTow_238 (by decide) ?_
              refine w_istore dX10_leastTow_243 (by decide) ?_
              refine w_iload dX10_leastTow_245 rfl ?_
              refine w_if_eq (tgt := 255) dX10_leastTow_247 (by decide) (by omega) (fun h247 => ?_) (fun h247 => ?_)
              · refine w_iload dX10_leastTow_255 rfl ?_
                refine w_istore dX10_leastTow_257 (by decide) ?_
                first | (refine back _ _ _ _ _ _ _ _ oT hm1 hF1' (no ?_); intro w; exact Bool.noConfusion (w.1.symm.trans h193)) | (refine back _ _ _ _ _ _ _ _ oT hm1 hF1' (no ?_); intro w; rcases br with q | q <;> omega) | (exfalso; omega) | exact back _ _ _ _ _ _ _ _ oD hm2 hF2 (ye ⟨h193, by rcases br with q | q <;> omega, da.mp (by omega)⟩) | exact back _ _ _ _ _ _ _ _ oD hm2 hF2 (no (fun w => h221 (by rw [da.mpr w.2.2]; rfl)))
              · refine w_iload dX10_leastTow_250 rfl ?_
                refine w_goto (tgt := 257) dX10_leastTow_252 (by decide) ?_
                refine w_istore dX10_leastTow_257 (by decide) ?_
                first | (refine back _ _ _ _ _ _ _ _ oT hm1 hF1' (no ?_); intro w; exact Bool.noConfusion (w.1.symm.trans h193)) | (refine back _ _ _ _ _ _ _ _ oT hm1 hF1' (no ?_); intro w; rcases br with q | q <;> omega) | (exfalso; omega) | exact back _ _ _ _ _ _ _ _ oD hm2 hF2 (ye ⟨h193, by rcases br with q | q <;> omega, da.mp (by omega)⟩) | exact back _ _ _ _ _ _ _ _ oD hm2 hF2 (no (fun w => h221 (by rw [da.mpr w.2.2]; rfl)))
          · refine w_iconst dX10_leastTow_224 ?_
            refine w_goto (tgt := 229) dX10_leastTow_225 (by decide) ?_
            refine w_istore dX10_leastTow_229 (by decide) ?_
            refine w_iload dX10_leastTow_231 rfl ?_
            refine w_if_eq (tgt := 241) dX10_leastTow_233 (by decide) (by omega) (fun h233 => ?_) (fun h233 => ?_)
            · refine w_iload dX10_leastTow_241 rfl ?_
              refine w_istore dX10_leastTow_243 (by decide) ?_
              refine w_iload dX10_leastTow_245 rfl ?_
              refine w_if_eq (tgt := 255) dX10_leastTow_247 (by decide) (by omega) (fun h247 => ?_) (fun h247 => ?_)
              · refine w_iload dX10_leastTow_255 rfl ?_
                refine w_istore dX10_leastTow_257 (by decide) ?_
                first | (refine back _ _ _ _ _ _ _ _ oT hm1 hF1' (no ?_); intro w; exact Bool.noConfusion (w.1.symm.trans h193)) | (refine back _ _ _ _ _ _ _ _ oT hm1 hF1' (no ?_); intro w; rcases br with q | q <;> omega) | (exfalso; omega) | exact back _ _ _ _ _ _ _ _ oD hm2 hF2 (ye ⟨h193, by rcases br with q | q <;> omega, da.mp (by omega)⟩) | exact back _ _ _ _ _ _ _ _ oD hm2 hF2 (no (fun w => h221 (by rw [da.mpr w.2.2]; rfl)))
              · refine w_iload dX10_leastTow_250 rfl ?_
                refine w_goto (tgt := 257) dX10_leastTow_252 (by decide) ?_
                refine w_istore dX10_leastTow_257 (by decide) ?_
                first | (refine back _ _ _ _ _ _ _ _ oT hm1 hF1' (no ?_); intro w; exact Bool.noConfusion (w.1.symm.trans h193)) | (refine back _ _ _ _ _ _ _ _ oT hm1 hF1' (no ?_); intro w; rcases br with q | q <;> omega) | (exfalso; omega) | exact back _ _ _ _ _ _ _ _ oD hm2 hF2 (ye ⟨h193, by rcases br with q | q <;> omega, da.mp (by omega)⟩) | exact back _ _ _ _ _ _ _ _ oD hm2 hF2 (no (fun w => h221 (by rw [da.mpr w.2.2]; rfl)))
            · refine w_iload dX10_leastTow_236 rfl ?_
              refine w_goto (tgt := 243) dX10_leastTow_238 (by decide) ?_
              refine w_istore dX10_leastTow_243 (by decide) ?_
              refine w_iload dX10_leastTow_245 rfl ?_
              refine w_if_eq (tgt := 255) dX10_leastTow_247 (by decide) (by omega) (fun h247 => ?_) (fun h247 => ?_)
              · refine w_iload dX10_leastTow_255 rfl ?_
                refine w_istore dX10_leastTow_257 (by decide) ?_
                first | (refine back _ _ _ _ _ _ _ _ oT hm1 hF1' (no ?_); intro w; exact Bool.noConfusion (w.1.symm.trans h193)) | (refine back _ _ _ _ _ _ _ _ oT hm1 hF1' (no ?_); intro w; rcases br with q | q <;> omega) | (exfalso; omega) | exact back _ _ _ _ _ _ _ _ oD hm2 hF2 (ye ⟨h193, by rcases br with q | q <;> omega, da.mp (by omega)⟩) | exact back _ _ _ _ _ _ _ _ oD hm2 hF2 (no (fun w => h221 (by rw [da.mpr w.2.2]; rfl)))
              · refine w_iload dX10_leastTow_250 rfl ?_
                refine w_goto (tgt := 257) dX10_leastTow_252 (by decide) ?_
                refine w_istore dX10_leastTow_257 (by decide) ?_
                first | (refine back _ _ _ _ _ _ _ _ oT hm1 hF1' (no ?_); intro w; exact Bool.noConfusion (w.1.symm.trans h193)) | (refine back _ _ _ _ _ _ _ _ oT hm1 hF1' (no ?_); intro w; rcases br with q | q <;> omega) | (exfalso; omega) | exact back _ _ _ _ _ _ _ _ oD hm2 hF2 (ye ⟨h193, by rcases br with q | q <;> omega, da.mp (by omega)⟩) | exact back _ _ _ _ _ _ _ _ oD hm2 hF2 (no (fun w => h221 (by rw [da.mpr w.2.2]; rfl)))
        · refine w_iload dX10_leastTow_203 rfl ?_
          refine w_iload dX10_leastTow_205 rfl ?_
          refine w_icmp_ge (tgt := 259) dX10_leastTow_207 (by decide) (by omega) (by omega) (fun h207 => ?_) (fun h207 => ?_)
          · first | (refine back _ _ _ _ _ _ _ _ oT hm1 hF1' (no ?_); intro w; exact Bool.noConfusion (w.1.symm.trans h193)) | (refine back _ _ _ _ _ _ _ _ oT hm1 hF1' (no ?_); intro w; rcases br with q | q <;> omega) | (exfalso; omega) | exact back _ _ _ _ _ _ _ _ oD hm2 hF2 (ye ⟨h193, by rcases br with q | q <;> omega, da.mp (by omega)⟩) | exact back _ _ _ _ _ _ _ _ oD hm2 hF2 (no (fun w => h221 (by rw [da.mpr w.2.2]; rfl)))
          · refine w_aload_n dX10_leastTow_210 rfl ?_
            refine w_iload_n dX10_leastTow_211 rfl ?_
            refine cVxv dX10_leastTow_212 ok_X10_goes lv10_174 (c_X10_goes (S := tsF p.S N W N) (n := (n : Int)) hm1 hT (by omega) (by omega) (by omega) (by omega)) rfl (congrArg Prod.fst g0_238) (by decide) (by decide) rfl (by decide) (Nat.le_of_ble_eq_true rfl) (fun m212 p212 => ?_)
            have hF2 := hF1'.trans p212.2
            have hm2 : ∀ q, m212 243 q = dysF (tsF p.S N W N) n q := p212.1
            have oD := OUT_dys (show tsF p.S N W N 0 ≤ 5 by omega) oT n
            have eD : setN 16 (fun g => decide (m212 243 (29 + (g : Int)) = m212 247 (29 + (g : Int)))) = setN 16 (fun g => decide ((wtC p.S n N W).testBit g = false)) := setN_congr (fun g hg => decide_eq_decide.mpr (by rw [hm2, as_at hF2 (by omega) (by omega), hI.S]; exact dry_towed hP.hs.ok hN hg))
            have da := dry_and (w := wtC p.S n N W) hF9
            have al : setN 16 (fun g => decide ((wtC p.S n N W).testBit g = false)) &&& F ≤ F := Nat.and_le_right
            refine w_aload_n dX10_leastTow_215 rfl ?_
            refine cVm dX10_leastTow_216 ok_X10_dryOnes lv10_181 c_X10_dryOnes rfl (congrArg Prod.fst g0_238) (by decide) (by decide) rfl (by decide) (Nat.le_of_ble_eq_true rfl) (fun r216 => ?_)
            rw [eD]
            refine w_iload_n dX10_leastTow_219 rfl ?_
            refine w_ibin (r := ((setN 16 (fun g => decide ((wtC p.S n N W).testBit g = false)) &&& F : Nat) : Int)) dX10_leastTow_220 (Or.inl ⟨rfl, b_and _ _⟩) ?_
            refine w_if_ne (tgt := 228) dX10_leastTow_221 (by decide) (by omega) (fun h221 => ?_) (fun h221 => ?_)
            · refine w_iconst dX10_leastTow_228 ?_
              refine w_istore dX10_leastTow_229 (by decide) ?_
              refine w_iload dX10_leastTow_231 rfl ?_
              refine w_if_eq (tgt := 241) dX10_leastTow_233 (by decide) (by omega) (fun h233 => ?_) (fun h233 => ?_)
              · refine w_iload dX10_leastTow_241 rfl ?_
                refine w_istore dX10_leastTow_243 (by decide) ?_
                refine w_iload dX10_leastTow_245 rfl ?_
                refine w_if_eq (tgt := 255) dX10_leastTow_247 (by decide) (by omega) (fun h247 => ?_) (fun h247 => ?_)
                · refine w_iload dX10_leastTow_255 rfl ?_
                  refine w_istore dX10_leastTow_257 (by decide) ?_
                  first | (refine back _ _ _ _ _ _ _ _ oT hm1 hF1' (no ?_); intro w; exact Bool.noConfusion (w.1.symm.trans h193)) | (refine back _ _ _ _ _ _ _ _ oT hm1 hF1' (no ?_); intro w; rcases br with q | q <;> omega) | (exfalso; omega) | exact back _ _ _ _ _ _ _ _ oD hm2 hF2 (ye ⟨h193, by rcases br with q | q <;> omega, da.mp (by omega)⟩) | exact back _ _ _ _ _ _ _ _ oD hm2 hF2 (no (fun w => h221 (by rw [da.mpr w.2.2]; rfl)))
                · refine w_iload dX10_leastTow_250 rfl ?_
                  refine w_goto (tgt := 257) dX10_leastTow_252 (by decide) ?_
                  refine w_istore dX10_leastTow_257 (by decide) ?_
                  first | (refine back _ _ _ _ _ _ _ _ oT hm1 hF1' (no ?_); intro w; exact Bool.noConfusion (w.1.symm.trans h193)) | (refine back _ _ _ _ _ _ _ _ oT hm1 hF1' (no ?_); intro w; rcases br with q | q <;> omega) | (exfalso; omega) | exact back _ _ _ _ _ _ _ _ oD hm2 hF2 (ye ⟨h193, by rcases br with q | q <;> omega, da.mp (by omega)⟩) | exact back _ _ _ _ _ _ _ _ oD hm2 hF2 (no (fun w => h221 (by rw [da.mpr w.2.2]; rfl)))
              · refine w_iload dX10_leastTow_236 rfl ?_
                refine w_goto (tgt := 243) dX10_leastTow_238 (by decide) ?_
                refine w_istore dX10_leastTow_243 (by decide) ?_
                refine w_iload dX10_leastTow_245 rfl ?_
                refine w_if_eq (tgt := 255) dX10_leastTow_247 (by decide) (by omega) (fun h247 => ?_) (fun h247 => ?_)
                · refine w_iload dX10_leastTow_255 rfl ?_
                  refine w_istore dX10_leastTow_257 (by decide) ?_
                  first | (refine back _ _ _ _ _ _ _ _ oT hm1 hF1' (no ?_); intro w; exact Bool.noConfusion (w.1.symm.trans h193)) | (refine back _ _ _ _ _ _ _ _ oT hm1 hF1' (no ?_); intro w; rcases br with q | q <;> omega) | (exfalso; omega) | exact back _ _ _ _ _ _ _ _ oD hm2 hF2 (ye ⟨h193, by rcases br with q | q <;> omega, da.mp (by omega)⟩) | exact back _ _ _ _ _ _ _ _ oD hm2 hF2 (no (fun w => h221 (by rw [da.mpr w.2.2]; rfl)))
                · refine w_iload dX10_leastTow_250 rfl ?_
                  refine w_goto (tgt := 257) dX10_leastTow_252 (by decide) ?_
                  refine w_istore dX10_leastTow_257 (by decide) ?_
                  first | (refine back _ _ _ _ _ _ _ _ oT hm1 hF1' (no ?_); intro w; exact Bool.noConfusion (w.1.symm.trans h193)) | (refine back _ _ _ _ _ _ _ _ oT hm1 hF1' (no ?_); intro w; rcases br with q | q <;> omega) | (exfalso; omega) | exact back _ _ _ _ _ _ _ _ oD hm2 hF2 (ye ⟨h193, by rcases br with q | q <;> omega, da.mp (by omega)⟩) | exact back _ _ _ _ _ _ _ _ oD hm2 hF2 (no (fun w => h221 (by rw [da.mpr w.2.2]; rfl)))
            · refine w_iconst dX10_leastTow_224 ?_
              refine w_goto (tgt := 229) dX10_leastTow_225 (by decide) ?_
              refine w_istore dX10_leastTow_229 (by decide) ?_
              refine w_iload dX10_leastTow_231 rfl ?_
              refine w_if_eq (tgt := 241) dX10_leastTow_233 (by decide) (by omega) (fun h233 => ?_) (fun h233 => ?_)
              · refine w_iload dX10_leastTow_241 rfl ?_
                refine w_istore dX10_leastTow_243 (by decide) ?_
                refine w_iload dX10_leastTow_245 rfl ?_
                refine w_if_eq (tgt := 255) dX10_leastTow_247 (by decide) (by omega) (fun h247 => ?_) (fun h247 => ?_)
                · refine w_iload dX10_leastTow_255 rfl ?_
                  refine w_istore dX10_leastTow_257 (by decide) ?_
                  first | (refine back _ _ _ _ _ _ _ _ oT hm1 hF1' (no ?_); intro w; exact Bool.noConfusion (w.1.symm.trans h193)) | (refine back _ _ _ _ _ _ _ _ oT hm1 hF1' (no ?_); intro w; rcases br with q | q <;> omega) | (exfalso; omega) | exact back _ _ _ _ _ _ _ _ oD hm2 hF2 (ye ⟨h193, by rcases br with q | q <;> omega, da.mp (by omega)⟩) | exact back _ _ _ _ _ _ _ _ oD hm2 hF2 (no (fun w => h221 (by rw [da.mpr w.2.2]; rfl)))
                · refine w_iload dX10_leastTow_250 rfl ?_
                  refine w_goto (tgt := 257) dX10_leastTow_252 (by decide) ?_
                  refine w_istore dX10_leastTow_257 (by decide) ?_
                  first | (refine back _ _ _ _ _ _ _ _ oT hm1 hF1' (no ?_); intro w; exact Bool.noConfusion (w.1.symm.trans h193)) | (refine back _ _ _ _ _ _ _ _ oT hm1 hF1' (no ?_); intro w; rcases br with q | q <;> omega) | (exfalso; omega) | exact back _ _ _ _ _ _ _ _ oD hm2 hF2 (ye ⟨h193, by rcases br with q | q <;> omega, da.mp (by omega)⟩) | exact back _ _ _ _ _ _ _ _ oD hm2 hF2 (no (fun w => h221 (by rw [da.mpr w.2.2]; rfl)))
              · refine w_iload dX10_leastTow_236 rfl ?_
                refine w_goto (tgt := 243) dX10_leastTow_238 (by decide) ?_
                refine w_istore dX10_leastTow_243 (by decide) ?_
                refine w_iload dX10_leastTow_245 rfl ?_
                refine w_if_eq (tgt := 255) dX10_leastTow_247 (by decide) (by omega) (fun h247 => ?_) (fun h247 => ?_)
                · refine w_iload dX10_leastTow_255 rfl ?_
                  refine w_istore dX10_leastTow_257 (by decide) ?_
                  first | (refine back _ _ _ _ _ _ _ _ oT hm1 hF1' (no ?_); intro w; exact Bool.noConfusion (w.1.symm.trans h193)) | (refine back _ _ _ _ _ _ _ _ oT hm1 hF1' (no ?_); intro w; rcases br with q | q <;> omega) | (exfalso; omega) | exact back _ _ _ _ _ _ _ _ oD hm2 hF2 (ye ⟨h193, by rcases br with q | q <;> omega, da.mp (by omega)⟩) | exact back _ _ _ _ _ _ _ _ oD hm2 hF2 (no (fun w => h221 (by rw [da.mpr w.2.2]; rfl)))
                · refine w_iload dX10_leastTow_250 rfl ?_
                  refine w_goto (tgt := 257) dX10_leastTow_252 (by decide) ?_
                  refine w_istore dX10_leastTow_257 (by decide) ?_
                  first | (refine back _ _ _ _ _ _ _ _ oT hm1 hF1' (no ?_); intro w; exact Bool.noConfusion (w.1.symm.trans h193)) | (refine back _ _ _ _ _ _ _ _ oT hm1 hF1' (no ?_); intro w; rcases br with q | q <;> omega) | (exfalso; omega) | exact back _ _ _ _ _ _ _ _ oD hm2 hF2 (ye ⟨h193, by rcases br with q | q <;> omega, da.mp (by omega)⟩) | exact back _ _ _ _ _ _ _ _ oD hm2 hF2 (no (fun w => h221 (by rw [da.mpr w.2.2]; rfl)))
    refine w_iload dX10_leastTow_65 rfl ?_
    refine w_iconst dX10_leastTow_67 ?_
    refine w_iconst dX10_leastTow_68 ?_
    refine w_aload_n dX10_leastTow_69 rfl ?_
    refine w_getR (r := 247) dX10_leastTow_70 fl10_34 g0_238 (by decide) rfl ?_
    refine w_iconst dX10_leastTow_73 ?_
    refine r_ild dX10_leastTow_74 g0_247 (by decide) (by omega) (by omega) (by decide) (fun r74 => ?_)
    refine w_imul dX10_leastTow_75 ?_
    rw [show 2 * m 247 0 = ((2 * N : Nat) : Int) by omega]
    refine w_ibin (r := (K : Int)) dX10_leastTow_76 (Or.inr <| Or.inr <| Or.inr <| Or.inl ⟨rfl, by rw [← ep]; exact b_1shlN (by omega)⟩) ?_
    refine w_icmp_ge (tgt := 269) dX10_leastTow_77 (by decide) (by omega) (by omega) (fun h77 => ?_) (fun h77 => ?_)
    · exact absurd h77 (by omega)
    · refine w_iconst dX10_leastTow_80 ?_
      refine w_istore dX10_leastTow_81 (by decide) ?_
      refine w_iconst dX10_leastTow_83 ?_
      refine w_istore dX10_leastTow_84 (by decide) ?_
      refine w_iconst dX10_leastTow_86 ?_
      refine w_istore dX10_leastTow_87 (by decide) ?_
      exact l_X10_towIn hP.hs.ok hN (by omega) tail N 0 _ _ _ _ _ rfl rfl rfl (by omega) hm (fun i _ => rfl)
