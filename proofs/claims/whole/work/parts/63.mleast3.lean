/-! ===== the reference: leastTow, its answer ===== -/
theorem t_X10_leastTow {E : EV} {M m : MM} {p : PS} {k b f f1 n1 w : Int} {N : Nat} {x : LB} {x7 x8 x9 x10 : Option AV} {r : Int × PS} (hI : MI M p) (hP : POK p) (hN : N = (p.S 0).toNat) (h0 : p.S 0 ≠ 0) (k0 : -1 ≤ k) (k1 : k ≤ p.S 0 - 1) (hR : RB N x b f) (hm : ∀ q, m 243 q = p.S q) (hF : FrN (cpM M 243 247 0 0 45) m)
    (hr : r = ((if x.1 = 16 then -1000000 else if k < 0 then x.1 else x.2 k), p)) : Wp E mX10_leastTow (kd 9) 269 [some (vr 238), some (vi f1), some (vi n1), some (vi k), some (vi b), some (vi f), some (vi w), x7, x8, x9, x10] [] N0 G0 m (Px (KM M r)) := by
  have hn := hP.hs.n
  have N5 : N ≤ 5 := by omega
  have kk : MI m p ∧ Lo M m := by
    refine ⟨hI.same (fun j a b c d => ?_) (fun k _ => by rw [hF 238 (by omega), cpM_cell (by omega)]), fun j hj => by rw [hF j (by omega), cpM_cell (by omega)]⟩
    by_cases e : j = 243
    · rw [e, hI.S]; exact funext hm
    · rw [hF j e, cpM_cell (by omega)]
  have e0 : m 243 0 = p.S 0 := hm 0
  have fr : R32 f := by rcases hR with h | h <;> omega
  have fin : ∀ z, z = (if x.1 = 16 then (-1000000 : Int) else if k < 0 then x.1 else x.2 k) → KM M r z m := fun z hz => by rw [hr, ← hz]; exact ⟨rfl, kk.1, kk.2⟩
  rcases hR with ⟨a1, a2⟩ | ⟨a1, a2, a3, W, W1, a4, a5⟩
  · skip
    refine w_iload_n dX10_leastTow_269 rfl ?_
    refine w_if_lt (tgt := 280) dX10_leastTow_270 (by decide) (by omega) (fun h270 => ?_) (fun h270 => ?_)
    · refine w_iload dX10_leastTow_280 rfl ?_
      refine w_goto (tgt := 302) dX10_leastTow_282 (by decide) ?_
      refine w_iret dX10_leastTow_302 rfl (by omega) ?_ ⟨Nat.le_refl _, Nat.le_refl _⟩
      exact (q_x (fin _ (by rw [if_pos a1]; exact a2)))
    · refine w_iload dX10_leastTow_273 rfl ?_
      refine w_ldc dX10_leastTow_275 co10_177 ?_
      refine w_icmp_ne (tgt := 285) dX10_leastTow_277 (by decide) (by omega) (by omega) (fun h277 => ?_) (fun h277 => ?_)
      · exact absurd h277 (by omega)
      · refine w_iload dX10_leastTow_280 rfl ?_
        refine w_goto (tgt := 302) dX10_leastTow_282 (by decide) ?_
        refine w_iret dX10_leastTow_302 rfl (by omega) ?_ ⟨Nat.le_refl _, Nat.le_refl _⟩
        exact (q_x (fin _ (by rw [if_pos a1]; exact a2)))
  · subst a4
    have nb : 0 ≤ k → ∃ c : Nat, k = (c : Int) ∧ c < N ∧ 2 * (m 243 0 - 1 - (c : Int)) = ((2 * (N - 1 - c) : Nat) : Int) := fun h => ⟨k.toNat, by omega, by omega, by omega⟩
    refine w_iload_n dX10_leastTow_269 rfl ?_
    refine w_if_lt (tgt := 280) dX10_leastTow_270 (by decide) (by omega) (fun h270 => ?_) (fun h270 => ?_)
    · refine w_iload dX10_leastTow_280 rfl ?_
      refine w_goto (tgt := 302) dX10_leastTow_282 (by decide) ?_
      refine w_iret dX10_leastTow_302 rfl (by omega) ?_ ⟨Nat.le_refl _, Nat.le_refl _⟩
      first | (refine q_x (fin _ ?_); rw [if_neg (by omega), if_pos (by omega)]; exact a3) | (refine q_x (fin _ ?_); rw [if_neg (by omega), if_neg (by omega), a5]; have w9 := wy_pre (N := N) (W := W) N (Nat.le_refl N) c hc; rw [Nat.sub_self, Nat.pow_zero, Nat.div_one] at w9; exact w9.symm) | (exfalso; omega)
    · refine w_iload dX10_leastTow_273 rfl ?_
      refine w_ldc dX10_leastTow_275 co10_177 ?_
      refine w_icmp_ne (tgt := 285) dX10_leastTow_277 (by decide) (by omega) (by omega) (fun h277 => ?_) (fun h277 => ?_)
      · obtain ⟨c, rfl, hc, e9⟩ := nb (by omega)
        have es : (W / 2 ^ (2 * (N - 1 - c)) : Nat) = W / 4 ^ (N - 1 - c) := (by rw [p42])
        have ed : ((W / 4 ^ (N - 1 - c) : Nat) : Int) % 4 = ((dgt N W c : Nat) : Int) := (by unfold dgt; omega)
        have dW : W / 4 ^ (N - 1 - c) ≤ W := Nat.div_le_self _ _
        have dl := dgt_lt N W c
        refine w_iload dX10_leastTow_285 rfl ?_
        refine w_iconst dX10_leastTow_287 ?_
        refine w_aload_n dX10_leastTow_288 rfl ?_
        refine w_getR (r := 243) dX10_leastTow_289 fl10_22 g0_238 (by decide) rfl ?_
        refine w_iconst dX10_leastTow_292 ?_
        refine r_ild dX10_leastTow_293 g0_243 (by decide) (by omega) (by omega) (by decide) (fun r293 => ?_)
        refine w_iconst dX10_leastTow_294 ?_
        refine w_isub dX10_leastTow_295 ?_
        refine w_iload_n dX10_leastTow_296 rfl ?_
        refine w_isub dX10_leastTow_297 ?_
        refine w_imul dX10_leastTow_298 ?_
        rw [e9]
        refine w_ibin (r := ((W / 4 ^ (N - 1 - c) : Nat) : Int)) dX10_leastTow_299 (Or.inr <| Or.inr <| Or.inr <| Or.inr <| Or.inl ⟨rfl, by rw [← es]; exact b_shr (by omega) (by omega)⟩) ?_
        refine w_iconst dX10_leastTow_300 ?_
        refine w_ibin (r := ((dgt N W c : Nat) : Int)) dX10_leastTow_301 (Or.inl ⟨rfl, by rw [← ed]; exact b_m3 _⟩) ?_
        refine w_iret dX10_leastTow_302 rfl (by omega) ?_ ⟨Nat.le_refl _, Nat.le_refl _⟩
        first | (refine q_x (fin _ ?_); rw [if_neg (by omega), if_pos (by omega)]; exact a3) | (refine q_x (fin _ ?_); rw [if_neg (by omega), if_neg (by omega), a5]; have w9 := wy_pre (N := N) (W := W) N (Nat.le_refl N) c hc; rw [Nat.sub_self, Nat.pow_zero, Nat.div_one] at w9; exact w9.symm) | (exfalso; omega)
      · refine w_iload dX10_leastTow_280 rfl ?_
        refine w_goto (tgt := 302) dX10_leastTow_282 (by decide) ?_
        refine w_iret dX10_leastTow_302 rfl (by omega) ?_ ⟨Nat.le_refl _, Nat.le_refl _⟩
        first | (refine q_x (fin _ ?_); rw [if_neg (by omega), if_pos (by omega)]; exact a3) | (refine q_x (fin _ ?_); rw [if_neg (by omega), if_neg (by omega), a5]; have w9 := wy_pre (N := N) (W := W) N (Nat.le_refl N) c hc; rw [Nat.sub_self, Nat.pow_zero, Nat.div_one] at w9; exact w9.symm) | (exfalso; omega)
theorem c_X10_leastTow {E : EV} {M : MM} {p : PS} {f n k : Int} (hI : MI M p) (hP : POK p) (hf : R32 f) (hn9 : R32 n) (hk : R32 k) : Cx E mX10_leastTow 9 [vr 238, vi f, vi n, vi k] M (KM M (lstR p f n k)) := by
  refine Ct.of [some (vr 238), some (vi f), some (vi n), some (vi k), none, none, none, none, none, none, none] rfl rfl rfl (Nat.le_of_ble_eq_true rfl) ?_
  have hn := hP.hs.n
  have hd := hP.hs.d
  have e0 := hI.sq 0
  have hs := hI.sn
  refine w_aload_n dX10_leastTow_0 rfl ?_
  refine r_getI (q := 13) dX10_leastTow_1 fl10_117 g0_238 (by decide) rfl (by decide) rfl (fun r1 => ?_)
  refine w_if_ne (tgt := 10) dX10_leastTow_4 (by decide) (by omega) (fun h4 => ?_) (fun h4 => ?_)
  · refine w_iload_n dX10_leastTow_10 rfl ?_
    refine w_i2l dX10_leastTow_11 (by omega) ?_
    refine w_lconst0 dX10_leastTow_12 ?_
    refine w_ldc2 dX10_leastTow_13 cl10_184 ?_
    refine cSm dX10_leastTow_16 ok_X10_in (Or.inl ls10_50) (c_X10_in (by omega) (by omega) (by omega)) rfl  rfl (by decide) (Nat.le_of_ble_eq_true rfl) (fun r16 => ?_)
    refine w_ifB_eq (tgt := 47) dX10_leastTow_19 (by decide) (fun h19 => ?_) (fun h19 => ?_)
    · (first | replace h19 := of_decide_eq_true h19 | replace h19 := of_decide_eq_false h19 | skip)
      refine w_ldc dX10_leastTow_47 co10_60 ?_
      refine w_iret dX10_leastTow_49 rfl (by omega) ?_ ⟨Nat.le_refl _, Nat.le_refl _⟩
      exact (q_x (KM.stay hI (by unfold lstR; ((repeat (first | rw [if_pos (by omega)] | rw [if_neg (by omega)])) <;> rfl))))
    · (first | replace h19 := of_decide_eq_true h19 | replace h19 := of_decide_eq_false h19 | skip)
      refine w_iload_n dX10_leastTow_22 rfl ?_
      refine w_i2l dX10_leastTow_23 (by omega) ?_
      refine w_lconst1 dX10_leastTow_24 ?_
      refine w_ldc2 dX10_leastTow_25 cl10_145 ?_
      refine cSm dX10_leastTow_28 ok_X10_in (Or.inl ls10_50) (c_X10_in (by omega) (by omega) (by omega)) rfl  rfl (by decide) (Nat.le_of_ble_eq_true rfl) (fun r28 => ?_)
      refine w_ifB_eq (tgt := 47) dX10_leastTow_31 (by decide) (fun h31 => ?_) (fun h31 => ?_)
      · (first | replace h31 := of_decide_eq_true h31 | replace h31 := of_decide_eq_false h31 | skip)
        refine w_ldc dX10_leastTow_47 co10_60 ?_
        refine w_iret dX10_leastTow_49 rfl (by omega) ?_ ⟨Nat.le_refl _, Nat.le_refl _⟩
        exact (q_x (KM.stay hI (by unfold lstR; ((repeat (first | rw [if_pos (by omega)] | rw [if_neg (by omega)])) <;> rfl))))
      · (first | replace h31 := of_decide_eq_true h31 | replace h31 := of_decide_eq_false h31 | skip)
        refine w_iload_n dX10_leastTow_34 rfl ?_
        refine w_iconst dX10_leastTow_35 ?_
        refine w_icmp_eq (tgt := 50) dX10_leastTow_36 (by decide) (by omega) (by omega) (fun h36 => ?_) (fun h36 => ?_)
        · obtain ⟨g, rfl⟩ : ∃ g : Nat, f = g := ⟨f.toNat, by omega⟩
          obtain ⟨h, rfl⟩ : ∃ h : Nat, n = h := ⟨n.toNat, by omega⟩
          refine w_aload_n dX10_leastTow_50 rfl ?_
          refine cVv dX10_leastTow_51 ok_X10_asides lv10_171 c_X10_asides rfl (congrArg Prod.fst g0_238) (by decide) (by decide) rfl (by decide) (Nat.le_of_ble_eq_true rfl) ?_
          refine w_ldc dX10_leastTow_54 co10_177 ?_
          refine w_istore dX10_leastTow_56 (by decide) ?_
          refine w_ldc dX10_leastTow_58 co10_177 ?_
          refine w_istore dX10_leastTow_60 (by decide) ?_
          refine w_iconst dX10_leastTow_62 ?_
          refine w_istore dX10_leastTow_63 (by decide) ?_
          exact l_X10_leastTow (N := (p.S 0).toNat) (K := 4 ^ (p.S 0).toNat) rfl hI hP rfl (by omega) (by omega) (fun b f m x7 x8 x9 x10 hR hm hF => t_X10_leastTow hI hP rfl (by omega) (by omega) (by omega) hR hm hF (by unfold lstR; rw [if_neg (by omega), if_pos (by omega), Int.toNat_natCast, Int.toNat_natCast])) (4 ^ (p.S 0).toNat) 0 _ _ _ _ _ _ _ _ rfl (by omega) (Or.inl ⟨rfl, rfl⟩) (fun q => by rw [FrN.as, hI.S]) (fun i _ => rfl)
        · refine w_aload_n dX10_leastTow_39 rfl ?_
          refine w_iload_n dX10_leastTow_40 rfl ?_
          refine cVm dX10_leastTow_41 ok_X10_isCloud lv10_156 (c_X10_isCloud (by omega) (by omega)) rfl (congrArg Prod.fst g0_238) (by decide) (by decide) rfl (by decide) (Nat.le_of_ble_eq_true rfl) (fun r41 => ?_)
          refine w_ifB_ne (tgt := 50) dX10_leastTow_44 (by decide) (fun h44 => ?_) (fun h44 => ?_)
          · (first | replace h44 := of_decide_eq_true h44 | replace h44 := of_decide_eq_false h44 | skip)
            obtain ⟨g, rfl⟩ : ∃ g : Nat, f = g := ⟨f.toNat, by omega⟩
            obtain ⟨h, rfl⟩ : ∃ h : Nat, n = h := ⟨n.toNat, by omega⟩
            refine w_aload_n dX10_leastTow_50 rfl ?_
            refine cVv dX10_leastTow_51 ok_X10_asides lv10_171 c_X10_asides rfl (congrArg Prod.fst g0_238) (by decide) (by decide) rfl (by decide) (Nat.le_of_ble_eq_true rfl) ?_
            refine w_ldc dX10_leastTow_54 co10_177 ?_
            refine w_istore dX10_leastTow_56 (by decide) ?_
            refine w_ldc dX10_leastTow_58 co10_177 ?_
            refine w_istore dX10_leastTow_60 (by decide) ?_
            refine w_iconst dX10_leastTow_62 ?_
            refine w_istore dX10_leastTow_63 (by decide) ?_
            exact l_X10_leastTow (N := (p.S 0).toNat) (K := 4 ^ (p.S 0).toNat) rfl hI hP rfl (by omega) (by omega) (fun b f m x7 x8 x9 x10 hR hm hF => t_X10_leastTow hI hP rfl (by omega) (by omega) (by omega) hR hm hF (by unfold lstR; rw [if_neg (by omega), if_pos (by omega), Int.toNat_natCast, Int.toNat_natCast])) (4 ^ (p.S 0).toNat) 0 _ _ _ _ _ _ _ _ rfl (by omega) (Or.inl ⟨rfl, rfl⟩) (fun q => by rw [FrN.as, hI.S]) (fun i _ => rfl)
          · (first | replace h44 := of_decide_eq_true h44 | replace h44 := of_decide_eq_false h44 | skip)
            refine w_ldc dX10_leastTow_47 co10_60 ?_
            refine w_iret dX10_leastTow_49 rfl (by omega) ?_ ⟨Nat.le_refl _, Nat.le_refl _⟩
            exact (q_x (KM.stay hI (by unfold lstR; ((repeat (first | rw [if_pos (by omega)] | rw [if_neg (by omega)])) <;> rfl))))
  · refine w_ldc dX10_leastTow_7 co10_144 ?_
    refine w_iret dX10_leastTow_9 rfl (by omega) ?_ ⟨Nat.le_refl _, Nat.le_refl _⟩
    exact (q_x (KM.stay hI (by unfold lstR; ((repeat (first | rw [if_pos (by omega)] | rw [if_neg (by omega)])) <;> rfl))))
