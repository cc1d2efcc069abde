/-! ===== the class: what is asked of the sky as it is ===== -/
def isC (p : PS) (c : Int) : Prop := 0 ≤ c ∧ c ≤ p.S 0 - 1
def kindR (p : PS) (c : Int) : Int × PS := if 0 ≤ c ∧ c ≤ p.S 0 - 1 then (p.S (4 + 5 * c), p) else (-1000001, p)
def asR (p : PS) (c k : Int) : Int × PS := if (0 ≤ c ∧ c ≤ p.S 0 - 1) ∧ 0 ≤ k ∧ k ≤ 5 then (if iokF k 6 (p.S (4 + 5 * c)) = true then (c, (⟨p.ln, p.sz, p.it, p.tn, p.tp, p.S, p.u, p.U, p.fl, p.I, p.lf, 0, p.tr, p.tb⟩ : PS)) else (-1000013, (⟨p.ln, p.sz, p.it, p.tn, p.tp, p.S, p.u, p.U, p.fl, p.I, p.lf, 3, p.tr, p.tb⟩ : PS))) else (-1000001, p)
def lvP (p : PS) (x : Int) : PS := if p.tr < 16 then (⟨p.ln, p.sz, p.it, p.tn, p.tp, p.S, p.u, p.U, p.fl, p.I, p.lf, p.fd, p.tr + 1, upS p.tb p.tr x⟩ : PS) else p
def lvsP (p : PS) (l : List Int) : PS := l.foldl lvP p
def askR (p : PS) (c w : Int) : Int × PS := if (0 ≤ c ∧ c ≤ p.S 0 - 1) ∧ (w = 0 ∨ w = 1) then (akV (p.S (4 + 5 * c)) w c (p.S (7 + 5 * c)) (p.S (6 + 5 * c)), lvsP (⟨p.ln, p.sz, p.it, p.tn, p.tp, p.S, p.u, p.U, p.fl, p.I, p.lf, p.fd, 0, p.tb⟩ : PS) (akL (p.S (4 + 5 * c)) w)) else (-1000001, p)
def traceR (p : PS) (i : Int) : Int × PS := if 0 ≤ i ∧ i ≤ p.tr - 1 then (p.tb i, p) else (-1000000, p)
def countR (p : PS) (w : Int) : Int × PS := if w = 0 then (presF p.ln, p) else if w = 1 then (p.S 0, p) else if w = 2 then (((aliveF p.S : Nat) : Int), p) else if w = 3 then (p.S 3, p) else if w = 4 then (p.S 1, p) else if w = 5 then (fellS p.S, p) else if w = 6 then ((p.u : Int), p) else if w = 7 then (p.tn, p) else (-1000001, p)
def estR (p : PS) (h : Int) : Int × PS := if p.S 0 = 0 then (-1000002, p) else if 0 ≤ h ∧ h ≤ 9 then (wetF p.S h, p) else (-1000001, p)
def alikeR (p : PS) (w : Int) : Int × PS := if p.S 0 = 0 then (-1000002, p) else if w = 0 then (alkF p.S, p) else if w = 1 then (fpC p.S (p.S 0).toNat 0 (p.S 0).toNat, p) else (-1000001, p)
def abF (a b : Int) : Int := if b ≤ a then a - b else b - a
def lkF (S : SS) (c o : Int) : Int := (if S (4 + 5 * c) = S (4 + 5 * o) then 100 else 80) - 5 * abF (S (6 + 5 * c)) (S (6 + 5 * o)) - abF (S (7 + 5 * c)) (S (7 + 5 * o))
def likeR (p : PS) (c o : Int) : Int × PS := if (0 ≤ c ∧ c ≤ p.S 0 - 1) ∧ (0 ≤ o ∧ o ≤ p.S 0 - 1) ∧ c ≠ o then ((if lkF p.S c o < 0 then 0 else lkF p.S c o), p) else (-1000001, p)
def fromR (p : PS) (c n : Int) : Int × PS := if (0 ≤ c ∧ c ≤ p.S 0 - 1) ∧ 0 ≤ n ∧ n ≤ 60 then (if p.S (7 + 5 * c) = 0 then (-1000002, p) else ((p.S (5 + 5 * c) - n * speedF (p.S (4 + 5 * c)) (p.S 1)) % 16, p)) else (-1000001, p)
def fieldR (p : PS) (f w : Int) : Int × PS := if p.S 0 = 0 then (-1000002, p) else if (0 ≤ f ∧ f ≤ 15) ∧ (w = 0 ∨ w = 1) then ((if w = 0 then p.S (29 + f) else ((overF p.S f.toNat : Nat) : Int)), p) else (-1000001, p)
def cloudR (p : PS) (c w : Int) : Int × PS := if 0 ≤ c ∧ c ≤ p.S 0 - 1 then (if w = 0 then (p.S (5 + 5 * c), p) else if w = 1 then (p.S (6 + 5 * c), p) else if w = 2 then (p.S (7 + 5 * c), p) else if w = 3 then (p.S (8 + 5 * c), p) else if w = 4 then (((shF p.S c : Nat) : Int), p) else if w = 5 then (p.S (6 + 5 * c) * rainF (p.S (4 + 5 * c)) (p.S 3), p) else (-1000001, p)) else (-1000001, p)
theorem c_X9_kind {E : EV} {M : MM} {p : PS} {c : Int} (hC : CI M p) (hP : POK p) (hc : R32 c) : Cx E mX9_kind 9 [vr 0, vi c] M (KC M (kindR p c)) := by
  refine Ct.of [some (vr 0), some (vi c)] rfl rfl rfl (Nat.le_of_ble_eq_true rfl) ?_
  have hn := hP.hs.n
  have e0 := hC.S.num
  refine w_aload_n dX9_kind_0 rfl ?_
  refine w_iload_n dX9_kind_1 rfl ?_
  refine cVm dX9_kind_2 ok_X9_isCloud lv9_180 (c_X9_isCloud (by omega) (by omega)) rfl (congrArg Prod.fst g0_0) (by decide) (by decide) rfl (by decide) (Nat.le_of_ble_eq_true rfl) (fun r2 => ?_)
  refine w_ifB_eq (tgt := 20) dX9_kind_5 (by decide) (fun h5 => ?_) (fun h5 => ?_)
  · (first | replace h5 := of_decide_eq_true h5 | replace h5 := of_decide_eq_false h5 | skip)
    refine w_ldc dX9_kind_20 co9_90 ?_
    refine w_iret dX9_kind_22 rfl (by omega) ?_ ⟨Nat.le_refl _, Nat.le_refl _⟩
    first | (refine q_x (KC.stay hC ?_); unfold kindR; ((repeat (first | rw [if_pos (by omega)] | rw [if_neg (by omega)])) <;> rfl)) | (refine q_x (KC.stay' hC k1 ?_); unfold kindR; ((repeat (first | rw [if_pos (by omega)] | rw [if_neg (by omega)])) <;> rfl))
  · (first | replace h5 := of_decide_eq_true h5 | replace h5 := of_decide_eq_false h5 | skip)
    have k1 := hC.S.kind (c := c) (by omega) (by omega)
    refine w_aload_n dX9_kind_8 rfl ?_
    refine w_getR (r := 23) dX9_kind_9 fl9_35 g0_0 (by decide) rfl ?_
    refine w_getR (r := (23 + 1)) dX9_kind_12 fl9_286 (sk_g0 sk_23) (sk_n0 sk_23) rfl ?_
    refine w_iload_n dX9_kind_15 rfl ?_
    refine r_ild dX9_kind_16 (sk_g1 sk_23) (sk_n1 sk_23) (by omega) (by omega) (by decide) (fun r16 => ?_)
    refine w_goto (tgt := 22) dX9_kind_17 (by decide) ?_
    refine w_iret dX9_kind_22 rfl (by omega) ?_ ⟨Nat.le_refl _, Nat.le_refl _⟩
    first | (refine q_x (KC.stay hC ?_); unfold kindR; ((repeat (first | rw [if_pos (by omega)] | rw [if_neg (by omega)])) <;> rfl)) | (refine q_x (KC.stay' hC k1 ?_); unfold kindR; ((repeat (first | rw [if_pos (by omega)] | rw [if_neg (by omega)])) <;> rfl))
theorem c_X9_as {E : EV} {M : MM} {p : PS} {c k : Int} (hC : CI M p) (hP : POK p) (hc : R32 c) (hk : R32 k) : Cx E mX9_as 9 [vr 0, vi c, vi k] M (KC M (asR p c k)) := by
  refine Ct.of [some (vr 0), some (vi c), some (vi k)] rfl rfl rfl (Nat.le_of_ble_eq_true rfl) ?_
  have hn := hP.hs.n
  have e0 := hC.S.num
  refine w_aload_n dX9_as_0 rfl ?_
  refine w_iload_n dX9_as_1 rfl ?_
  refine cVm dX9_as_2 ok_X9_isCloud lv9_180 (c_X9_isCloud (by omega) (by omega)) rfl (congrArg Prod.fst g0_0) (by decide) (by decide) rfl (by decide) (Nat.le_of_ble_eq_true rfl) (fun r2 => ?_)
  refine w_ifB_eq (tgt := 17) dX9_as_5 (by decide) (fun h5 => ?_) (fun h5 => ?_)
  · (first | replace h5 := of_decide_eq_true h5 | replace h5 := of_decide_eq_false h5 | skip)
    refine w_ldc dX9_as_17 co9_90 ?_
    refine w_iret dX9_as_19 rfl (by omega) ?_ ⟨Nat.le_refl _, Nat.le_refl _⟩
    exact (q_x (KC.stay hC (by unfold asR; ((repeat (first | rw [if_pos (by omega)] | rw [if_neg (by omega)])) <;> rfl))))
  · (first | replace h5 := of_decide_eq_true h5 | replace h5 := of_decide_eq_false h5 | skip)
    refine w_iload_n dX9_as_8 rfl ?_
    refine w_iconst dX9_as_9 ?_
    refine w_iconst dX9_as_10 ?_
    refine cSm dX9_as_11 ok_X9_within (Or.inl ls9_86) (c_X9_within (by omega) (by omega) (by omega)) rfl  rfl (by decide) (Nat.le_of_ble_eq_true rfl) (fun r11 => ?_)
    refine w_ifB_ne (tgt := 20) dX9_as_14 (by decide) (fun h14 => ?_) (fun h14 => ?_)
    · (first | replace h14 := of_decide_eq_true h14 | replace h14 := of_decide_eq_false h14 | skip)
      have k1 := hC.S.kind (c := c) (by omega) (by omega)
      refine w_aload_n dX9_as_20 rfl ?_
      refine w_getR (r := 23) dX9_as_21 fl9_35 g0_0 (by decide) rfl ?_
      refine w_getR (r := (23 + 1)) dX9_as_24 fl9_286 (sk_g0 sk_23) (sk_n0 sk_23) rfl ?_
      refine w_iload_n dX9_as_27 rfl ?_
      refine r_ild dX9_as_28 (sk_g1 sk_23) (sk_n1 sk_23) (by omega) (by omega) (by decide) (fun r28 => ?_)
      refine w_iload_n dX9_as_29 rfl ?_
      refine cSm dX9_as_30 ok_X9_isOfKind (Or.inl ls9_330) (c_X9_isOfKind (by omega) (by omega)) rfl  rfl (by decide) (Nat.le_of_ble_eq_true rfl) (fun r30 => ?_)
      refine w_ifB_eq (tgt := 44) dX9_as_33 (by decide) (fun h33 => ?_) (fun h33 => ?_)
      · (first | replace h33 := of_decide_eq_true h33 | replace h33 := of_decide_eq_false h33 | skip)
        rw [k1] at h33
        refine w_aload_n dX9_as_44 rfl ?_
        refine w_iconst dX9_as_45 ?_
        refine cVm dX9_as_46 ok_X9_found lv9_91 (c_X9_found (by omega)) rfl (congrArg Prod.fst g0_0) (by decide) (by decide) rfl (by decide) (Nat.le_of_ble_eq_true rfl) (fun r46 => ?_)
        refine w_iret dX9_as_49 rfl (by omega) ?_ ⟨Nat.le_refl _, Nat.le_refl _⟩
        first | (refine q_x (KC.find hC (Hi.refl M) ?_); unfold asR; (rw [if_pos (by omega), if_pos h33] <;> rfl)) | (refine q_x (KC.find hC (Hi.refl M) ?_); unfold asR; rw [if_pos (by omega), if_neg (by rw [h33]; decide)] <;> rfl)
      · (first | replace h33 := of_decide_eq_true h33 | replace h33 := of_decide_eq_false h33 | skip)
        rw [k1] at h33
        refine w_aload_n dX9_as_36 rfl ?_
        refine w_iload_n dX9_as_37 rfl ?_
        refine cVm dX9_as_38 ok_X9_fine lv9_99 (c_X9_fine (by omega)) rfl (congrArg Prod.fst g0_0) (by decide) (by decide) rfl (by decide) (Nat.le_of_ble_eq_true rfl) (fun r38 => ?_)
        refine w_goto (tgt := 49) dX9_as_41 (by decide) ?_
        refine w_iret dX9_as_49 rfl (by omega) ?_ ⟨Nat.le_refl _, Nat.le_refl _⟩
        first | (refine q_x (KC.find hC (Hi.refl M) ?_); unfold asR; (rw [if_pos (by omega), if_pos h33] <;> rfl)) | (refine q_x (KC.find hC (Hi.refl M) ?_); unfold asR; rw [if_pos (by omega), if_neg (by rw [h33]; decide)] <;> rfl)
    · (first | replace h14 := of_decide_eq_true h14 | replace h14 := of_decide_eq_false h14 | skip)
      refine w_ldc dX9_as_17 co9_90 ?_
      refine w_iret dX9_as_19 rfl (by omega) ?_ ⟨Nat.le_refl _, Nat.le_refl _⟩
      exact (q_x (KC.stay hC (by unfold asR; ((repeat (first | rw [if_pos (by omega)] | rw [if_neg (by omega)])) <;> rfl))))
theorem CI.lv {M : MM} {p : PS} {x : Int} (h : CI M p) (h0 : 0 ≤ p.tr) : CI (lvM M x) (lvP p x) := by
  unfold lvM lvP
  rw [h.tr]
  by_cases e : p.tr < 16
  · rw [if_pos e, if_pos e]
    refine h.asks (fun i _ _ c => by rw [upM_cell (by omega), upM_cell (by omega)]) (by rw [upM_same]) (fun i a b => ?_)
    rw [upM_cell (by omega), upS_at]
    by_cases e2 : i = p.tr
    · rw [e2, upM_same, if_pos rfl]
    · rw [upM_ne (by omega), if_neg e2]; exact h.tb i a b
  · rw [if_neg e, if_neg e]; exact h
theorem lvP_0 {p : PS} {x : Int} (h0 : 0 ≤ p.tr) : 0 ≤ (lvP p x).tr := by
  unfold lvP
  split
  · show 0 ≤ p.tr + 1
    omega
  · exact h0
theorem CI.lvs : ∀ (l : List Int) {M : MM} {p : PS}, CI M p → 0 ≤ p.tr → CI (lvs M l) (lvsP p l)
  | [], _, _, h, _ => h
  | x :: l, _, _, h, h0 => CI.lvs l (h.lv h0) (lvP_0 h0)
theorem lvs_cell {i : Nat} (h1 : i ≠ 222) (h2 : i ≠ 223) : ∀ (l : List Int) (M : MM), lvs M l i = M i
  | [], _ => rfl
  | x :: l, M => by
    show lvs (lvM M x) l i = M i
    rw [lvs_cell h1 h2 l, lv_cell h1 h2]
theorem c_X9_ask {E : EV} {M : MM} {p : PS} {c w : Int} (hC : CI M p) (hP : POK p) (hc : R32 c) (hw : R32 w) : Cx E mX9_ask 9 [vr 0, vi c, vi w] M (KC M (askR p c w)) := by
  refine Ct.of [some (vr 0), some (vi c), some (vi w)] rfl rfl rfl (Nat.le_of_ble_eq_true rfl) ?_
  have hn := hP.hs.n
  have e0 := hC.S.num
  have key : ∀ l, CI (lvs (upM M 222 0 0) l) (lvsP (⟨p.ln, p.sz, p.it, p.tn, p.tp, p.S, p.u, p.U, p.fl, p.I, p.lf, p.fd, 0, p.tb⟩ : PS) l) ∧ Hi M (lvs (upM M 222 0 0) l) := fun l => by
    refine ⟨CI.lvs l (hC.asks (fun i _ _ c => by rw [upM_cell (by omega)]) (by rw [upM_same]) (fun i a b => by rw [upM_cell (by omega)]; exact hC.tb i a b)) (Int.le_refl 0), fun i hi => by rw [lvs_cell (by omega) (by omega), upM_cell (by omega)]⟩
  refine w_aload_n dX9_ask_0 rfl ?_
  refine w_iload_n dX9_ask_1 rfl ?_
  refine cVm dX9_ask_2 ok_X9_isCloud lv9_180 (c_X9_isCloud (by omega) (by omega)) rfl (congrArg Prod.fst g0_0) (by decide) (by decide) rfl (by decide) (Nat.le_of_ble_eq_true rfl) (fun r2 => ?_)
  refine w_ifB_eq (tgt := 15) dX9_ask_5 (by decide) (fun h5 => ?_) (fun h5 => ?_)
  · (first | replace h5 := of_decide_eq_true h5 | replace h5 := of_decide_eq_false h5 | skip)
    refine w_ldc dX9_ask_15 co9_90 ?_
    refine w_iret dX9_ask_17 rfl (by omega) ?_ ⟨Nat.le_refl _, Nat.le_refl _⟩
    exact (q_x (KC.stay hC (by unfold askR; ((repeat (first | rw [if_pos (by omega)] | rw [if_neg (by omega)])) <;> rfl))))
  · (first | replace h5 := of_decide_eq_true h5 | replace h5 := of_decide_eq_false h5 | skip)
    refine w_iload_n dX9_ask_8 rfl ?_
    refine cSm dX9_ask_9 ok_X9_isZeroOrOne (Or.inl ls9_217) (c_X9_isZeroOrOne (by omega)) rfl  rfl (by decide) (Nat.le_of_ble_eq_true rfl) (fun r9 => ?_)
    refine w_ifB_ne (tgt := 18) dX9_ask_12 (by decide) (fun h12 => ?_) (fun h12 => ?_)
    · (first | replace h12 := of_decide_eq_true h12 | replace h12 := of_decide_eq_false h12 | skip)
      have k1 := hC.S.kind (c := c) (by omega) (by omega)
      have k2 := hC.S.wet (c := c) (by omega) (by omega)
      have k3 := hC.S.wide (c := c) (by omega) (by omega)
      have kb := hP.hs.2.1.cl (c := c) (by omega) (by omega)
      refine w_aload_n dX9_ask_18 rfl ?_
      refine w_getR (r := 222) dX9_ask_19 fl9_78 g0_0 (by decide) rfl ?_
      refine w_iload_n dX9_ask_22 rfl ?_
      refine w_iload_n dX9_ask_23 rfl ?_
      refine cVm dX9_ask_24 ok_X1_begin lv9_333 (c_ask (by omega) (by omega) k1 (by omega) k2 (by omega) k3 (by omega) (by omega)) rfl (congrArg Prod.fst g0_222) (by decide) (by decide) rfl (by decide) (Nat.le_of_ble_eq_true rfl) (fun r24 => ?_)
      refine w_iret dX9_ask_27 rfl (by omega) ?_ ⟨Nat.le_refl _, Nat.le_refl _⟩
      exact (q_x (by unfold askR; rw [if_pos (by omega)]; exact ⟨rfl, key _⟩))
    · (first | replace h12 := of_decide_eq_true h12 | replace h12 := of_decide_eq_false h12 | skip)
      refine w_ldc dX9_ask_15 co9_90 ?_
      refine w_iret dX9_ask_17 rfl (by omega) ?_ ⟨Nat.le_refl _, Nat.le_refl _⟩
      exact (q_x (KC.stay hC (by unfold askR; ((repeat (first | rw [if_pos (by omega)] | rw [if_neg (by omega)])) <;> rfl))))
theorem c_X9_trace {E : EV} {M : MM} {p : PS} {i : Int} (hC : CI M p) (hP : POK p) (hi : R32 i) : Cx E mX9_trace 9 [vr 0, vi i] M (KC M (traceR p i)) := by
  refine Ct.of [some (vr 0), some (vi i)] rfl rfl rfl (Nat.le_of_ble_eq_true rfl) ?_
  have h1 := hP.hr
  have e0 := hC.tr
  refine w_iload_n dX9_trace_0 rfl ?_
  refine w_iconst dX9_trace_1 ?_
  refine w_aload_n dX9_trace_2 rfl ?_
  refine w_getR (r := 222) dX9_trace_3 fl9_78 g0_0 (by decide) rfl ?_
  refine r_getI (q := 0) dX9_trace_6 fl9_336 g0_222 (by decide) rfl (by decide) rfl (fun r6 => ?_)
  refine w_iconst dX9_trace_9 ?_
  refine w_isub dX9_trace_10 ?_
  refine cSm dX9_trace_11 ok_X9_within (Or.inl ls9_86) (c_X9_within (by omega) (by omega) (by omega)) rfl  rfl (by decide) (Nat.le_of_ble_eq_true rfl) (fun r11 => ?_)
  refine w_ifB_eq (tgt := 29) dX9_trace_14 (by decide) (fun h14 => ?_) (fun h14 => ?_)
  · (first | replace h14 := of_decide_eq_true h14 | replace h14 := of_decide_eq_false h14 | skip)
    refine w_ldc dX9_trace_29 co9_230 ?_
    refine w_iret dX9_trace_31 rfl (by omega) ?_ ⟨Nat.le_refl _, Nat.le_refl _⟩
    first | (refine q_x (KC.stay hC ?_); unfold traceR; ((repeat (first | rw [if_pos (by omega)] | rw [if_neg (by omega)])) <;> rfl)) | (refine q_x (KC.stay' hC k1 ?_); unfold traceR; ((repeat (first | rw [if_pos (by omega)] | rw [if_neg (by omega)])) <;> rfl))
  · (first | replace h14 := of_decide_eq_true h14 | replace h14 := of_decide_eq_false h14 | skip)
    have k1 := hC.tb i (by omega) (by omega)
    refine w_aload_n dX9_trace_17 rfl ?_
    refine w_getR (r := 222) dX9_trace_18 fl9_78 g0_0 (by decide) rfl ?_
    refine w_getR (r := 223) dX9_trace_21 fl9_339 g0_222 (by decide) rfl ?_
    refine w_iload_n dX9_trace_24 rfl ?_
    refine r_ild dX9_trace_25 g0_223 (by decide) (by omega) (by omega) (by decide) (fun r25 => ?_)
    refine w_goto (tgt := 31) dX9_trace_26 (by decide) ?_
    refine w_iret dX9_trace_31 rfl (by omega) ?_ ⟨Nat.le_refl _, Nat.le_refl _⟩
    first | (refine q_x (KC.stay hC ?_); unfold traceR; ((repeat (first | rw [if_pos (by omega)] | rw [if_neg (by omega)])) <;> rfl)) | (refine q_x (KC.stay' hC k1 ?_); unfold traceR; ((repeat (first | rw [if_pos (by omega)] | rw [if_neg (by omega)])) <;> rfl))
theorem pres_eq {f g : Int → Int} (h : ∀ r : Int, 0 ≤ r → r < 8 → f r = g r) : presF f = presF g := sumI_congr (fun i hi => by rw [h i (by omega) (by omega)])
theorem c_X9_count {E : EV} {M : MM} {p : PS} {w : Int} (hC : CI M p) (hP : POK p) (hw : R32 w) : Cx E mX9_count 9 [vr 0, vi w] M (KC M (countR p w)) := by
  refine Ct.of [some (vr 0), some (vi w)] rfl rfl rfl (Nat.le_of_ble_eq_true rfl) ?_
  have ep := pres_eq hC.ln
  refine w_iload_n dX9_count_0 rfl ?_
  refine w_tabC (0) (tgt := 48) dX9_count_1 (by omega) (by decide) rfl (by decide) (fun t0 => ?_) (fun t0 => ?_)
  · refine w_aload_n dX9_count_48 rfl ?_
    refine w_getR (r := 1) dX9_count_49 fl9_10 g0_0 (by decide) rfl ?_
    refine cVm dX9_count_52 ok_X5_present lv9_342 c_X5_present rfl (congrArg Prod.fst g0_1) (by decide) (by decide) rfl (by decide) (Nat.le_of_ble_eq_true rfl) (fun r52 => ?_)
    refine w_iret dX9_count_55 rfl (by omega) ?_ ⟨Nat.le_refl _, Nat.le_refl _⟩
    first | (refine q_x (KC.stay hC ?_); unfold countR; ((repeat (first | rw [if_pos (by omega)] | rw [if_neg (by omega)])) <;> rfl)) | (refine q_x (KC.stay' hC ep ?_); unfold countR; ((repeat (first | rw [if_pos (by omega)] | rw [if_neg (by omega)])) <;> rfl)) | (refine q_x (KC.stay' hC hC.S.num ?_); unfold countR; ((repeat (first | rw [if_pos (by omega)] | rw [if_neg (by omega)])) <;> rfl)) | (refine q_x (KC.stay' hC hC.S.day ?_); unfold countR; ((repeat (first | rw [if_pos (by omega)] | rw [if_neg (by omega)])) <;> rfl)) | (refine q_x (KC.stay' hC hC.S.wind ?_); unfold countR; ((repeat (first | rw [if_pos (by omega)] | rw [if_neg (by omega)])) <;> rfl)) | (refine q_x (KC.stay' hC hC.u ?_); unfold countR; ((repeat (first | rw [if_pos (by omega)] | rw [if_neg (by omega)])) <;> rfl)) | (refine q_x (KC.stay' hC hC.tn ?_); unfold countR; ((repeat (first | rw [if_pos (by omega)] | rw [if_neg (by omega)])) <;> rfl))
  refine w_tabC (1) (tgt := 56) dX9_count_1 (by omega) (by decide) rfl (by decide) (fun t1 => ?_) (fun t1 => ?_)
  · refine w_aload_n dX9_count_56 rfl ?_
    refine w_getR (r := 23) dX9_count_57 fl9_35 g0_0 (by decide) rfl ?_
    refine r_getI (q := 0) dX9_count_60 fl9_155 (sk_g0 sk_23) (sk_n0 sk_23) rfl (by decide) rfl (fun r60 => ?_)
    refine w_iret dX9_count_63 rfl (by omega) ?_ ⟨Nat.le_refl _, Nat.le_refl _⟩
    first | (refine q_x (KC.stay hC ?_); unfold countR; ((repeat (first | rw [if_pos (by omega)] | rw [if_neg (by omega)])) <;> rfl)) | (refine q_x (KC.stay' hC ep ?_); unfold countR; ((repeat (first | rw [if_pos (by omega)] | rw [if_neg (by omega)])) <;> rfl)) | (refine q_x (KC.stay' hC hC.S.num ?_); unfold countR; ((repeat (first | rw [if_pos (by omega)] | rw [if_neg (by omega)])) <;> rfl)) | (refine q_x (KC.stay' hC hC.S.day ?_); unfold countR; ((repeat (first | rw [if_pos (by omega)] | rw [if_neg (by omega)])) <;> rfl)) | (refine q_x (KC.stay' hC hC.S.wind ?_); unfold countR; ((repeat (first | rw [if_pos (by omega)] | rw [if_neg (by omega)])) <;> rfl)) | (refine q_x (KC.stay' hC hC.u ?_); unfold countR; ((repeat (first | rw [if_pos (by omega)] | rw [if_neg (by omega)])) <;> rfl)) | (refine q_x (KC.stay' hC hC.tn ?_); unfold countR; ((repeat (first | rw [if_pos (by omega)] | rw [if_neg (by omega)])) <;> rfl))
  refine w_tabC (2) (tgt := 64) dX9_count_1 (by omega) (by decide) rfl (by decide) (fun t2 => ?_) (fun t2 => ?_)
  · refine w_aload_n dX9_count_64 rfl ?_
    refine w_getR (r := 23) dX9_count_65 fl9_35 g0_0 (by decide) rfl ?_
    refine cVm dX9_count_68 ok_X6_alive lv9_304 (c_X6_alive sk_23 hC.S hP.hs.2.1) rfl (sk_k sk_23) (sk_n0 sk_23) (by decide) rfl (by decide) (Nat.le_of_ble_eq_true rfl) (fun r68 => ?_)
    refine w_iret dX9_count_71 rfl (by omega) ?_ ⟨Nat.le_refl _, Nat.le_refl _⟩
    first | (refine q_x (KC.stay hC ?_); unfold countR; ((repeat (first | rw [if_pos (by omega)] | rw [if_neg (by omega)])) <;> rfl)) | (refine q_x (KC.stay' hC ep ?_); unfold countR; ((repeat (first | rw [if_pos (by omega)] | rw [if_neg (by omega)])) <;> rfl)) | (refine q_x (KC.stay' hC hC.S.num ?_); unfold countR; ((repeat (first | rw [if_pos (by omega)] | rw [if_neg (by omega)])) <;> rfl)) | (refine q_x (KC.stay' hC hC.S.day ?_); unfold countR; ((repeat (first | rw [if_pos (by omega)] | rw [if_neg (by omega)])) <;> rfl)) | (refine q_x (KC.stay' hC hC.S.wind ?_); unfold countR; ((repeat (first | rw [if_pos (by omega)] | rw [if_neg (by omega)])) <;> rfl)) | (refine q_x (KC.stay' hC hC.u ?_); unfold countR; ((repeat (first | rw [if_pos (by omega)] | rw [if_neg (by omega)])) <;> rfl)) | (refine q_x (KC.stay' hC hC.tn ?_); unfold countR; ((repeat (first | rw [if_pos (by omega)] | rw [if_neg (by omega)])) <;> rfl))
  refine w_tabC (3) (tgt := 72) dX9_count_1 (by omega) (by decide) rfl (by decide) (fun t3 => ?_) (fun t3 => ?_)
  · refine w_aload_n dX9_count_72 rfl ?_
    refine w_getR (r := 23) dX9_count_73 fl9_35 g0_0 (by decide) rfl ?_
    refine r_getI (q := 3) dX9_count_76 fl9_168 (sk_g0 sk_23) (sk_n0 sk_23) rfl (by decide) rfl (fun r76 => ?_)
    refine w_iret dX9_count_79 rfl (by omega) ?_ ⟨Nat.le_refl _, Nat.le_refl _⟩
    first | (refine q_x (KC.stay hC ?_); unfold countR; ((repeat (first | rw [if_pos (by omega)] | rw [if_neg (by omega)])) <;> rfl)) | (refine q_x (KC.stay' hC ep ?_); unfold countR; ((repeat (first | rw [if_pos (by omega)] | rw [if_neg (by omega)])) <;> rfl)) | (refine q_x (KC.stay' hC hC.S.num ?_); unfold countR; ((repeat (first | rw [if_pos (by omega)] | rw [if_neg (by omega)])) <;> rfl)) | (refine q_x (KC.stay' hC hC.S.day ?_); unfold countR; ((repeat (first | rw [if_pos (by omega)] | rw [if_neg (by omega)])) <;> rfl)) | (refine q_x (KC.stay' hC hC.S.wind ?_); unfold countR; ((repeat (first | rw [if_pos (by omega)] | rw [if_neg (by omega)])) <;> rfl)) | (refine q_x (KC.stay' hC hC.u ?_); unfold countR; ((repeat (first | rw [if_pos (by omega)] | rw [if_neg (by omega)])) <;> rfl)) | (refine q_x (KC.stay' hC hC.tn ?_); unfold countR; ((repeat (first | rw [if_pos (by omega)] | rw [if_neg (by omega)])) <;> rfl))
  refine w_tabC (4) (tgt := 80) dX9_count_1 (by omega) (by decide) rfl (by decide) (fun t4 => ?_) (fun t4 => ?_)
  · refine w_aload_n dX9_count_80 rfl ?_
    refine w_getR (r := 23) dX9_count_81 fl9_35 g0_0 (by decide) rfl ?_
    refine r_getI (q := 1) dX9_count_84 fl9_177 (sk_g0 sk_23) (sk_n0 sk_23) rfl (by decide) rfl (fun r84 => ?_)
    refine w_iret dX9_count_87 rfl (by omega) ?_ ⟨Nat.le_refl _, Nat.le_refl _⟩
    first | (refine q_x (KC.stay hC ?_); unfold countR; ((repeat (first | rw [if_pos (by omega)] | rw [if_neg (by omega)])) <;> rfl)) | (refine q_x (KC.stay' hC ep ?_); unfold countR; ((repeat (first | rw [if_pos (by omega)] | rw [if_neg (by omega)])) <;> rfl)) | (refine q_x (KC.stay' hC hC.S.num ?_); unfold countR; ((repeat (first | rw [if_pos (by omega)] | rw [if_neg (by omega)])) <;> rfl)) | (refine q_x (KC.stay' hC hC.S.day ?_); unfold countR; ((repeat (first | rw [if_pos (by omega)] | rw [if_neg (by omega)])) <;> rfl)) | (refine q_x (KC.stay' hC hC.S.wind ?_); unfold countR; ((repeat (first | rw [if_pos (by omega)] | rw [if_neg (by omega)])) <;> rfl)) | (refine q_x (KC.stay' hC hC.u ?_); unfold countR; ((repeat (first | rw [if_pos (by omega)] | rw [if_neg (by omega)])) <;> rfl)) | (refine q_x (KC.stay' hC hC.tn ?_); unfold countR; ((repeat (first | rw [if_pos (by omega)] | rw [if_neg (by omega)])) <;> rfl))
  refine w_tabC (5) (tgt := 88) dX9_count_1 (by omega) (by decide) rfl (by decide) (fun t5 => ?_) (fun t5 => ?_)
  · refine w_aload_n dX9_count_88 rfl ?_
    refine w_getR (r := 23) dX9_count_89 fl9_35 g0_0 (by decide) rfl ?_
    refine cVm dX9_count_92 ok_X6_fallen lv9_327 (c_X6_fallen sk_23 hC.S hP.hs.ok (by omega)) rfl (sk_k sk_23) (sk_n0 sk_23) (by decide) rfl (by decide) (Nat.le_of_ble_eq_true rfl) (fun r92 => ?_)
    refine w_iret dX9_count_95 rfl (by omega) ?_ ⟨Nat.le_refl _, Nat.le_refl _⟩
    first | (refine q_x (KC.stay hC ?_); unfold countR; ((repeat (first | rw [if_pos (by omega)] | rw [if_neg (by omega)])) <;> rfl)) | (refine q_x (KC.stay' hC ep ?_); unfold countR; ((repeat (first | rw [if_pos (by omega)] | rw [if_neg (by omega)])) <;> rfl)) | (refine q_x (KC.stay' hC hC.S.num ?_); unfold countR; ((repeat (first | rw [if_pos (by omega)] | rw [if_neg (by omega)])) <;> rfl)) | (refine q_x (KC.stay' hC hC.S.day ?_); unfold countR; ((repeat (first | rw [if_pos (by omega)] | rw [if_neg (by omega)])) <;> rfl)) | (refine q_x (KC.stay' hC hC.S.wind ?_); unfold countR; ((repeat (first | rw [if_pos (by omega)] | rw [if_neg (by omega)])) <;> rfl)) | (refine q_x (KC.stay' hC hC.u ?_); unfold countR; ((repeat (first | rw [if_pos (by omega)] | rw [if_neg (by omega)])) <;> rfl)) | (refine q_x (KC.stay' hC hC.tn ?_); unfold countR; ((repeat (first | rw [if_pos (by omega)] | rw [if_neg (by omega)])) <;> rfl))
  refine w_tabC (6) (tgt := 96) dX9_count_1 (by omega) (by decide) rfl (by decide) (fun t6 => ?_) (fun t6 => ?_)
  · refine w_aload_n dX9_count_96 rfl ?_
    refine w_getR (r := 30) dX9_count_97 fl9_44 g0_0 (by decide) rfl ?_
    refine r_getI (q := 0) dX9_count_100 fl9_158 g0_30 (by decide) rfl (by decide) rfl (fun r100 => ?_)
    refine w_iret dX9_count_103 rfl (by omega) ?_ ⟨Nat.le_refl _, Nat.le_refl _⟩
    first | (refine q_x (KC.stay hC ?_); unfold countR; ((repeat (first | rw [if_pos (by omega)] | rw [if_neg (by omega)])) <;> rfl)) | (refine q_x (KC.stay' hC ep ?_); unfold countR; ((repeat (first | rw [if_pos (by omega)] | rw [if_neg (by omega)])) <;> rfl)) | (refine q_x (KC.stay' hC hC.S.num ?_); unfold countR; ((repeat (first | rw [if_pos (by omega)] | rw [if_neg (by omega)])) <;> rfl)) | (refine q_x (KC.stay' hC hC.S.day ?_); unfold countR; ((repeat (first | rw [if_pos (by omega)] | rw [if_neg (by omega)])) <;> rfl)) | (refine q_x (KC.stay' hC hC.S.wind ?_); unfold countR; ((repeat (first | rw [if_pos (by omega)] | rw [if_neg (by omega)])) <;> rfl)) | (refine q_x (KC.stay' hC hC.u ?_); unfold countR; ((repeat (first | rw [if_pos (by omega)] | rw [if_neg (by omega)])) <;> rfl)) | (refine q_x (KC.stay' hC hC.tn ?_); unfold countR; ((repeat (first | rw [if_pos (by omega)] | rw [if_neg (by omega)])) <;> rfl))
  refine w_tabC (7) (tgt := 104) dX9_count_1 (by omega) (by decide) rfl (by decide) (fun t7 => ?_) (fun t7 => ?_)
  · refine w_aload_n dX9_count_104 rfl ?_
    refine w_getR (r := 13) dX9_count_105 fl9_19 g0_0 (by decide) rfl ?_
    refine r_getI (q := 1) dX9_count_108 fl9_139 g0_13 (by decide) rfl (by decide) rfl (fun r108 => ?_)
    refine w_iret dX9_count_111 rfl (by omega) ?_ ⟨Nat.le_refl _, Nat.le_refl _⟩
    first | (refine q_x (KC.stay hC ?_); unfold countR; ((repeat (first | rw [if_pos (by omega)] | rw [if_neg (by omega)])) <;> rfl)) | (refine q_x (KC.stay' hC ep ?_); unfold countR; ((repeat (first | rw [if_pos (by omega)] | rw [if_neg (by omega)])) <;> rfl)) | (refine q_x (KC.stay' hC hC.S.num ?_); unfold countR; ((repeat (first | rw [if_pos (by omega)] | rw [if_neg (by omega)])) <;> rfl)) | (refine q_x (KC.stay' hC hC.S.day ?_); unfold countR; ((repeat (first | rw [if_pos (by omega)] | rw [if_neg (by omega)])) <;> rfl)) | (refine q_x (KC.stay' hC hC.S.wind ?_); unfold countR; ((repeat (first | rw [if_pos (by omega)] | rw [if_neg (by omega)])) <;> rfl)) | (refine q_x (KC.stay' hC hC.u ?_); unfold countR; ((repeat (first | rw [if_pos (by omega)] | rw [if_neg (by omega)])) <;> rfl)) | (refine q_x (KC.stay' hC hC.tn ?_); unfold countR; ((repeat (first | rw [if_pos (by omega)] | rw [if_neg (by omega)])) <;> rfl))
  refine w_tabOut (tgt := 112) dX9_count_1 (by omega) (by omega) (by decide) ?_
  refine w_ldc dX9_count_112 co9_90 ?_
  refine w_iret dX9_count_114 rfl (by omega) ?_ ⟨Nat.le_refl _, Nat.le_refl _⟩
  first | (refine q_x (KC.stay hC ?_); unfold countR; ((repeat (first | rw [if_pos (by omega)] | rw [if_neg (by omega)])) <;> rfl)) | (refine q_x (KC.stay' hC ep ?_); unfold countR; ((repeat (first | rw [if_pos (by omega)] | rw [if_neg (by omega)])) <;> rfl)) | (refine q_x (KC.stay' hC hC.S.num ?_); unfold countR; ((repeat (first | rw [if_pos (by omega)] | rw [if_neg (by omega)])) <;> rfl)) | (refine q_x (KC.stay' hC hC.S.day ?_); unfold countR; ((repeat (first | rw [if_pos (by omega)] | rw [if_neg (by omega)])) <;> rfl)) | (refine q_x (KC.stay' hC hC.S.wind ?_); unfold countR; ((repeat (first | rw [if_pos (by omega)] | rw [if_neg (by omega)])) <;> rfl)) | (refine q_x (KC.stay' hC hC.u ?_); unfold countR; ((repeat (first | rw [if_pos (by omega)] | rw [if_neg (by omega)])) <;> rfl)) | (refine q_x (KC.stay' hC hC.tn ?_); unfold countR; ((repeat (first | rw [if_pos (by omega)] | rw [if_neg (by omega)])) <;> rfl))
theorem c_X9_status {E : EV} {M : MM} {p : PS} (hC : CI M p) : Cx E mX9_status 9 [vr 0] M (KC M (p.fd, p)) := by
  refine Ct.of [some (vr 0)] rfl rfl rfl (Nat.le_of_ble_eq_true rfl) ?_
  refine w_aload_n dX9_status_0 rfl ?_
  refine r_getI (q := 11) dX9_status_1 fl9_345 g0_0 (by decide) rfl (by decide) rfl (fun r1 => ?_)
  refine w_iret dX9_status_4 rfl (by omega) ?_ ⟨Nat.le_refl _, Nat.le_refl _⟩
  exact (q_x (KC.stay hC (by rw [hC.fd])))
theorem c_X9_fault {E : EV} {M : MM} {p : PS} (hC : CI M p) : Cx E mX9_fault 9 [vr 0] M (KC M (p.lf, p)) := by
  refine Ct.of [some (vr 0)] rfl rfl rfl (Nat.le_of_ble_eq_true rfl) ?_
  refine w_aload_n dX9_fault_0 rfl ?_
  refine r_getI (q := 10) dX9_fault_1 fl9_142 g0_0 (by decide) rfl (by decide) rfl (fun r1 => ?_)
  refine w_iret dX9_fault_4 rfl (by omega) ?_ ⟨Nat.le_refl _, Nat.le_refl _⟩
  exact (q_x (KC.stay hC (by rw [hC.lf])))
theorem c_X9_estate {E : EV} {M : MM} {p : PS} {h : Int} (hC : CI M p) (hP : POK p) (hh : R32 h) : Cx E mX9_estate 9 [vr 0, vi h] M (KC M (estR p h)) := by
  refine Ct.of [some (vr 0), some (vi h)] rfl rfl rfl (Nat.le_of_ble_eq_true rfl) ?_
  have e0 := hC.S.num
  refine w_aload_n dX9_estate_0 rfl ?_
  refine cVm dX9_estate_1 ok_X9_noSky lv9_165 c_X9_noSky rfl (congrArg Prod.fst g0_0) (by decide) (by decide) rfl (by decide) (Nat.le_of_ble_eq_true rfl) (fun r1 => ?_)
  refine w_ifB_eq (tgt := 10) dX9_estate_4 (by decide) (fun h4 => ?_) (fun h4 => ?_)
  · (first | replace h4 := of_decide_eq_true h4 | replace h4 := of_decide_eq_false h4 | skip)
    refine w_iload_n dX9_estate_10 rfl ?_
    refine w_iconst dX9_estate_11 ?_
    refine w_bipush dX9_estate_12 (by decide +kernel) ?_
    refine cSm dX9_estate_14 ok_X9_within (Or.inl ls9_86) (c_X9_within (by omega) (by omega) (by omega)) rfl  rfl (by decide) (Nat.le_of_ble_eq_true rfl) (fun r14 => ?_)
    refine w_ifB_eq (tgt := 31) dX9_estate_17 (by decide) (fun h17 => ?_) (fun h17 => ?_)
    · (first | replace h17 := of_decide_eq_true h17 | replace h17 := of_decide_eq_false h17 | skip)
      refine w_ldc dX9_estate_31 co9_90 ?_
      refine w_iret dX9_estate_33 rfl (by omega) ?_ ⟨Nat.le_refl _, Nat.le_refl _⟩
      exact (q_x (KC.stay hC (by unfold estR; ((repeat (first | rw [if_pos (by omega)] | rw [if_neg (by omega)])) <;> rfl))))
    · (first | replace h17 := of_decide_eq_true h17 | replace h17 := of_decide_eq_false h17 | skip)
      refine w_aload_n dX9_estate_20 rfl ?_
      refine w_getR (r := 23) dX9_estate_21 fl9_35 g0_0 (by decide) rfl ?_
      refine w_iload_n dX9_estate_24 rfl ?_
      refine cVm dX9_estate_25 ok_X6_wetOf lv9_297 (c_X6_wetOf sk_23 hC.S hP.hs.2.1 hh) rfl (sk_k sk_23) (sk_n0 sk_23) (by decide) rfl (by decide) (Nat.le_of_ble_eq_true rfl) (fun r25 => ?_)
      refine w_goto (tgt := 33) dX9_estate_28 (by decide) ?_
      refine w_iret dX9_estate_33 rfl (by omega) ?_ ⟨Nat.le_refl _, Nat.le_refl _⟩
      exact (q_x (KC.stay hC (by unfold estR; ((repeat (first | rw [if_pos (by omega)] | rw [if_neg (by omega)])) <;> rfl))))
  · (first | replace h4 := of_decide_eq_true h4 | replace h4 := of_decide_eq_false h4 | skip)
    refine w_ldc dX9_estate_7 co9_161 ?_
    refine w_iret dX9_estate_9 rfl (by omega) ?_ ⟨Nat.le_refl _, Nat.le_refl _⟩
    exact (q_x (KC.stay hC (by unfold estR; ((repeat (first | rw [if_pos (by omega)] | rw [if_neg (by omega)])) <;> rfl))))
theorem c_X9_alike {E : EV} {M : MM} {p : PS} {w : Int} (hC : CI M p) (hP : POK p) (hw : R32 w) : Cx E mX9_alike 9 [vr 0, vi w] M (KC M (alikeR p w)) := by
  refine Ct.of [some (vr 0), some (vi w)] rfl rfl rfl (Nat.le_of_ble_eq_true rfl) ?_
  have e0 := hC.S.num
  refine w_aload_n dX9_alike_0 rfl ?_
  refine cVm dX9_alike_1 ok_X9_noSky lv9_165 c_X9_noSky rfl (congrArg Prod.fst g0_0) (by decide) (by decide) rfl (by decide) (Nat.le_of_ble_eq_true rfl) (fun r1 => ?_)
  refine w_ifB_eq (tgt := 10) dX9_alike_4 (by decide) (fun h4 => ?_) (fun h4 => ?_)
  · (first | replace h4 := of_decide_eq_true h4 | replace h4 := of_decide_eq_false h4 | skip)
    refine w_iload_n dX9_alike_10 rfl ?_
    refine cSm dX9_alike_11 ok_X9_isZeroOrOne (Or.inl ls9_217) (c_X9_isZeroOrOne (by omega)) rfl  rfl (by decide) (Nat.le_of_ble_eq_true rfl) (fun r11 => ?_)
    refine w_ifB_ne (tgt := 20) dX9_alike_14 (by decide) (fun h14 => ?_) (fun h14 => ?_)
    · (first | replace h14 := of_decide_eq_true h14 | replace h14 := of_decide_eq_false h14 | skip)
      refine w_iload_n dX9_alike_20 rfl ?_
      refine w_if_ne (tgt := 34) dX9_alike_21 (by decide) (by omega) (fun h21 => ?_) (fun h21 => ?_)
      · refine w_aload_n dX9_alike_34 rfl ?_
        refine w_getR (r := 23) dX9_alike_35 fl9_35 g0_0 (by decide) rfl ?_
        refine cVx dX9_alike_38 ok_X6_firstAlikePair lv9_283 (c_X6_firstAlikePair sk_23 hC.S hP.hs.n) rfl (sk_k sk_23) (sk_n0 sk_23) (by decide) rfl (by decide) (Nat.le_of_ble_eq_true rfl) (fun z38 m38 r38 p38 => ?_)
        obtain ⟨p38, pm⟩ := p38
        subst pm
        refine w_iret dX9_alike_41 rfl (by omega) ?_ ⟨Nat.le_refl _, Nat.le_refl _⟩
        first | (refine q_x (KC.stay hC ?_); unfold alikeR; ((repeat (first | rw [if_pos (by omega)] | rw [if_neg (by omega)])) <;> rfl)) | (refine q_x (KC.stay' hC p38 ?_); unfold alikeR; ((repeat (first | rw [if_pos (by omega)] | rw [if_neg (by omega)])) <;> rfl))
      · refine w_aload_n dX9_alike_24 rfl ?_
        refine w_getR (r := 23) dX9_alike_25 fl9_35 g0_0 (by decide) rfl ?_
        refine cVm dX9_alike_28 ok_X6_alikePairs lv9_280 (c_X6_alikePairs sk_23 hC.S hP.hs.n) rfl (sk_k sk_23) (sk_n0 sk_23) (by decide) rfl (by decide) (Nat.le_of_ble_eq_true rfl) (fun r28 => ?_)
        refine w_goto (tgt := 41) dX9_alike_31 (by decide) ?_
        refine w_iret dX9_alike_41 rfl (by omega) ?_ ⟨Nat.le_refl _, Nat.le_refl _⟩
        first | (refine q_x (KC.stay hC ?_); unfold alikeR; ((repeat (first | rw [if_pos (by omega)] | rw [if_neg (by omega)])) <;> rfl)) | (refine q_x (KC.stay' hC p38 ?_); unfold alikeR; ((repeat (first | rw [if_pos (by omega)] | rw [if_neg (by omega)])) <;> rfl))
    · (first | replace h14 := of_decide_eq_true h14 | replace h14 := of_decide_eq_false h14 | skip)
      refine w_ldc dX9_alike_17 co9_90 ?_
      refine w_iret dX9_alike_19 rfl (by omega) ?_ ⟨Nat.le_refl _, Nat.le_refl _⟩
      first | (refine q_x (KC.stay hC ?_); unfold alikeR; ((repeat (first | rw [if_pos (by omega)] | rw [if_neg (by omega)])) <;> rfl)) | (refine q_x (KC.stay' hC p38 ?_); unfold alikeR; ((repeat (first | rw [if_pos (by omega)] | rw [if_neg (by omega)])) <;> rfl))
  · (first | replace h4 := of_decide_eq_true h4 | replace h4 := of_decide_eq_false h4 | skip)
    refine w_ldc dX9_alike_7 co9_161 ?_
    refine w_iret dX9_alike_9 rfl (by omega) ?_ ⟨Nat.le_refl _, Nat.le_refl _⟩
    first | (refine q_x (KC.stay hC ?_); unfold alikeR; ((repeat (first | rw [if_pos (by omega)] | rw [if_neg (by omega)])) <;> rfl)) | (refine q_x (KC.stay' hC p38 ?_); unfold alikeR; ((repeat (first | rw [if_pos (by omega)] | rw [if_neg (by omega)])) <;> rfl))
theorem c_X9_likeness {E : EV} {M : MM} {p : PS} {c o : Int} (hC : CI M p) (hP : POK p) (hc : R32 c) (ho : R32 o) : Cx E mX9_likeness 9 [vr 0, vi c, vi o] M (KC M (likeR p c o)) := by
  refine Ct.of [some (vr 0), some (vi c), some (vi o), none] rfl rfl rfl (Nat.le_of_ble_eq_true rfl) ?_
  have hn := hP.hs.n
  have e0 := hC.S.num
  refine w_aload_n dX9_likeness_0 rfl ?_
  refine w_iload_n dX9_likeness_1 rfl ?_
  refine w_iload_n dX9_likeness_2 rfl ?_
  refine cVm dX9_likeness_3 ok_X9_areTwoClouds lv9_240 (c_X9_areTwoClouds (by omega) (by omega) (by omega)) rfl (congrArg Prod.fst g0_0) (by decide) (by decide) rfl (by decide) (Nat.le_of_ble_eq_true rfl) (fun r3 => ?_)
  refine w_ifB_ne (tgt := 12) dX9_likeness_6 (by decide) (fun h6 => ?_) (fun h6 => ?_)
  · (first | replace h6 := of_decide_eq_true h6 | replace h6 := of_decide_eq_false h6 | skip)
    have k1 := hC.S.kind (c := c) (by omega) (by omega)
    have k2 := hC.S.wet (c := c) (by omega) (by omega)
    have k3 := hC.S.wide (c := c) (by omega) (by omega)
    have kb := hP.hs.2.1.cl (c := c) (by omega) (by omega)
    have k4 := hC.S.kind (c := o) (by omega) (by omega)
    have k5 := hC.S.wet (c := o) (by omega) (by omega)
    have k6 := hC.S.wide (c := o) (by omega) (by omega)
    have kc := hP.hs.2.1.cl (c := o) (by omega) (by omega)
    refine w_aload_n dX9_likeness_12 rfl ?_
    refine w_getR (r := 23) dX9_likeness_13 fl9_35 g0_0 (by decide) rfl ?_
    refine w_getR (r := (23 + 1)) dX9_likeness_16 fl9_286 (sk_g0 sk_23) (sk_n0 sk_23) rfl ?_
    refine w_iload_n dX9_likeness_19 rfl ?_
    refine r_ild dX9_likeness_20 (sk_g1 sk_23) (sk_n1 sk_23) (by omega) (by omega) (by decide) (fun r20 => ?_)
    refine w_aload_n dX9_likeness_21 rfl ?_
    refine w_getR (r := 23) dX9_likeness_22 fl9_35 g0_0 (by decide) rfl ?_
    refine w_getR (r := (23 + 1)) dX9_likeness_25 fl9_286 (sk_g0 sk_23) (sk_n0 sk_23) rfl ?_
    refine w_iload_n dX9_likeness_28 rfl ?_
    refine r_ild dX9_likeness_29 (sk_g1 sk_23) (sk_n1 sk_23) (by omega) (by omega) (by decide) (fun r29 => ?_)
    refine w_icmp_ne (tgt := 38) dX9_likeness_30 (by decide) (by omega) (by omega) (fun h30 => ?_) (fun h30 => ?_)
    · refine w_bipush dX9_likeness_38 (by decide +kernel) ?_
      refine w_istore_n dX9_likeness_40 (by decide) ?_
      refine w_iload_n dX9_likeness_41 rfl ?_
      refine w_iconst dX9_likeness_42 ?_
      refine w_aload_n dX9_likeness_43 rfl ?_
      refine w_getR (r := 23) dX9_likeness_44 fl9_35 g0_0 (by decide) rfl ?_
      refine w_getR (r := (23 + 3)) dX9_likeness_47 fl9_205 (sk_g0 sk_23) (sk_n0 sk_23) rfl ?_
      refine w_iload_n dX9_likeness_50 rfl ?_
      refine r_ild dX9_likeness_51 (sk_g3 sk_23) (sk_n3 sk_23) (by omega) (by omega) (by decide) (fun r51 => ?_)
      refine w_aload_n dX9_likeness_52 rfl ?_
      refine w_getR (r := 23) dX9_likeness_53 fl9_35 g0_0 (by decide) rfl ?_
      refine w_getR (r := (23 + 3)) dX9_likeness_56 fl9_205 (sk_g0 sk_23) (sk_n0 sk_23) rfl ?_
      refine w_iload_n dX9_likeness_59 rfl ?_
      refine r_ild dX9_likeness_60 (sk_g3 sk_23) (sk_n3 sk_23) (by omega) (by omega) (by decide) (fun r60 => ?_)
      refine w_isub dX9_likeness_61 ?_
      refine w_mabs dX9_likeness_62 lm9_289 (by omega) ⟨by decide, by decide, by decide⟩ (Nat.le_of_ble_eq_true rfl) ?_
      refine w_imul dX9_likeness_65 ?_
      refine w_isub dX9_likeness_66 ?_
      refine w_istore_n dX9_likeness_67 (by decide) ?_
      refine w_iload_n dX9_likeness_68 rfl ?_
      refine w_aload_n dX9_likeness_69 rfl ?_
      refine w_getR (r := 23) dX9_likeness_70 fl9_35 g0_0 (by decide) rfl ?_
      refine w_getR (r := (23 + 4)) dX9_likeness_73 fl9_192 (sk_g0 sk_23) (sk_n0 sk_23) rfl ?_
      refine w_iload_n dX9_likeness_76 rfl ?_
      refine r_ild dX9_likeness_77 (sk_g4 sk_23) (sk_n4 sk_23) (by omega) (by omega) (by decide) (fun r77 => ?_)
      refine w_aload_n dX9_likeness_78 rfl ?_
      refine w_getR (r := 23) dX9_likeness_79 fl9_35 g0_0 (by decide) rfl ?_
      refine w_getR (r := (23 + 4)) dX9_likeness_82 fl9_192 (sk_g0 sk_23) (sk_n0 sk_23) rfl ?_
      refine w_iload_n dX9_likeness_85 rfl ?_
      refine r_ild dX9_likeness_86 (sk_g4 sk_23) (sk_n4 sk_23) (by omega) (by omega) (by decide) (fun r86 => ?_)
      refine w_isub dX9_likeness_87 ?_
      refine w_mabs dX9_likeness_88 lm9_289 (by omega) ⟨by decide, by decide, by decide⟩ (Nat.le_of_ble_eq_true rfl) ?_
      refine w_isub dX9_likeness_91 ?_
      refine w_istore_n dX9_likeness_92 (by decide) ?_
      refine w_iload_n dX9_likeness_93 rfl ?_
      refine w_iconst dX9_likeness_94 ?_
      refine w_mmax dX9_likeness_95 lm9_294 (by (repeat' split) <;> omega) (by omega) ⟨by decide, by decide, by decide⟩ (Nat.le_of_ble_eq_true rfl) ?_
      refine w_iret dX9_likeness_98 rfl (by (repeat' split) <;> omega) ?_ ⟨Nat.le_refl _, Nat.le_refl _⟩
      refine q_x (KC.stay' hC (z' := if lkF p.S c o < 0 then 0 else lkF p.S c o) ?_ (by unfold likeR; exact (if_pos (by omega)).symm))
      unfold lkF abF
      first | rw [if_pos (show p.S (4 + 5 * c) = p.S (4 + 5 * o) by omega)] | rw [if_neg (show ¬ p.S (4 + 5 * c) = p.S (4 + 5 * o) by omega)]
      (repeat' split) <;> omega
    · refine w_bipush dX9_likeness_33 (by decide +kernel) ?_
      refine w_goto (tgt := 40) dX9_likeness_35 (by decide) ?_
      refine w_istore_n dX9_likeness_40 (by decide) ?_
      refine w_iload_n dX9_likeness_41 rfl ?_
      refine w_iconst dX9_likeness_42 ?_
      refine w_aload_n dX9_likeness_43 rfl ?_
      refine w_getR (r := 23) dX9_likeness_44 fl9_35 g0_0 (by decide) rfl ?_
      refine w_getR (r := (23 + 3)) dX9_likeness_47 fl9_205 (sk_g0 sk_23) (sk_n0 sk_23) rfl ?_
      refine w_iload_n dX9_likeness_50 rfl ?_
      refine r_ild dX9_likeness_51 (sk_g3 sk_23) (sk_n3 sk_23) (by omega) (by omega) (by decide) (fun r51 => ?_)
      refine w_aload_n dX9_likeness_52 rfl ?_
      refine w_getR (r := 23) dX9_likeness_53 fl9_35 g0_0 (by decide) rfl ?_
      refine w_getR (r := (23 + 3)) dX9_likeness_56 fl9_205 (sk_g0 sk_23) (sk_n0 sk_23) rfl ?_
      refine w_iload_n dX9_likeness_59 rfl ?_
      refine r_ild dX9_likeness_60 (sk_g3 sk_23) (sk_n3 sk_23) (by omega) (by omega) (by decide) (fun r60 => ?_)
      refine w_isub dX9_likeness_61 ?_
      refine w_mabs dX9_likeness_62 lm9_289 (by omega) ⟨by decide, by decide, by decide⟩ (Nat.le_of_ble_eq_true rfl) ?_
      refine w_imul dX9_likeness_65 ?_
      refine w_isub dX9_likeness_66 ?_
      refine w_istore_n dX9_likeness_67 (by decide) ?_
      refine w_iload_n dX9_likeness_68 rfl ?_
      refine w_aload_n dX9_likeness_69 rfl ?_
      refine w_getR (r := 23) dX9_likeness_70 fl9_35 g0_0 (by decide) rfl ?_
      refine w_getR (r := (23 + 4)) dX9_likeness_73 fl9_192 (sk_g0 sk_23) (sk_n0 sk_23) rfl ?_
      refine w_iload_n dX9_likeness_76 rfl ?_
      refine r_ild dX9_likeness_77 (sk_g4 sk_23) (sk_n4 sk_23) (by omega) (by omega) (by decide) (fun r77 => ?_)
      refine w_aload_n dX9_likeness_78 rfl ?_
      refine w_getR (r := 23) dX9_likeness_79 fl9_35 g0_0 (by decide) rfl ?_
      refine w_getR (r := (23 + 4)) dX9_likeness_82 fl9_192 (sk_g0 sk_23) (sk_n0 sk_23) rfl ?_
      refine w_iload_n dX9_likeness_85 rfl ?_
      refine r_ild dX9_likeness_86 (sk_g4 sk_23) (sk_n4 sk_23) (by omega) (by omega) (by decide) (fun r86 => ?_)
      refine w_isub dX9_likeness_87 ?_
      refine w_mabs dX9_likeness_88 lm9_289 (by omega) ⟨by decide, by decide, by decide⟩ (Nat.le_of_ble_eq_true rfl) ?_
      refine w_isub dX9_likeness_91 ?_
      refine w_istore_n dX9_likeness_92 (by decide) ?_
      refine w_iload_n dX9_likeness_93 rfl ?_
      refine w_iconst dX9_likeness_94 ?_
      refine w_mmax dX9_likeness_95 lm9_294 (by (repeat' split) <;> omega) (by omega) ⟨by decide, by decide, by decide⟩ (Nat.le_of_ble_eq_true rfl) ?_
      refine w_iret dX9_likeness_98 rfl (by (repeat' split) <;> omega) ?_ ⟨Nat.le_refl _, Nat.le_refl _⟩
      refine q_x (KC.stay' hC (z' := if lkF p.S c o < 0 then 0 else lkF p.S c o) ?_ (by unfold likeR; exact (if_pos (by omega)).symm))
      unfold lkF abF
      first | rw [if_pos (show p.S (4 + 5 * c) = p.S (4 + 5 * o) by omega)] | rw [if_neg (show ¬ p.S (4 + 5 * c) = p.S (4 + 5 * o) by omega)]
      (repeat' split) <;> omega
  · (first | replace h6 := of_decide_eq_true h6 | replace h6 := of_decide_eq_false h6 | skip)
    refine w_ldc dX9_likeness_9 co9_90 ?_
    refine w_iret dX9_likeness_11 rfl (by omega) ?_ ⟨Nat.le_refl _, Nat.le_refl _⟩
    exact (q_x (KC.stay hC (by unfold likeR; ((repeat (first | rw [if_pos (by omega)] | rw [if_neg (by omega)])) <;> rfl))))
theorem c_X9_from {E : EV} {M : MM} {p : PS} {c n : Int} (hC : CI M p) (hP : POK p) (hc : R32 c) (hn9 : R32 n) : Cx E mX9_from 9 [vr 0, vi c, vi n] M (KC M (fromR p c n)) := by
  refine Ct.of [some (vr 0), some (vi c), some (vi n)] rfl rfl rfl (Nat.le_of_ble_eq_true rfl) ?_
  have hn := hP.hs.n
  have e0 := hC.S.num
  have hw := hP.hs.2.1.2.1
  have ew := hC.S.wind
  refine w_aload_n dX9_from_0 rfl ?_
  refine w_iload_n dX9_from_1 rfl ?_
  refine cVm dX9_from_2 ok_X9_isCloud lv9_180 (c_X9_isCloud (by omega) (by omega)) rfl (congrArg Prod.fst g0_0) (by decide) (by decide) rfl (by decide) (Nat.le_of_ble_eq_true rfl) (fun r2 => ?_)
  refine w_ifB_eq (tgt := 18) dX9_from_5 (by decide) (fun h5 => ?_) (fun h5 => ?_)
  · (first | replace h5 := of_decide_eq_true h5 | replace h5 := of_decide_eq_false h5 | skip)
    refine w_ldc dX9_from_18 co9_90 ?_
    refine w_iret dX9_from_20 rfl (by omega) ?_ ⟨Nat.le_refl _, Nat.le_refl _⟩
    exact (q_x (KC.stay hC (by unfold fromR; ((repeat (first | rw [if_pos (by omega)] | rw [if_neg (by omega)])) <;> rfl))))
  · (first | replace h5 := of_decide_eq_true h5 | replace h5 := of_decide_eq_false h5 | skip)
    refine w_iload_n dX9_from_8 rfl ?_
    refine w_iconst dX9_from_9 ?_
    refine w_bipush dX9_from_10 (by decide +kernel) ?_
    refine cSm dX9_from_12 ok_X9_within (Or.inl ls9_86) (c_X9_within (by omega) (by omega) (by omega)) rfl  rfl (by decide) (Nat.le_of_ble_eq_true rfl) (fun r12 => ?_)
    refine w_ifB_ne (tgt := 21) dX9_from_15 (by decide) (fun h15 => ?_) (fun h15 => ?_)
    · (first | replace h15 := of_decide_eq_true h15 | replace h15 := of_decide_eq_false h15 | skip)
      have k1 := hC.S.kind (c := c) (by omega) (by omega)
      have k2 := hC.S.wet (c := c) (by omega) (by omega)
      have k3 := hC.S.place (c := c) (by omega) (by omega)
      refine w_aload_n dX9_from_21 rfl ?_
      refine w_getR (r := 23) dX9_from_22 fl9_35 g0_0 (by decide) rfl ?_
      refine w_iload_n dX9_from_25 rfl ?_
      refine cVm dX9_from_26 ok_X6_isGone lv9_183 (c_X6_isGone sk_23 (by omega) (by omega)) rfl (sk_k sk_23) (sk_n0 sk_23) (by decide) rfl (by decide) (Nat.le_of_ble_eq_true rfl) (fun r26 => ?_)
      refine w_ifB_eq (tgt := 35) dX9_from_29 (by decide) (fun h29 => ?_) (fun h29 => ?_)
      · (first | replace h29 := of_decide_eq_true h29 | replace h29 := of_decide_eq_false h29 | skip)
        refine w_aload_n dX9_from_35 rfl ?_
        refine w_getR (r := 23) dX9_from_36 fl9_35 g0_0 (by decide) rfl ?_
        refine w_getR (r := (23 + 2)) dX9_from_39 fl9_186 (sk_g0 sk_23) (sk_n0 sk_23) rfl ?_
        refine w_iload_n dX9_from_42 rfl ?_
        refine r_ild dX9_from_43 (sk_g2 sk_23) (sk_n2 sk_23) (by omega) (by omega) (by decide) (fun r43 => ?_)
        refine w_iload_n dX9_from_44 rfl ?_
        refine w_aload_n dX9_from_45 rfl ?_
        refine w_getR (r := 23) dX9_from_46 fl9_35 g0_0 (by decide) rfl ?_
        refine w_iload_n dX9_from_49 rfl ?_
        refine cVm dX9_from_50 ok_X6_speed lv9_277 (c_X6_speed sk_23 (by omega) (by omega) (by omega)) rfl (sk_k sk_23) (sk_n0 sk_23) (by decide) rfl (by decide) (Nat.le_of_ble_eq_true rfl) (fun r50 => ?_)
        refine w_imul dX9_from_53 ?_
        refine w_isub dX9_from_54 ?_
        refine cSm dX9_from_55 ok_X9_ring (Or.inl ls9_189) c_X9_ring rfl  rfl (by decide) (Nat.le_of_ble_eq_true rfl) (fun r55 => ?_)
        refine w_iret dX9_from_58 rfl (by omega) ?_ ⟨Nat.le_refl _, Nat.le_refl _⟩
        exact (q_x (KC.stay' hC (by rw [k1, k3, ew]) (by unfold fromR; ((repeat (first | rw [if_pos (by omega)] | rw [if_neg (by omega)])) <;> rfl))))
      · (first | replace h29 := of_decide_eq_true h29 | replace h29 := of_decide_eq_false h29 | skip)
        refine w_ldc dX9_from_32 co9_161 ?_
        refine w_iret dX9_from_34 rfl (by omega) ?_ ⟨Nat.le_refl _, Nat.le_refl _⟩
        exact (q_x (KC.stay hC (by unfold fromR; ((repeat (first | rw [if_pos (by omega)] | rw [if_neg (by omega)])) <;> rfl))))
    · (first | replace h15 := of_decide_eq_true h15 | replace h15 := of_decide_eq_false h15 | skip)
      refine w_ldc dX9_from_18 co9_90 ?_
      refine w_iret dX9_from_20 rfl (by omega) ?_ ⟨Nat.le_refl _, Nat.le_refl _⟩
      exact (q_x (KC.stay hC (by unfold fromR; ((repeat (first | rw [if_pos (by omega)] | rw [if_neg (by omega)])) <;> rfl))))
theorem c_X9_field {E : EV} {M : MM} {p : PS} {f w : Int} (hC : CI M p) (hP : POK p) (hf : R32 f) (hw : R32 w) : Cx E mX9_field 9 [vr 0, vi f, vi w] M (KC M (fieldR p f w)) := by
  refine Ct.of [some (vr 0), some (vi f), some (vi w)] rfl rfl rfl (Nat.le_of_ble_eq_true rfl) ?_
  have e0 := hC.S.num
  refine w_aload_n dX9_field_0 rfl ?_
  refine cVm dX9_field_1 ok_X9_noSky lv9_165 c_X9_noSky rfl (congrArg Prod.fst g0_0) (by decide) (by decide) rfl (by decide) (Nat.le_of_ble_eq_true rfl) (fun r1 => ?_)
  refine w_ifB_eq (tgt := 10) dX9_field_4 (by decide) (fun h4 => ?_) (fun h4 => ?_)
  · (first | replace h4 := of_decide_eq_true h4 | replace h4 := of_decide_eq_false h4 | skip)
    refine w_iload_n dX9_field_10 rfl ?_
    refine cSm dX9_field_11 ok_X9_isField (Or.inl ls9_214) (c_X9_isField (by omega)) rfl  rfl (by decide) (Nat.le_of_ble_eq_true rfl) (fun r11 => ?_)
    refine w_ifB_eq (tgt := 24) dX9_field_14 (by decide) (fun h14 => ?_) (fun h14 => ?_)
    · (first | replace h14 := of_decide_eq_true h14 | replace h14 := of_decide_eq_false h14 | skip)
      refine w_ldc dX9_field_24 co9_90 ?_
      refine w_iret dX9_field_26 rfl (by omega) ?_ ⟨Nat.le_refl _, Nat.le_refl _⟩
      first | (refine q_x (KC.stay hC ?_); unfold fieldR; ((repeat (first | rw [if_pos (by omega)] | rw [if_neg (by omega)])) <;> rfl)) | (refine q_x (KC.stay' hC k1 ?_); unfold fieldR; ((repeat (first | rw [if_pos (by omega)] | rw [if_neg (by omega)])) <;> rfl))
    · (first | replace h14 := of_decide_eq_true h14 | replace h14 := of_decide_eq_false h14 | skip)
      refine w_iload_n dX9_field_17 rfl ?_
      refine cSm dX9_field_18 ok_X9_isZeroOrOne (Or.inl ls9_217) (c_X9_isZeroOrOne (by omega)) rfl  rfl (by decide) (Nat.le_of_ble_eq_true rfl) (fun r18 => ?_)
      refine w_ifB_ne (tgt := 27) dX9_field_21 (by decide) (fun h21 => ?_) (fun h21 => ?_)
      · (first | replace h21 := of_decide_eq_true h21 | replace h21 := of_decide_eq_false h21 | skip)
        have k1 := hC.S.2.2 f (by omega) (by omega)
        refine w_iload_n dX9_field_27 rfl ?_
        refine w_if_ne (tgt := 43) dX9_field_28 (by decide) (by omega) (fun h28 => ?_) (fun h28 => ?_)
        · refine w_aload_n dX9_field_43 rfl ?_
          refine w_getR (r := 23) dX9_field_44 fl9_35 g0_0 (by decide) rfl ?_
          refine w_iload_n dX9_field_47 rfl ?_
          refine cVm dX9_field_48 ok_X6_cloudsOver lv9_223 (c_X6_cloudsOver sk_23 hC.S hP.hs.2.1 (by omega) (by omega)) rfl (sk_k sk_23) (sk_n0 sk_23) (by decide) rfl (by decide) (Nat.le_of_ble_eq_true rfl) (fun r48 => ?_)
          refine w_iret dX9_field_51 rfl (by omega) ?_ ⟨Nat.le_refl _, Nat.le_refl _⟩
          first | (refine q_x (KC.stay hC ?_); unfold fieldR; ((repeat (first | rw [if_pos (by omega)] | rw [if_neg (by omega)])) <;> rfl)) | (refine q_x (KC.stay' hC k1 ?_); unfold fieldR; ((repeat (first | rw [if_pos (by omega)] | rw [if_neg (by omega)])) <;> rfl))
        · refine w_aload_n dX9_field_31 rfl ?_
          refine w_getR (r := 23) dX9_field_32 fl9_35 g0_0 (by decide) rfl ?_
          refine w_getR (r := (23 + 6)) dX9_field_35 fl9_220 (sk_g0 sk_23) (sk_n0 sk_23) rfl ?_
          refine w_iload_n dX9_field_38 rfl ?_
          refine r_ild dX9_field_39 (sk_g6 sk_23) (sk_n6 sk_23) (by omega) (by omega) (by decide) (fun r39 => ?_)
          refine w_goto (tgt := 51) dX9_field_40 (by decide) ?_
          refine w_iret dX9_field_51 rfl (by omega) ?_ ⟨Nat.le_refl _, Nat.le_refl _⟩
          first | (refine q_x (KC.stay hC ?_); unfold fieldR; ((repeat (first | rw [if_pos (by omega)] | rw [if_neg (by omega)])) <;> rfl)) | (refine q_x (KC.stay' hC k1 ?_); unfold fieldR; ((repeat (first | rw [if_pos (by omega)] | rw [if_neg (by omega)])) <;> rfl))
      · (first | replace h21 := of_decide_eq_true h21 | replace h21 := of_decide_eq_false h21 | skip)
        refine w_ldc dX9_field_24 co9_90 ?_
        refine w_iret dX9_field_26 rfl (by omega) ?_ ⟨Nat.le_refl _, Nat.le_refl _⟩
        first | (refine q_x (KC.stay hC ?_); unfold fieldR; ((repeat (first | rw [if_pos (by omega)] | rw [if_neg (by omega)])) <;> rfl)) | (refine q_x (KC.stay' hC k1 ?_); unfold fieldR; ((repeat (first | rw [if_pos (by omega)] | rw [if_neg (by omega)])) <;> rfl))
  · (first | replace h4 := of_decide_eq_true h4 | replace h4 := of_decide_eq_false h4 | skip)
    refine w_ldc dX9_field_7 co9_161 ?_
    refine w_iret dX9_field_9 rfl (by omega) ?_ ⟨Nat.le_refl _, Nat.le_refl _⟩
    first | (refine q_x (KC.stay hC ?_); unfold fieldR; ((repeat (first | rw [if_pos (by omega)] | rw [if_neg (by omega)])) <;> rfl)) | (refine q_x (KC.stay' hC k1 ?_); unfold fieldR; ((repeat (first | rw [if_pos (by omega)] | rw [if_neg (by omega)])) <;> rfl))
theorem c_X9_cloud {E : EV} {M : MM} {p : PS} {c w : Int} (hC : CI M p) (hP : POK p) (hc : R32 c) (hw : R32 w) : Cx E mX9_cloud 9 [vr 0, vi c, vi w] M (KC M (cloudR p c w)) := by
  refine Ct.of [some (vr 0), some (vi c), some (vi w)] rfl rfl rfl (Nat.le_of_ble_eq_true rfl) ?_
  have hn := hP.hs.n
  have e0 := hC.S.num
  have e3 := hC.S.day
  refine w_aload_n dX9_cloud_0 rfl ?_
  refine w_iload_n dX9_cloud_1 rfl ?_
  refine cVm dX9_cloud_2 ok_X9_isCloud lv9_180 (c_X9_isCloud (by omega) (by omega)) rfl (congrArg Prod.fst g0_0) (by decide) (by decide) rfl (by decide) (Nat.le_of_ble_eq_true rfl) (fun r2 => ?_)
  refine w_ifB_ne (tgt := 11) dX9_cloud_5 (by decide) (fun h5 => ?_) (fun h5 => ?_)
  · (first | replace h5 := of_decide_eq_true h5 | replace h5 := of_decide_eq_false h5 | skip)
    have k1 := hC.S.kind (c := c) (by omega) (by omega)
    have k2 := hC.S.wet (c := c) (by omega) (by omega)
    have k3 := hC.S.wide (c := c) (by omega) (by omega)
    have kb := hP.hs.2.1.cl (c := c) (by omega) (by omega)
    have k4 := hC.S.place (c := c) (by omega) (by omega)
    have k5 := hC.S.hand (c := c) (by omega) (by omega)
    have eS : ((shadeF (M (23 + 2) c) (M (23 + 3) c) (M (23 + 4) c) : Nat) : Int) = ((shF p.S c : Nat) : Int) := by unfold shF; rw [k4, k3, k2]
    have eN : M (23 + 3) c * rainF (M (23 + 1) c) (M 23 3) = p.S (6 + 5 * c) * rainF (p.S (4 + 5 * c)) (p.S 3) := by rw [k1, k3, e3]
    refine w_iload_n dX9_cloud_11 rfl ?_
    refine w_tabC (0) (tgt := 52) dX9_cloud_12 (by omega) (by decide) rfl (by decide) (fun t0 => ?_) (fun t0 => ?_)
    · refine w_aload_n dX9_cloud_52 rfl ?_
      refine w_getR (r := 23) dX9_cloud_53 fl9_35 g0_0 (by decide) rfl ?_
      refine w_getR (r := (23 + 2)) dX9_cloud_56 fl9_186 (sk_g0 sk_23) (sk_n0 sk_23) rfl ?_
      refine w_iload_n dX9_cloud_59 rfl ?_
      refine r_ild dX9_cloud_60 (sk_g2 sk_23) (sk_n2 sk_23) (by omega) (by omega) (by decide) (fun r60 => ?_)
      refine w_iret dX9_cloud_61 rfl (by omega) ?_ ⟨Nat.le_refl _, Nat.le_refl _⟩
      first | (refine q_x (KC.stay hC ?_); unfold cloudR; ((repeat (first | rw [if_pos (by omega)] | rw [if_neg (by omega)])) <;> rfl)) | (refine q_x (KC.stay' hC k4 ?_); unfold cloudR; ((repeat (first | rw [if_pos (by omega)] | rw [if_neg (by omega)])) <;> rfl)) | (refine q_x (KC.stay' hC k3 ?_); unfold cloudR; ((repeat (first | rw [if_pos (by omega)] | rw [if_neg (by omega)])) <;> rfl)) | (refine q_x (KC.stay' hC k2 ?_); unfold cloudR; ((repeat (first | rw [if_pos (by omega)] | rw [if_neg (by omega)])) <;> rfl)) | (refine q_x (KC.stay' hC k5 ?_); unfold cloudR; ((repeat (first | rw [if_pos (by omega)] | rw [if_neg (by omega)])) <;> rfl)) | (refine q_x (KC.stay' hC eS ?_); unfold cloudR; ((repeat (first | rw [if_pos (by omega)] | rw [if_neg (by omega)])) <;> rfl)) | (refine q_x (KC.stay' hC eN ?_); unfold cloudR; ((repeat (first | rw [if_pos (by omega)] | rw [if_neg (by omega)])) <;> rfl))
    refine w_tabC (1) (tgt := 62) dX9_cloud_12 (by omega) (by decide) rfl (by decide) (fun t1 => ?_) (fun t1 => ?_)
    · refine w_aload_n dX9_cloud_62 rfl ?_
      refine w_getR (r := 23) dX9_cloud_63 fl9_35 g0_0 (by decide) rfl ?_
      refine w_getR (r := (23 + 3)) dX9_cloud_66 fl9_205 (sk_g0 sk_23) (sk_n0 sk_23) rfl ?_
      refine w_iload_n dX9_cloud_69 rfl ?_
      refine r_ild dX9_cloud_70 (sk_g3 sk_23) (sk_n3 sk_23) (by omega) (by omega) (by decide) (fun r70 => ?_)
      refine w_iret dX9_cloud_71 rfl (by omega) ?_ ⟨Nat.le_refl _, Nat.le_refl _⟩
      first | (refine q_x (KC.stay hC ?_); unfold cloudR; ((repeat (first | rw [if_pos (by omega)] | rw [if_neg (by omega)])) <;> rfl)) | (refine q_x (KC.stay' hC k4 ?_); unfold cloudR; ((repeat (first | rw [if_pos (by omega)] | rw [if_neg (by omega)])) <;> rfl)) | (refine q_x (KC.stay' hC k3 ?_); unfold cloudR; ((repeat (first | rw [if_pos (by omega)] | rw [if_neg (by omega)])) <;> rfl)) | (refine q_x (KC.stay' hC k2 ?_); unfold cloudR; ((repeat (first | rw [if_pos (by omega)] | rw [if_neg (by omega)])) <;> rfl)) | (refine q_x (KC.stay' hC k5 ?_); unfold cloudR; ((repeat (first | rw [if_pos (by omega)] | rw [if_neg (by omega)])) <;> rfl)) | (refine q_x (KC.stay' hC eS ?_); unfold cloudR; ((repeat (first | rw [if_pos (by omega)] | rw [if_neg (by omega)])) <;> rfl)) | (refine q_x (KC.stay' hC eN ?_); unfold cloudR; ((repeat (first | rw [if_pos (by omega)] | rw [if_neg (by omega)])) <;> rfl))
    refine w_tabC (2) (tgt := 72) dX9_cloud_12 (by omega) (by decide) rfl (by decide) (fun t2 => ?_) (fun t2 => ?_)
    · refine w_aload_n dX9_cloud_72 rfl ?_
      refine w_getR (r := 23) dX9_cloud_73 fl9_35 g0_0 (by decide) rfl ?_
      refine w_getR (r := (23 + 4)) dX9_cloud_76 fl9_192 (sk_g0 sk_23) (sk_n0 sk_23) rfl ?_
      refine w_iload_n dX9_cloud_79 rfl ?_
      refine r_ild dX9_cloud_80 (sk_g4 sk_23) (sk_n4 sk_23) (by omega) (by omega) (by decide) (fun r80 => ?_)
      refine w_iret dX9_cloud_81 rfl (by omega) ?_ ⟨Nat.le_refl _, Nat.le_refl _⟩
      first | (refine q_x (KC.stay hC ?_); unfold cloudR; ((repeat (first | rw [if_pos (by omega)] | rw [if_neg (by omega)])) <;> rfl)) | (refine q_x (KC.stay' hC k4 ?_); unfold cloudR; ((repeat (first | rw [if_pos (by omega)] | rw [if_neg (by omega)])) <;> rfl)) | (refine q_x (KC.stay' hC k3 ?_); unfold cloudR; ((repeat (first | rw [if_pos (by omega)] | rw [if_neg (by omega)])) <;> rfl)) | (refine q_x (KC.stay' hC k2 ?_); unfold cloudR; ((repeat (first | rw [if_pos (by omega)] | rw [if_neg (by omega)])) <;> rfl)) | (refine q_x (KC.stay' hC k5 ?_); unfold cloudR; ((repeat (first | rw [if_pos (by omega)] | rw [if_neg (by omega)])) <;> rfl)) | (refine q_x (KC.stay' hC eS ?_); unfold cloudR; ((repeat (first | rw [if_pos (by omega)] | rw [if_neg (by omega)])) <;> rfl)) | (refine q_x (KC.stay' hC eN ?_); unfold cloudR; ((repeat (first | rw [if_pos (by omega)] | rw [if_neg (by omega)])) <;> rfl))
    refine w_tabC (3) (tgt := 82) dX9_cloud_12 (by omega) (by decide) rfl (by decide) (fun t3 => ?_) (fun t3 => ?_)
    · refine w_aload_n dX9_cloud_82 rfl ?_
      refine w_getR (r := 23) dX9_cloud_83 fl9_35 g0_0 (by decide) rfl ?_
      refine w_getR (r := (23 + 5)) dX9_cloud_86 fl9_202 (sk_g0 sk_23) (sk_n0 sk_23) rfl ?_
      refine w_iload_n dX9_cloud_89 rfl ?_
      refine r_ild dX9_cloud_90 (sk_g5 sk_23) (sk_n5 sk_23) (by omega) (by omega) (by decide) (fun r90 => ?_)
      refine w_iret dX9_cloud_91 rfl (by omega) ?_ ⟨Nat.le_refl _, Nat.le_refl _⟩
      first | (refine q_x (KC.stay hC ?_); unfold cloudR; ((repeat (first | rw [if_pos (by omega)] | rw [if_neg (by omega)])) <;> rfl)) | (refine q_x (KC.stay' hC k4 ?_); unfold cloudR; ((repeat (first | rw [if_pos (by omega)] | rw [if_neg (by omega)])) <;> rfl)) | (refine q_x (KC.stay' hC k3 ?_); unfold cloudR; ((repeat (first | rw [if_pos (by omega)] | rw [if_neg (by omega)])) <;> rfl)) | (refine q_x (KC.stay' hC k2 ?_); unfold cloudR; ((repeat (first | rw [if_pos (by omega)] | rw [if_neg (by omega)])) <;> rfl)) | (refine q_x (KC.stay' hC k5 ?_); unfold cloudR; ((repeat (first | rw [if_pos (by omega)] | rw [if_neg (by omega)])) <;> rfl)) | (refine q_x (KC.stay' hC eS ?_); unfold cloudR; ((repeat (first | rw [if_pos (by omega)] | rw [if_neg (by omega)])) <;> rfl)) | (refine q_x (KC.stay' hC eN ?_); unfold cloudR; ((repeat (first | rw [if_pos (by omega)] | rw [if_neg (by omega)])) <;> rfl))
    refine w_tabC (4) (tgt := 92) dX9_cloud_12 (by omega) (by decide) rfl (by decide) (fun t4 => ?_) (fun t4 => ?_)
    · refine w_aload_n dX9_cloud_92 rfl ?_
      refine w_getR (r := 23) dX9_cloud_93 fl9_35 g0_0 (by decide) rfl ?_
      refine w_iload_n dX9_cloud_96 rfl ?_
      refine cVm dX9_cloud_97 ok_X6_shade lv9_208 (c_X6_shade sk_23 (by omega) (by omega) (by omega) (by omega) (by omega) (by omega)) rfl (sk_k sk_23) (sk_n0 sk_23) (by decide) rfl (by decide) (Nat.le_of_ble_eq_true rfl) (fun r97 => ?_)
      refine w_iret dX9_cloud_100 rfl (by omega) ?_ ⟨Nat.le_refl _, Nat.le_refl _⟩
      first | (refine q_x (KC.stay hC ?_); unfold cloudR; ((repeat (first | rw [if_pos (by omega)] | rw [if_neg (by omega)])) <;> rfl)) | (refine q_x (KC.stay' hC k4 ?_); unfold cloudR; ((repeat (first | rw [if_pos (by omega)] | rw [if_neg (by omega)])) <;> rfl)) | (refine q_x (KC.stay' hC k3 ?_); unfold cloudR; ((repeat (first | rw [if_pos (by omega)] | rw [if_neg (by omega)])) <;> rfl)) | (refine q_x (KC.stay' hC k2 ?_); unfold cloudR; ((repeat (first | rw [if_pos (by omega)] | rw [if_neg (by omega)])) <;> rfl)) | (refine q_x (KC.stay' hC k5 ?_); unfold cloudR; ((repeat (first | rw [if_pos (by omega)] | rw [if_neg (by omega)])) <;> rfl)) | (refine q_x (KC.stay' hC eS ?_); unfold cloudR; ((repeat (first | rw [if_pos (by omega)] | rw [if_neg (by omega)])) <;> rfl)) | (refine q_x (KC.stay' hC eN ?_); unfold cloudR; ((repeat (first | rw [if_pos (by omega)] | rw [if_neg (by omega)])) <;> rfl))
    refine w_tabC (5) (tgt := 101) dX9_cloud_12 (by omega) (by decide) rfl (by decide) (fun t5 => ?_) (fun t5 => ?_)
    · refine w_aload_n dX9_cloud_101 rfl ?_
      refine w_getR (r := 23) dX9_cloud_102 fl9_35 g0_0 (by decide) rfl ?_
      refine w_iload_n dX9_cloud_105 rfl ?_
      refine cVm dX9_cloud_106 ok_X6_need lv9_211 (c_X6_need sk_23 (by omega) (by omega) (by omega) (by omega)) rfl (sk_k sk_23) (sk_n0 sk_23) (by decide) rfl (by decide) (Nat.le_of_ble_eq_true rfl) (fun r106 => ?_)
      refine w_iret dX9_cloud_109 rfl (by omega) ?_ ⟨Nat.le_refl _, Nat.le_refl _⟩
      first | (refine q_x (KC.stay hC ?_); unfold cloudR; ((repeat (first | rw [if_pos (by omega)] | rw [if_neg (by omega)])) <;> rfl)) | (refine q_x (KC.stay' hC k4 ?_); unfold cloudR; ((repeat (first | rw [if_pos (by omega)] | rw [if_neg (by omega)])) <;> rfl)) | (refine q_x (KC.stay' hC k3 ?_); unfold cloudR; ((repeat (first | rw [if_pos (by omega)] | rw [if_neg (by omega)])) <;> rfl)) | (refine q_x (KC.stay' hC k2 ?_); unfold cloudR; ((repeat (first | rw [if_pos (by omega)] | rw [if_neg (by omega)])) <;> rfl)) | (refine q_x (KC.stay' hC k5 ?_); unfold cloudR; ((repeat (first | rw [if_pos (by omega)] | rw [if_neg (by omega)])) <;> rfl)) | (refine q_x (KC.stay' hC eS ?_); unfold cloudR; ((repeat (first | rw [if_pos (by omega)] | rw [if_neg (by omega)])) <;> rfl)) | (refine q_x (KC.stay' hC eN ?_); unfold cloudR; ((repeat (first | rw [if_pos (by omega)] | rw [if_neg (by omega)])) <;> rfl))
    refine w_tabOut (tgt := 110) dX9_cloud_12 (by omega) (by omega) (by decide) ?_
    refine w_ldc dX9_cloud_110 co9_90 ?_
    refine w_iret dX9_cloud_112 rfl (by omega) ?_ ⟨Nat.le_refl _, Nat.le_refl _⟩
    first | (refine q_x (KC.stay hC ?_); unfold cloudR; ((repeat (first | rw [if_pos (by omega)] | rw [if_neg (by omega)])) <;> rfl)) | (refine q_x (KC.stay' hC k4 ?_); unfold cloudR; ((repeat (first | rw [if_pos (by omega)] | rw [if_neg (by omega)])) <;> rfl)) | (refine q_x (KC.stay' hC k3 ?_); unfold cloudR; ((repeat (first | rw [if_pos (by omega)] | rw [if_neg (by omega)])) <;> rfl)) | (refine q_x (KC.stay' hC k2 ?_); unfold cloudR; ((repeat (first | rw [if_pos (by omega)] | rw [if_neg (by omega)])) <;> rfl)) | (refine q_x (KC.stay' hC k5 ?_); unfold cloudR; ((repeat (first | rw [if_pos (by omega)] | rw [if_neg (by omega)])) <;> rfl)) | (refine q_x (KC.stay' hC eS ?_); unfold cloudR; ((repeat (first | rw [if_pos (by omega)] | rw [if_neg (by omega)])) <;> rfl)) | (refine q_x (KC.stay' hC eN ?_); unfold cloudR; ((repeat (first | rw [if_pos (by omega)] | rw [if_neg (by omega)])) <;> rfl))
  · (first | replace h5 := of_decide_eq_true h5 | replace h5 := of_decide_eq_false h5 | skip)
    refine w_ldc dX9_cloud_8 co9_90 ?_
    refine w_iret dX9_cloud_10 rfl (by omega) ?_ ⟨Nat.le_refl _, Nat.le_refl _⟩
    first | (refine q_x (KC.stay hC ?_); unfold cloudR; ((repeat (first | rw [if_pos (by omega)] | rw [if_neg (by omega)])) <;> rfl)) | (refine q_x (KC.stay' hC k4 ?_); unfold cloudR; ((repeat (first | rw [if_pos (by omega)] | rw [if_neg (by omega)])) <;> rfl)) | (refine q_x (KC.stay' hC k3 ?_); unfold cloudR; ((repeat (first | rw [if_pos (by omega)] | rw [if_neg (by omega)])) <;> rfl)) | (refine q_x (KC.stay' hC k2 ?_); unfold cloudR; ((repeat (first | rw [if_pos (by omega)] | rw [if_neg (by omega)])) <;> rfl)) | (refine q_x (KC.stay' hC k5 ?_); unfold cloudR; ((repeat (first | rw [if_pos (by omega)] | rw [if_neg (by omega)])) <;> rfl)) | (refine q_x (KC.stay' hC eS ?_); unfold cloudR; ((repeat (first | rw [if_pos (by omega)] | rw [if_neg (by omega)])) <;> rfl)) | (refine q_x (KC.stay' hC eN ?_); unfold cloudR; ((repeat (first | rw [if_pos (by omega)] | rw [if_neg (by omega)])) <;> rfl))
