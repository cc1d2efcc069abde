/-! ===== the reference: what is done, kept, taken back; days of the class ===== -/
theorem GS.wind {S : SS} (h : GS S) {n : Int} (n0 : 0 ≤ n) (n1 : n ≤ 15) : GS (upS S 1 n) := ⟨OUT_up h.1 (by omega), by rw [upS_at, if_neg (by omega)]; exact SOK_wind h.2.1 n0 n1, by rw [upS_at, if_neg (by omega)]; exact h.2.2⟩
theorem GS.place {S : SS} (h : GS S) {c v : Int} (c0 : 0 ≤ c) (c1 : c < S 0) (v0 : 0 ≤ v) (v1 : v ≤ 15) : GS (upS S (5 + 5 * c) v) := by
  have hn := h.n
  exact ⟨OUT_up h.1 (by omega), by rw [upS_at, if_neg (by omega)]; exact SOK_place h.2.1 c0 c1 v0 v1, by rw [upS_at, if_neg (by omega)]; exact h.2.2⟩
theorem GS.wet {S : SS} (h : GS S) {c v : Int} (c0 : 0 ≤ c) (c1 : c < S 0) (v0 : 0 ≤ v) (v1 : v ≤ 99) : GS (upS S (7 + 5 * c) v) := by
  have hn := h.n
  exact ⟨OUT_up h.1 (by omega), by rw [upS_at, if_neg (by omega)]; exact SOK_wet h.2.1 c0 c1 v0 v1, by rw [upS_at, if_neg (by omega)]; exact h.2.2⟩
theorem GS.hand {S : SS} (h : GS S) {c v : Int} (c0 : 0 ≤ c) (c1 : c < S 0) (v0 : 0 ≤ v) (v1 : v ≤ 9) : GS (upS S (8 + 5 * c) v) := by
  have hn := h.n
  exact ⟨OUT_up h.1 (by omega), by rw [upS_at, if_neg (by omega)]; exact SOK_hand h.2.1 c0 c1 v0 v1, by rw [upS_at, if_neg (by omega)]; exact h.2.2⟩
theorem GS.dy {S : SS} (h : GS S) (hd : S 3 + 1 ≤ 999) : GS (dyF S) := ⟨OUT_dy h.n.2 h.1, by rw [dyF_3]; have := SOK_dy h.2.1; rw [show 10 * (S 3 + 1) = 10 * S 3 + 10 by omega]; exact this, by rw [dyF_3]; exact hd⟩
theorem POK.keep {p : PS} (h : POK p) (h1 : p.S 0 ≠ 0) : POK (ntP p) := by
  have hn := h.hs.n
  have hu := h.hu
  unfold ntP
  by_cases e : p.u = 24
  · rw [if_pos e]
    refine ⟨h.hl, h.ht, h.hs, h.hu, fun j hj => ?_, fun h0 => absurd h0 h1, h.hI, h.hr⟩
    show GS (if j = 23 then p.S else p.U (j + 1)) ∧ 1 ≤ (if j = 23 then p.S else p.U (j + 1)) 0
    have hj : j < p.u := hj
    by_cases ej : j = 23
    · rw [if_pos ej]; exact ⟨h.hs, by omega⟩
    · rw [if_neg ej]; exact h.hU (j + 1) (by omega)
  · rw [if_neg e]
    refine ⟨h.hl, h.ht, h.hs, (show p.u + 1 ≤ 24 by omega), fun j hj => ?_, fun h0 => absurd h0 h1, h.hI, h.hr⟩
    show GS (if j = p.u then p.S else p.U j) ∧ 1 ≤ (if j = p.u then p.S else p.U j) 0
    have hj : j < p.u + 1 := hj
    by_cases ej : j = p.u
    · rw [if_pos ej]; exact ⟨h.hs, by omega⟩
    · rw [if_neg ej]; exact h.hU j (by omega)
theorem POK.setS {p : PS} (h : POK p) {T : SS} (hT : GS T) (h1 : T 0 ≠ 0) : POK (setS p T) := ⟨h.hl, h.ht, hT, h.hu, h.hU, fun h0 => absurd h0 h1, h.hI, h.hr⟩
theorem POK_ds {p : PS} (h : POK p) (h1 : p.S 0 ≠ 0) : ∀ n : Nat, p.S 3 + n ≤ 999 → POK (dsP p n)
  | 0, _ => h
  | n + 1, hn => by
    have ih := POK_ds h h1 n (by omega)
    have e := dsP_S p n
    have e0 : (dsP p n).S 0 = p.S 0 := by rw [e, dysF_low (by omega)]
    have e3 : (dsP p n).S 3 = p.S 3 + n := by rw [e, dysF_3]
    exact (ih.keep (by omega)).setS (ih.hs.dy (by omega)) (by rw [dyF_low (by omega)]; omega)
theorem POK_undo {p : PS} (h : POK p) : POK (undoR p).2 := by
  unfold undoR
  split
  · exact h
  · rename_i e
    have a := h.hU (p.u - 1) (by omega)
    have hu := h.hu
    refine ⟨h.hl, h.ht, a.1, (show p.u - 1 ≤ 24 by omega), fun j hj => h.hU j (by have hj : j < p.u - 1 := hj; omega), fun h0 => absurd (show p.U (p.u - 1) 0 = 0 from h0) (by omega), h.hI, h.hr⟩
theorem POK_days {p : PS} (h : POK p) (n : Int) : POK (daysR p n).2 := by
  unfold daysR
  split
  · exact h
  · split
    · split
      · exact h
      · exact POK_ds h (by assumption) _ (by omega)
    · exact h
theorem POK_wind {p : PS} (h : POK p) (n : Int) : POK (windR p n).2 := by
  unfold windR
  split
  · exact h
  · rename_i e
    split
    · rename_i e2
      exact (h.keep e).setS (h.hs.wind e2.1 e2.2) (by rw [upS_at, if_neg (by omega)]; exact e)
    · exact h
theorem POK_tow {p : PS} (h : POK p) (c n : Int) : POK (towR p c n).2 := by
  unfold towR
  have hn := h.hs.n
  split
  · rename_i e
    split
    · exact h
    · exact (h.keep (by omega)).setS (h.hs.place e.1.1 (by omega) (by omega) (by omega)) (by rw [upS_at, if_neg (by omega)]; omega)
  · exact h
theorem POK_silk {p : PS} (h : POK p) (c : Int) : POK (silkR p c).2 := by
  unfold silkR
  have hn := h.hs.n
  have hs := h.hs.2.1.2.2.1
  split
  · rename_i e
    have kb := h.hs.2.1.cl (c := c) e.1 (by omega)
    split
    · exact h
    · exact (h.keep (by omega)).setS (h.hs.wet e.1 (by omega) (by omega) (by omega)) (by rw [upS_at, if_neg (by omega)]; omega)
  · exact h
theorem POK_sign {p : PS} (h : POK p) (c k : Int) : POK (signR p c k).2 := by
  unfold signR
  have hn := h.hs.n
  split
  · rename_i e
    exact (h.keep (by omega)).setS (h.hs.hand e.1.1 (by omega) (by omega) (by omega)) (by rw [upS_at, if_neg (by omega)]; omega)
  · exact h
theorem POK_img {p : PS} (h : POK p) (k : Int) : POK (imgR p k).2 := by
  unfold imgR
  have hn := h.hs.n
  split
  · split
    · exact h
    · rename_i e9
      refine ⟨h.hl, h.ht, h.hs, h.hu, h.hU, fun h0 => absurd h0 e9, fun j a b => ?_, h.hr⟩
      show upS p.fl k 1 j = 0 ∨ (upS p.fl k 1 j = 1 ∧ GS (if j = k then p.S else p.I j) ∧ 1 ≤ (if j = k then p.S else p.I j) 0)
      rw [upS_at]
      by_cases e : j = k
      · rw [if_pos e, if_pos e]; exact Or.inr ⟨rfl, h.hs, by omega⟩
      · rw [if_neg e, if_neg e]; exact h.hI j a b
  · exact h
theorem POK_rst {p : PS} (h : POK p) (k : Int) : POK (rstR p k).2 := by
  unfold rstR
  split
  · rename_i e
    split
    · exact h
    · rename_i e2
      have a := (h.hI k e.1 (by omega)).resolve_left e2
      exact ⟨h.hl, h.ht, a.2.1, Nat.zero_le _, fun j hj => absurd hj (Nat.not_lt_zero j), fun h0 => absurd (show p.I k 0 = 0 from h0) (by omega), h.hI, h.hr⟩
  · exact h
theorem l_X9_days {E : EV} {M : MM} {p : PS} {n : Int} (hP : POK p) (h1 : p.S 0 ≠ 0) (n0 : 0 ≤ n) (n1 : n ≤ 24) (hd : p.S 3 + n ≤ 999) :
    ∀ (k d : Nat) (z s : Int) (m : MM), z = d → s = fellS (dysF p.S d) - fellS p.S → (d : Int) ≤ n → n.toNat - d < k → CI m (dsP p d) → Hi M m → Wp E mX9_days (kd 9) 45 [some (vr 0), some (vi n), some (vi s), some (vi z)] [] N0 G0 m (Px (KC M (fellS (dysF p.S n.toNat) - fellS p.S, dsP p n.toNat))) := by
  intro k
  induction k with
  | zero => intro d z s m hz hs hd2 hk; exact absurd hk (by omega)
  | succ k ih =>
    intro d z s m hz hs hd2 hk hC hH
    subst hz
    subst hs
    have hp := POK_ds hP h1 d (by omega)
    have e := dsP_S p d
    have e3 : (dsP p d).S 3 = p.S 3 + d := by rw [e, dysF_3]
    have f0 := fellS_r hP.hs.ok
    have f1 := fellS_r (SOK_dys hP.hs.ok d)
    have f2 := fellS_r (SOK_dys hP.hs.ok (d + 1))
    refine w_iload_n dX9_days_45 rfl ?_
    refine w_iload_n dX9_days_46 rfl ?_
    refine w_icmp_ge (tgt := 73) dX9_days_47 (by decide) (by omega) (by omega) (fun h47 => ?_) (fun h47 => ?_)
    · have ed : n.toNat = d := by omega
      refine w_iload_n dX9_days_73 rfl ?_
      refine w_iret dX9_days_74 rfl (by omega) ?_ ⟨Nat.le_refl _, Nat.le_refl _⟩
      exact (q_x ⟨by rw [ed], by rw [ed]; exact hC, hH⟩)
    · refine w_aload_n dX9_days_50 rfl ?_
      refine w_getR (r := 30) dX9_days_51 fl9_44 g0_0 (by decide) rfl ?_
      refine cVxv dX9_days_54 ok_X0_keep lv9_171 (c_keep hC hp) rfl (congrArg Prod.fst g0_30) (by decide) (by decide) rfl (by decide) (Nat.le_of_ble_eq_true rfl) (fun m54 p54 => ?_)
      have hV : SV m54 23 (dsP p d).S := by rw [← ntP_S (dsP p d)]; exact p54.1.S
      refine w_iload_n dX9_days_57 rfl ?_
      refine w_aload_n dX9_days_58 rfl ?_
      refine w_getR (r := 23) dX9_days_59 fl9_35 g0_0 (by decide) rfl ?_
      refine cVx dX9_days_62 ok_X6_passDay lv9_174 (c_X6_passDay sk_23 hV hp.hs.ok (by omega) (by omega)) rfl (sk_k sk_23) (sk_n0 sk_23) (by decide) rfl (by decide) (Nat.le_of_ble_eq_true rfl) (fun z62 m62 r62 p62 => ?_)
      obtain ⟨pz, pV, pF⟩ := p62
      rw [e] at pz
      refine w_iadd dX9_days_65 ?_
      refine w_istore_n dX9_days_66 (by decide) ?_
      refine w_iinc dX9_days_67 rfl (by decide) ?_
      refine w_goto (tgt := 45) dX9_days_70 (by decide) ?_
      exact ih (d + 1) _ _ _ (by omega) (by rw [pz]; show _ = fellS (dyF (dysF p.S d)) - _; omega) (by omega) (by omega) (p54.1.setS (fun i a c => pF i (by omega)) pV) ((hH.trans p54.2).trans (pF.hi (by omega)))
theorem c_X9_days {E : EV} {M : MM} {p : PS} {n : Int} (hC : CI M p) (hP : POK p) (hn : R32 n) : Cx E mX9_days 9 [vr 0, vi n] M (KC M (daysR p n)) := by
  refine Ct.of [some (vr 0), some (vi n), none, none] rfl rfl rfl (Nat.le_of_ble_eq_true rfl) ?_
  have e0 := hC.S.num
  have e3 := hC.S.day
  have hd := hP.hs.d
  refine w_aload_n dX9_days_0 rfl ?_
  refine cVm dX9_days_1 ok_X9_noSky lv9_165 c_X9_noSky rfl (congrArg Prod.fst g0_0) (by decide) (by decide) rfl (by decide) (Nat.le_of_ble_eq_true rfl) (fun r1 => ?_)
  refine w_ifB_eq (tgt := 10) dX9_days_4 (by decide) (fun h4 => ?_) (fun h4 => ?_)
  · (first | replace h4 := of_decide_eq_true h4 | replace h4 := of_decide_eq_false h4 | skip)
    refine w_iload_n dX9_days_10 rfl ?_
    refine w_iconst dX9_days_11 ?_
    refine w_bipush dX9_days_12 (by decide +kernel) ?_
    refine cSm dX9_days_14 ok_X9_within (Or.inl ls9_86) (c_X9_within (by omega) (by omega) (by omega)) rfl  rfl (by decide) (Nat.le_of_ble_eq_true rfl) (fun r14 => ?_)
    refine w_ifB_ne (tgt := 23) dX9_days_17 (by decide) (fun h17 => ?_) (fun h17 => ?_)
    · (first | replace h17 := of_decide_eq_true h17 | replace h17 := of_decide_eq_false h17 | skip)
      refine w_aload_n dX9_days_23 rfl ?_
      refine w_getR (r := 23) dX9_days_24 fl9_35 g0_0 (by decide) rfl ?_
      refine r_getI (q := 3) dX9_days_27 fl9_168 (sk_g0 sk_23) (sk_n0 sk_23) rfl (by decide) rfl (fun r27 => ?_)
      refine w_iload_n dX9_days_30 rfl ?_
      refine w_iadd dX9_days_31 ?_
      refine w_sipush dX9_days_32 (by decide +kernel) ?_
      refine w_icmp_le (tgt := 41) dX9_days_35 (by decide) (by omega) (by omega) (fun h35 => ?_) (fun h35 => ?_)
      · refine w_iconst dX9_days_41 ?_
        refine w_istore_n dX9_days_42 (by decide) ?_
        refine w_iconst dX9_days_43 ?_
        refine w_istore_n dX9_days_44 (by decide) ?_
        rw [show daysR p n = (fellS (dysF p.S n.toNat) - fellS p.S, dsP p n.toNat) from by unfold daysR; ((repeat (first | rw [if_pos (by omega)] | rw [if_neg (by omega)])) <;> rfl)]
        exact l_X9_days hP (by omega) (by omega) (by omega) (by omega) (n.toNat + 1) 0 _ _ _ rfl (by show (0 : Int) = fellS p.S - fellS p.S; omega) (by omega) (by omega) hC (Hi.refl M)
      · refine w_ldc dX9_days_38 co9_127 ?_
        refine w_iret dX9_days_40 rfl (by omega) ?_ ⟨Nat.le_refl _, Nat.le_refl _⟩
        exact (q_x (KC.stay hC (by unfold daysR; ((repeat (first | rw [if_pos (by omega)] | rw [if_neg (by omega)])) <;> rfl))))
    · (first | replace h17 := of_decide_eq_true h17 | replace h17 := of_decide_eq_false h17 | skip)
      refine w_ldc dX9_days_20 co9_90 ?_
      refine w_iret dX9_days_22 rfl (by omega) ?_ ⟨Nat.le_refl _, Nat.le_refl _⟩
      exact (q_x (KC.stay hC (by unfold daysR; ((repeat (first | rw [if_pos (by omega)] | rw [if_neg (by omega)])) <;> rfl))))
  · (first | replace h4 := of_decide_eq_true h4 | replace h4 := of_decide_eq_false h4 | skip)
    refine w_ldc dX9_days_7 co9_161 ?_
    refine w_iret dX9_days_9 rfl (by omega) ?_ ⟨Nat.le_refl _, Nat.le_refl _⟩
    exact (q_x (KC.stay hC (by unfold daysR; ((repeat (first | rw [if_pos (by omega)] | rw [if_neg (by omega)])) <;> rfl))))
/-! the reference -/
theorem MI.setS {M m : MM} {p : PS} {T : SS} (h : MI M p) (e : ∀ i : Nat, 238 ≤ i → i ≠ 243 → m i = M i) (hT : m 243 = T) (h0 : T 0 = p.S 0) : MI m (setS p T) :=
  h.sky (fun i a b _ _ _ => e i (by omega) b) (fun k _ _ => by rw [e 238 (by omega) (by omega)]) hT (by rw [e 238 (by omega) (by omega), h0]; exact h.is)
theorem nt_cell {M : MM} {i : Nat} (h : i ≠ 246) (h2 : i ≠ 238) : ntM M i = M i := by
  unfold ntM
  split
  · rw [upM_cell h2, cpM_cell h, upM_cell h2, sh_cell h]
  · rw [upM_cell h2, cpM_cell h]
theorem nt_slot {M : MM} {k : Int} (h : k ≠ 15) : ntM M 238 k = M 238 k := by
  unfold ntM
  split
  · rw [upM_ne (fun w => h w.2), cpM_cell (by omega), upM_ne (fun w => h w.2), sh_cell (by omega)]
  · rw [upM_ne (fun w => h w.2), cpM_cell (by omega)]
theorem nt_lo (M : MM) : Lo M (ntM M) := fun i hi => nt_cell (by omega) (by omega)
theorem MI.keep {M : MM} {p : PS} (h : MI M p) (hP : POK p) : MI (ntM M) (ntP p) := by
  have hu := hP.hu
  have eu := h.u
  unfold ntP
  by_cases e : p.u = 24
  · rw [if_pos e]
    have en : ntM M = upM (cpM (upM (shM M 1035) 238 15 23) 243 246 0 1035 45) 238 15 24 := by unfold ntM; rw [if_pos (by omega)]
    refine h.acts (u' := p.u) (fun i a b _ _ _ => nt_cell b (by omega)) (fun k _ hk => nt_slot hk) (by rw [en, upM_same, e]; rfl) (fun j hj q a b => ?_)
    rw [en, upM_cell (by omega)]
    unfold cpM
    by_cases ej : j = 23
    · rw [if_pos ⟨rfl, by omega, by omega⟩, if_pos ej, upM_cell (by omega), sh_cell (by omega), h.S]
      congr 1
      omega
    · rw [if_neg (by omega), if_neg ej, upM_cell (by omega)]
      unfold shM
      rw [if_pos ⟨rfl, by omega, by omega⟩, ← h.U (j + 1) (by omega) q a b]
      congr 1
      omega
  · rw [if_neg e]
    have en : ntM M = upM (cpM M 243 246 0 (45 * (p.u : Int)) 45) 238 15 ((p.u : Int) + 1) := by unfold ntM; rw [if_neg (by omega), eu]
    refine h.acts (fun i a b _ _ _ => nt_cell b (by omega)) (fun k _ hk => nt_slot hk) (by rw [en, upM_same]; omega) (fun j hj q a b => ?_)
    rw [en, upM_cell (by omega)]
    unfold cpM
    by_cases ej : j = p.u
    · rw [if_pos ⟨rfl, by omega, by omega⟩, if_pos ej, h.S]
      congr 1
      omega
    · rw [if_neg (by omega), if_neg ej]
      exact h.U j hj q a b
theorem c_notes {E : EV} {M : MM} {p : PS} (hI : MI M p) (hP : POK p) : Cxv E mX10_notes 0 [vr 238] M (fun m => MI m (ntP p) ∧ Lo M m) := by
  have hu := hP.hu
  have eu := hI.u
  refine (c_X10_notes (by omega) (by omega)).mono (fun r n g m h => ?_)
  obtain ⟨e1, e2, e3, k⟩ := h
  subst k
  exact ⟨e1, e2, e3, hI.keep hP, nt_lo M⟩
