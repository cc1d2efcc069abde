/-! ===== reading a sky: the pure steps; the class's ===== -/
def adC (T : SS) (k a b c d : Int) : SS := fun q => if q = 0 then T 0 + 1 else if q = 4 + 5 * T 0 then k else if q = 5 + 5 * T 0 then a else if q = 6 + 5 * T 0 then b else if q = 7 + 5 * T 0 then c else if q = 8 + 5 * T 0 then d else T q
def lwA (L : Int → Int) (n : Int) : RS := tkP L n 119 (0, 0)
def lwB (L : Int → Int) (n : Int) : RS := tkP L n 44 (nmS L n 0 15 (lwA L n))
def lwS (L : Int → Int) (n : Int) : RS := tkP L n 59 (nmS L n 1 20 (lwB L n))
def lwT (L : Int → Int) (n : Int) : SS := fun q => if q = 1 then nmV L n (lwA L n).1 else if q = 2 then nmV L n (lwB L n).1 else 0
def rcA (L : Int → Int) (n k : Int) (s : RS) : RS := srS L n k s
def rcB (L : Int → Int) (n k : Int) (s : RS) : RS := tkP L n 44 (nmS L n 0 15 (rcA L n k s))
def rcC (L : Int → Int) (n k : Int) (s : RS) : RS := tkP L n 44 (nmS L n 1 8 (rcB L n k s))
def rcD (L : Int → Int) (n k : Int) (s : RS) : RS := tkP L n 44 (nmS L n 1 60 (rcC L n k s))
def rcS (L : Int → Int) (n k : Int) (s : RS) : RS := tkP L n 59 (nmS L n 0 9 (rcD L n k s))
def rcT (L : Int → Int) (n : Int) (T : SS) (s : RS) : SS := adC T (kndF (ltr L n s.1)) (nmV L n (rcA L n (T 0) s).1) (nmV L n (rcB L n (T 0) s).1) (nmV L n (rcC L n (T 0) s).1) (nmV L n (rcD L n (T 0) s).1)
def rdL (L : Int → Int) (n : Int) : Nat → SS → RS → SS × RS
  | 0, T, s => (T, s)
  | j + 1, T, s => if s.2 = 0 ∧ (T 0 = 0 ∨ s.1 < n) then (if (rcS L n (T 0) s).2 = 0 then rdL L n j (rcT L n T s) (rcS L n (T 0) s) else (T, rcS L n (T 0) s)) else (T, s)
def skyR (p : PS) : Int × PS := if (rdL p.tp p.tn 6 (lwT p.tp p.tn) (lwS p.tp p.tn)).2.2 = 0 then ((rdL p.tp p.tn 6 (lwT p.tp p.tn) (lwS p.tp p.tn)).1 0, (⟨p.ln, p.sz, p.it, 0, p.tp, (rdL p.tp p.tn 6 (lwT p.tp p.tn) (lwS p.tp p.tn)).1, 0, p.U, p.fl, p.I, p.lf, p.fd, p.tr, p.tb⟩ : PS)) else (-1000100 - (rdL p.tp p.tn 6 (lwT p.tp p.tn) (lwS p.tp p.tn)).2.1, (⟨p.ln, p.sz, p.it, 0, p.tp, p.S, p.u, p.U, p.fl, p.I, (rdL p.tp p.tn 6 (lwT p.tp p.tn) (lwS p.tp p.tn)).2.2, p.fd, p.tr, p.tb⟩ : PS))
theorem tk_0 {L : Int → Int} {n c : Int} {s : RS} (h : (tkP L n c s).2 = 0) : s.2 = 0 := Decidable.by_contra (fun e => e (by unfold tkP at h; rw [if_pos e] at h; exact h))
theorem nm_0 {L : Int → Int} {n lo hi : Int} {s : RS} (h : (nmS L n lo hi s).2 = 0) : s.2 = 0 ∧ lo ≤ nmV L n s.1 ∧ nmV L n s.1 ≤ hi := by
  by_cases e : s.2 = 0
  · unfold nmS at h
    rw [if_neg (fun x => x e)] at h
    by_cases e2 : nmN L n s.1 = 0 ∨ nmN L n s.1 = 3
    · rw [if_pos e2] at h; exact absurd (show (1 : Int) = 0 from h) (by decide)
    · rw [if_neg e2] at h
      by_cases e3 : lo ≤ nmV L n s.1 ∧ nmV L n s.1 ≤ hi
      · exact ⟨e, e3⟩
      · rw [if_neg e3] at h; exact absurd (show (2 : Int) = 0 from h) (by decide)
  · unfold nmS at h
    rw [if_pos e] at h; exact absurd h e
theorem sr_0 {L : Int → Int} {n k : Int} {s : RS} (h : (srS L n k s).2 = 0) : s.2 = 0 ∧ kndF (ltr L n s.1) ≠ 0 ∧ k < 5 := by
  by_cases e : s.2 = 0
  · unfold srS at h
    rw [if_neg (fun x => x e)] at h
    by_cases e2 : kndF (ltr L n s.1) = 0
    · rw [if_pos e2] at h; exact absurd (show (1 : Int) = 0 from h) (by decide)
    · rw [if_neg e2] at h
      by_cases e3 : 5 ≤ k
      · rw [if_pos e3] at h; exact absurd (show (3 : Int) = 0 from h) (by decide)
      · exact ⟨e, e2, by omega⟩
  · unfold srS at h
    rw [if_pos e] at h; exact absurd h e
theorem rc_0 {L : Int → Int} {n k : Int} {s : RS} (h : (rcS L n k s).2 = 0) : s.2 = 0 ∧ (rcA L n k s).2 = 0 ∧ (rcB L n k s).2 = 0 ∧ (rcC L n k s).2 = 0 ∧ (rcD L n k s).2 = 0 := by
  have d := (nm_0 (tk_0 h)).1
  have c := (nm_0 (tk_0 d)).1
  have b := (nm_0 (tk_0 c)).1
  have a := (nm_0 (tk_0 b)).1
  exact ⟨(sr_0 a).1, a, b, c, d⟩
theorem ok_rc {L : Int → Int} {n k : Int} {s : RS} (h : okS n s) : okS n (rcA L n k s) ∧ okS n (rcB L n k s) ∧ okS n (rcC L n k s) ∧ okS n (rcD L n k s) ∧ okS n (rcS L n k s) := by
  have a := ok_sr (L := L) (k := k) h
  have b := ok_tk (L := L) (c := 44) (by decide) (ok_nm (L := L) (lo := 0) (hi := 15) a)
  have c := ok_tk (L := L) (c := 44) (by decide) (ok_nm (L := L) (lo := 1) (hi := 8) b)
  have d := ok_tk (L := L) (c := 44) (by decide) (ok_nm (L := L) (lo := 1) (hi := 60) c)
  have e := ok_tk (L := L) (c := 59) (by decide) (ok_nm (L := L) (lo := 0) (hi := 9) d)
  exact ⟨a, b, c, d, e⟩
theorem ok_lw {L : Int → Int} {n : Int} (n0 : 0 ≤ n) : okS n (lwA L n) ∧ okS n (lwB L n) ∧ okS n (lwS L n) := by
  have z : okS n (0, 0) := ⟨Int.le_refl 0, n0, Int.le_refl 0, by decide⟩
  have a := ok_tk (L := L) (c := 119) (by decide) z
  have b := ok_tk (L := L) (c := 44) (by decide) (ok_nm (L := L) (lo := 0) (hi := 15) a)
  have c := ok_tk (L := L) (c := 59) (by decide) (ok_nm (L := L) (lo := 1) (hi := 20) b)
  exact ⟨a, b, c⟩
/-- nothing has changed but the reader and the numbers of its draft -/
def FrD (M m : MM) : Prop := (∀ i : Nat, ¬ (15 ≤ i ∧ i ≤ 21) → m i = M i) ∧ m 16 3 = M 16 3
theorem FrR.d {M m : MM} (h : FrR M m) : FrD M m := ⟨fun i hi => h i (by omega), by rw [h 16 (by omega)]⟩
theorem FrD.trans {M m m2 : MM} (h : FrD M m) (h2 : FrD m m2) : FrD M m2 := ⟨fun i hi => (h2.1 i hi).trans (h.1 i hi), h2.2.trans h.2⟩
theorem FrD.tp {M m : MM} {L : Int → Int} {n : Int} (h : FrD M m) (t : TP M L n) : TP m L n := ⟨by rw [h.1 13 (by omega)]; exact t.1, fun i a b => by rw [h.1 14 (by omega)]; exact t.2.1 i a b, t.2.2⟩
theorem c_X6_addCloud {E : EV} {M : MM} {T : SS} {k a b c d : Int} (hV : SV M 16 T) (h0 : 0 ≤ T 0) (h5 : T 0 < 5) (hk : R32 k) (ha : R32 a) (hb : R32 b) (hc : R32 c) (hd : R32 d) : Cxv E mX6_addCloud 0 [vr 16, vi k, vi a, vi b, vi c, vi d] M (fun m => SV m 16 (adC T k a b c d) ∧ FrD M m ∧ m 15 = M 15) := by
  refine Ct.of [some (vr 16), some (vi k), some (vi a), some (vi b), some (vi c), some (vi d)] rfl rfl rfl (Nat.le_of_ble_eq_true rfl) ?_
  have e0 := hV.num
  have x1 : upM M (16 + 1) (T 0) k 16 0 = T 0 := by rw [upM_cell (by omega)]; exact e0
  have x2 : upM (upM M (16 + 1) (T 0) k) (16 + 2) (T 0) a 16 0 = T 0 := by rw [upM_cell (by omega)]; exact x1
  have x3 : upM (upM (upM M (16 + 1) (T 0) k) (16 + 2) (T 0) a) (16 + 3) (T 0) b 16 0 = T 0 := by rw [upM_cell (by omega)]; exact x2
  have x4 : upM (upM (upM (upM M (16 + 1) (T 0) k) (16 + 2) (T 0) a) (16 + 3) (T 0) b) (16 + 4) (T 0) c 16 0 = T 0 := by rw [upM_cell (by omega)]; exact x3
  have x5 : upM (upM (upM (upM (upM M (16 + 1) (T 0) k) (16 + 2) (T 0) a) (16 + 3) (T 0) b) (16 + 4) (T 0) c) (16 + 5) (T 0) d 16 0 = T 0 := by rw [upM_cell (by omega)]; exact x4
  have key : SV (upM (upM (upM (upM (upM (upM M (16 + 1) (T 0) k) (16 + 2) (T 0) a) (16 + 3) (T 0) b) (16 + 4) (T 0) c) (16 + 5) (T 0) d) 16 0 (T 0 + 1)) 16 (adC T k a b c d) := by
    have t0 : adC T k a b c d 0 = T 0 + 1 := if_pos rfl
    refine ⟨fun q q0 q1 => ?_, fun j j0 j1 => ?_, fun f f0 f1 => ?_⟩
    · by_cases e : q = 0
      · rw [e, upM_same, t0]
      · rw [upM_ne (fun w => e w.2), upM_cell (by omega), upM_cell (by omega), upM_cell (by omega), upM_cell (by omega), upM_cell (by omega)]
        unfold adC
        rw [if_neg e, if_neg (by omega), if_neg (by omega), if_neg (by omega), if_neg (by omega), if_neg (by omega)]
        exact hV.1 q q0 q1
    · rw [t0] at j1
      unfold adC
      by_cases e : j = T 0
      · subst e
        rw [if_neg (by omega), if_pos rfl, if_neg (by omega), if_neg (by omega), if_pos rfl, if_neg (by omega), if_neg (by omega), if_neg (by omega), if_pos rfl, if_neg (by omega), if_neg (by omega), if_neg (by omega), if_neg (by omega), if_pos rfl, if_neg (by omega), if_neg (by omega), if_neg (by omega), if_neg (by omega), if_neg (by omega), if_pos rfl]
        refine ⟨?_, ?_, ?_, ?_, ?_⟩
        · rw [upM_cell (by omega), upM_cell (by omega), upM_cell (by omega), upM_cell (by omega), upM_cell (by omega), upM_same]
        · rw [upM_cell (by omega), upM_cell (by omega), upM_cell (by omega), upM_cell (by omega), upM_same]
        · rw [upM_cell (by omega), upM_cell (by omega), upM_cell (by omega), upM_same]
        · rw [upM_cell (by omega), upM_cell (by omega), upM_same]
        · rw [upM_cell (by omega), upM_same]
      · have hj := hV.2.1 j j0 (by omega)
        rw [if_neg (by omega), if_neg (by omega), if_neg (by omega), if_neg (by omega), if_neg (by omega), if_neg (by omega), if_neg (by omega), if_neg (by omega), if_neg (by omega), if_neg (by omega), if_neg (by omega), if_neg (by omega), if_neg (by omega), if_neg (by omega), if_neg (by omega), if_neg (by omega), if_neg (by omega), if_neg (by omega), if_neg (by omega), if_neg (by omega), if_neg (by omega), if_neg (by omega), if_neg (by omega), if_neg (by omega), if_neg (by omega), if_neg (by omega), if_neg (by omega), if_neg (by omega), if_neg (by omega), if_neg (by omega)]
        refine ⟨?_, ?_, ?_, ?_, ?_⟩
        · rw [upM_cell (by omega), upM_cell (by omega), upM_cell (by omega), upM_cell (by omega), upM_cell (by omega), upM_ne (by omega)]; exact hj.1
        · rw [upM_cell (by omega), upM_cell (by omega), upM_cell (by omega), upM_cell (by omega), upM_ne (by omega), upM_cell (by omega)]; exact hj.2.1
        · rw [upM_cell (by omega), upM_cell (by omega), upM_cell (by omega), upM_ne (by omega), upM_cell (by omega), upM_cell (by omega)]; exact hj.2.2.1
        · rw [upM_cell (by omega), upM_cell (by omega), upM_ne (by omega), upM_cell (by omega), upM_cell (by omega), upM_cell (by omega)]; exact hj.2.2.2.1
        · rw [upM_cell (by omega), upM_ne (by omega), upM_cell (by omega), upM_cell (by omega), upM_cell (by omega), upM_cell (by omega)]; exact hj.2.2.2.2
    · rw [upM_cell (by omega), upM_cell (by omega), upM_cell (by omega), upM_cell (by omega), upM_cell (by omega), upM_cell (by omega)]
      unfold adC
      rw [if_neg (by omega), if_neg (by omega), if_neg (by omega), if_neg (by omega), if_neg (by omega), if_neg (by omega)]
      exact hV.2.2 f f0 f1
  refine w_aload_n dX6_addCloud_0 rfl ?_
  refine r_getI (q := 0) dX6_addCloud_1 fl6_30 (sk_g0 sk_16) (sk_n0 sk_16) rfl (by decide) rfl (fun r1 => ?_)
  refine w_iconst dX6_addCloud_4 ?_
  refine w_icmp_lt (tgt := 9) dX6_addCloud_5 (by decide) (by omega) (by omega) (fun h5 => ?_) (fun h5 => ?_)
  · refine w_aload_n dX6_addCloud_9 rfl ?_
    refine w_getR (r := (16 + 1)) dX6_addCloud_10 fl6_9 (sk_g0 sk_16) (sk_n0 sk_16) rfl ?_
    refine w_aload_n dX6_addCloud_13 rfl ?_
    refine r_getI (q := 0) dX6_addCloud_14 fl6_30 (sk_g0 sk_16) (sk_n0 sk_16) rfl (by decide) rfl (fun r14 => ?_)
    rw [e0]
    refine w_iload_n dX6_addCloud_17 rfl ?_
    refine r_ist dX6_addCloud_18 (sk_g1 sk_16) (sk_n1 sk_16) (by omega) (by omega) (by omega) (by decide) ?_
    refine w_aload_n dX6_addCloud_19 rfl ?_
    refine w_getR (r := (16 + 2)) dX6_addCloud_20 fl6_15 (sk_g0 sk_16) (sk_n0 sk_16) rfl ?_
    refine w_aload_n dX6_addCloud_23 rfl ?_
    refine r_getI (q := 0) dX6_addCloud_24 fl6_30 (sk_g0 sk_16) (sk_n0 sk_16) rfl (by decide) rfl (fun r24 => ?_)
    rw [x1]
    refine w_iload_n dX6_addCloud_27 rfl ?_
    refine r_ist dX6_addCloud_28 (sk_g2 sk_16) (sk_n2 sk_16) (by omega) (by omega) (by omega) (by decide) ?_
    refine w_aload_n dX6_addCloud_29 rfl ?_
    refine w_getR (r := (16 + 3)) dX6_addCloud_30 fl6_18 (sk_g0 sk_16) (sk_n0 sk_16) rfl ?_
    refine w_aload_n dX6_addCloud_33 rfl ?_
    refine r_getI (q := 0) dX6_addCloud_34 fl6_30 (sk_g0 sk_16) (sk_n0 sk_16) rfl (by decide) rfl (fun r34 => ?_)
    rw [x2]
    refine w_iload_n dX6_addCloud_37 rfl ?_
    refine r_ist dX6_addCloud_38 (sk_g3 sk_16) (sk_n3 sk_16) (by omega) (by omega) (by omega) (by decide) ?_
    refine w_aload_n dX6_addCloud_39 rfl ?_
    refine w_getR (r := (16 + 4)) dX6_addCloud_40 fl6_21 (sk_g0 sk_16) (sk_n0 sk_16) rfl ?_
    refine w_aload_n dX6_addCloud_43 rfl ?_
    refine r_getI (q := 0) dX6_addCloud_44 fl6_30 (sk_g0 sk_16) (sk_n0 sk_16) rfl (by decide) rfl (fun r44 => ?_)
    rw [x3]
    refine w_iload dX6_addCloud_47 rfl ?_
    refine r_ist dX6_addCloud_49 (sk_g4 sk_16) (sk_n4 sk_16) (by omega) (by omega) (by omega) (by decide) ?_
    refine w_aload_n dX6_addCloud_50 rfl ?_
    refine w_getR (r := (16 + 5)) dX6_addCloud_51 fl6_24 (sk_g0 sk_16) (sk_n0 sk_16) rfl ?_
    refine w_aload_n dX6_addCloud_54 rfl ?_
    refine r_getI (q := 0) dX6_addCloud_55 fl6_30 (sk_g0 sk_16) (sk_n0 sk_16) rfl (by decide) rfl (fun r55 => ?_)
    rw [x4]
    refine w_iload dX6_addCloud_58 rfl ?_
    refine r_ist dX6_addCloud_60 (sk_g5 sk_16) (sk_n5 sk_16) (by omega) (by omega) (by omega) (by decide) ?_
    refine w_aload_n dX6_addCloud_61 rfl ?_
    refine w_dup dX6_addCloud_62 rfl ?_
    refine r_getI (q := 0) dX6_addCloud_63 fl6_30 (sk_g0 sk_16) (sk_n0 sk_16) rfl (by decide) rfl (fun r63 => ?_)
    rw [x5]
    refine w_iconst dX6_addCloud_66 ?_
    refine w_iadd dX6_addCloud_67 ?_
    refine r_putI (q := 0) dX6_addCloud_68 fl6_30 (sk_g0 sk_16) (sk_n0 sk_16) rfl (by decide) (by omega) rfl (by decide +kernel) rfl ?_
    refine w_vret dX6_addCloud_71 rfl ?_ ⟨Nat.le_refl _, Nat.le_refl _⟩
    exact (q_xv ⟨key, ⟨fun i hi => by rw [upM_cell (by omega), upM_cell (by omega), upM_cell (by omega), upM_cell (by omega), upM_cell (by omega), upM_cell (by omega)], by rw [upM_ne (by omega), upM_cell (by omega), upM_cell (by omega), upM_cell (by omega), upM_cell (by omega), upM_cell (by omega)]⟩, by rw [upM_cell (by omega), upM_cell (by omega), upM_cell (by omega), upM_cell (by omega), upM_cell (by omega), upM_cell (by omega)]⟩)
  · exact absurd h5 (by omega)
