/-! ===== LONG COMPARES, ROWS OF ROWS, COPIES, STATIC ARRAYS, NEW CELLS ===== -/
def lc (a b : Int) : Int := if b < a then 1 else if a = b then 0 else -1
theorem lc_ok {a b : Int} (ha : R64 a) (hb : R64 b) : lg_cmp (i64 a) (i64 b) = i32 (lc a b) := by
  unfold lg_cmp lc
  by_cases h : b < a
  · rw [if_pos h, if_pos (show i64 a > i64 b from (i64_lt hb ha).mpr h)]
    decide +kernel
  · rw [if_neg h, if_neg (fun q => h ((i64_lt hb ha).mp q))]
    by_cases h2 : a = b
    · rw [if_pos h2, if_pos (by rw [h2])]
      decide +kernel
    · rw [if_neg h2, if_neg (fun q => h2 ((i64_eq ha hb).mp q))]
      decide +kernel
theorem R32_lc (a b : Int) : R32 (lc a b) := by
  unfold lc
  split
  · omega
  · split <;> omega
theorem lc_lt (a b : Int) : lc a b < 0 ↔ a < b := by
  unfold lc
  split
  · omega
  · split <;> omega
theorem lc_eq (a b : Int) : lc a b = 0 ↔ a = b := by
  unfold lc
  split
  · omega
  · split <;> omega
theorem lc_gt (a b : Int) : 0 < lc a b ↔ b < a := by
  unfold lc
  split
  · omega
  · split <;> omega
section More
variable {E : EV} {X : MD} {k : KK} {pc : Nat} {ls : LV} {st : List AV} {n : Nat} {G : GG} {M : MM} {Q : PP}
theorem w_lcmp {a b : Int} (hd : decode (mB X) pc = .ok (.lcmp, 1)) (ha : R64 a) (hb : R64 b) (h : Wp E X k (pc + 1) ls (vi (lc a b) :: st) n G M Q) : Wp E X k pc ls (vl b :: vl a :: st) n G M Q := by
  intro p l e s m args below meth c H locs lsA c1 c2 c3 c4 c5 c6
  refine W.lcmp c1.1 c1.2.1 hd ?_
  rw [lc_ok ha hb]
  exact h p l e s m args below meth c H locs lsA c1 c2 c3 c4 c5 c6
theorem w_ifL_lt {off : Int} {tgt : Nat} {a b : Int} (hd : decode (mB X) pc = .ok (.ifCond .lt off, 3)) (ht : (pc : Int) + off = (tgt : Int)) (kt : a < b → Wp E X k tgt ls st n G M Q) (kf : ¬ a < b → Wp E X k (pc + 3) ls st n G M Q) : Wp E X k pc ls (vi (lc a b) :: st) n G M Q :=
  w_if_lt hd ht (R32_lc a b) (fun q => kt ((lc_lt a b).mp q)) (fun q => kf (fun z => q ((lc_lt a b).mpr z)))
theorem w_ifL_gt {off : Int} {tgt : Nat} {a b : Int} (hd : decode (mB X) pc = .ok (.ifCond .gt off, 3)) (ht : (pc : Int) + off = (tgt : Int)) (kt : b < a → Wp E X k tgt ls st n G M Q) (kf : ¬ b < a → Wp E X k (pc + 3) ls st n G M Q) : Wp E X k pc ls (vi (lc a b) :: st) n G M Q :=
  w_if_gt hd ht (R32_lc a b) (fun q => kt ((lc_gt a b).mp q)) (fun q => kf (fun z => q ((lc_gt a b).mpr z)))
theorem w_ifL_le {off : Int} {tgt : Nat} {a b : Int} (hd : decode (mB X) pc = .ok (.ifCond .le off, 3)) (ht : (pc : Int) + off = (tgt : Int)) (kt : a ≤ b → Wp E X k tgt ls st n G M Q) (kf : ¬ a ≤ b → Wp E X k (pc + 3) ls st n G M Q) : Wp E X k pc ls (vi (lc a b) :: st) n G M Q :=
  w_if_le hd ht (R32_lc a b) (fun q => kt (by have := (lc_gt a b).mpr; omega)) (fun q => kf (fun z => by have := (lc_gt a b).mp; omega))
theorem w_ifL_ge {off : Int} {tgt : Nat} {a b : Int} (hd : decode (mB X) pc = .ok (.ifCond .ge off, 3)) (ht : (pc : Int) + off = (tgt : Int)) (kt : b ≤ a → Wp E X k tgt ls st n G M Q) (kf : ¬ b ≤ a → Wp E X k (pc + 3) ls st n G M Q) : Wp E X k pc ls (vi (lc a b) :: st) n G M Q :=
  w_if_ge hd ht (R32_lc a b) (fun q => kt (by have := (lc_lt a b).mpr; omega)) (fun q => kf (fun z => by have := (lc_lt a b).mp; omega))
theorem w_ifL_eq {off : Int} {tgt : Nat} {a b : Int} (hd : decode (mB X) pc = .ok (.ifCond .eq off, 3)) (ht : (pc : Int) + off = (tgt : Int)) (kt : a = b → Wp E X k tgt ls st n G M Q) (kf : ¬ a = b → Wp E X k (pc + 3) ls st n G M Q) : Wp E X k pc ls (vi (lc a b) :: st) n G M Q :=
  w_if_eq hd ht (R32_lc a b) (fun q => kt ((lc_eq a b).mp q)) (fun q => kf (fun z => q ((lc_eq a b).mpr z)))
theorem w_ifL_ne {off : Int} {tgt : Nat} {a b : Int} (hd : decode (mB X) pc = .ok (.ifCond .ne off, 3)) (ht : (pc : Int) + off = (tgt : Int)) (kt : a ≠ b → Wp E X k tgt ls st n G M Q) (kf : a = b → Wp E X k (pc + 3) ls st n G M Q) : Wp E X k pc ls (vi (lc a b) :: st) n G M Q :=
  w_if_ne hd ht (R32_lc a b) (fun q => kt (fun z => q ((lc_eq a b).mpr z))) (fun q => kf ((lc_eq a b).mp (Decidable.not_not.mp q)))
/-- a row out of a row of rows -/
theorem w_aald3 {a r : Nat} {z : Int} {fs : List Int} (hd : decode (mB X) pc = .ok (.aaload, 1)) (hg : G a = (3, fs)) (ha : a < n) (h0 : 0 ≤ z) (hf : fs[z.toNat]? = some (r : Int)) (hN : fs.length < 2147483648 := by decide) (h : Wp E X k (pc + 1) ls (vr r :: st) n G M Q) : Wp E X k pc ls (vi z :: vr a :: st) n G M Q := by
  intro p l e s m args below meth c H locs lsA c1 c2 c3 c4 c5 c6
  have hlt : z.toNat < fs.length := (List.getElem?_eq_some_iff.mp hf).1
  have hr : R32 z := ⟨by omega, by omega⟩
  have he := c4.at ha
  rw [cel_ref3 hg] at he
  have hin9 : vp_in (i32 z) fs.length := i32_in h0 (by omega) (by omega)
  have hlt9 : (i32 z).toNatClampNeg < fs.length := by rw [i32_clamp hr]; exact hlt
  have ee : fq E (fs.getD (i32 z).toNatClampNeg (-3)) = some (eB E + r) := by
    rw [i32_clamp hr, List.getD_eq_getElem?_getD, hf]
    show fq E (r : Int) = _
    unfold fq
    rw [if_neg (by omega), show ((r : Int)).toNat = r by omega]
  refine W.aald (v := .ref (eB E + r)) (ty := .array .int) c1.1 c1.2.1 he ((c2.1.1.2 3 _ rfl).1 _ (fun j => va_rf (fq E (fs.getD j (-3))))) rfl (fun q => by cases q) (by show ¬ (i32 z < 0 ∨ (arrV _ _ _).slots.size ≤ _); rw [arrV_size]; exact hin9) (by show (arrV _ _ _).slots[_]? = _; rw [arrV_read _ _ hlt9]; show some (va_rf (fq E _)) = _; rw [ee]; rfl) rfl rfl hd ?_
  exact h p l e s m args below meth c H locs lsA c1 c2 c3 c4 c5 c6
/-- a stretch of a row comes to another, or to itself -/
def cpM (M : MM) (a b : Nat) (sp dp z : Int) : MM := fun i q => if i = b ∧ dp ≤ q ∧ q < dp + z then M a (sp + (q - dp)) else M i q
theorem w_copy {i a b : Nat} {sp dp z : Int} {fs gs : List Int} (hd : decode (mB X) pc = .ok (.invokestatic i, 3)) (hw : Cond.methodLink (RR (mO X)) i arraycopyName ∈ wG) (hw2 : Cond.native arraycopyName ∈ wG ∧ Cond.static arraycopyName ∈ wG ∧ Cond.initialized "java/lang/System" ∈ wG) (hga : G a = (0, fs)) (hgb : G b = (0, gs)) (ha : a < n) (hb : b < n) (hN : ¬ n < N0) (h1 : 0 ≤ sp) (h2 : 0 ≤ dp) (h3 : 0 ≤ z) (h4 : sp + z ≤ fs.headD 0) (h5 : dp + z ≤ gs.headD 0) (hz : fs.headD 0 < 2147483648 := by decide) (hz2 : gs.headD 0 < 2147483648 := by decide) (hk : 1 ≤ k.1) (hst : scat st ≤ 8)
    (h : Wp E X k (pc + 3) ls st n G (cpM M a b sp dp z) Q) : Wp E X k pc ls (vi z :: vi dp :: vr b :: vi sp :: vr a :: st) n G M Q := by
  intro p l e s m args below meth c H locs lsA c1 c2 c3 c4 c5 c6
  have hts := c1.2.2.2.2.2.1
  have r1 : R32 sp := ⟨by omega, by omega⟩
  have r2 : R32 dp := ⟨by omega, by omega⟩
  have r3 : R32 z := ⟨by omega, by omega⟩
  have n1 : ¬ i32 sp < 0 := fun q => by rw [i32_zero, i32_lt r1 R32_0] at q; omega
  have n2 : ¬ i32 dp < 0 := fun q => by rw [i32_zero, i32_lt r2 R32_0] at q; omega
  have n3 : ¬ i32 z < 0 := fun q => by rw [i32_zero, i32_lt r3 R32_0] at q; omega
  have hea : (wsL E n G M)[a]? = some (eB E + a, .inl (eC E 0, (fs.headD 0).toNat, .inl (fun j => i32 (M a (j : Int))))) := by rw [wsL_at ha, cel_int hga]
  have heb : (wsL E n G M)[b]? = some (eB E + b, .inl (eC E 0, (gs.headD 0).toNat, .inl (fun j => i32 (M b (j : Int))))) := by rw [wsL_at hb, cel_int hgb]
  refine va_copyi c1.1 c1.2.1 (by rw [c1.2.2.2.1]; exact c5.1.symm) c1.2.2.2.2.1 (hts _ hw) (hts _ hw2.1) (hts _ hw2.2.1) (hts _ hw2.2.2) c2.1.1 c4.2.1 (wsL_D E n G M) c3 a b 0 0 hea heb rfl rfl rfl n1 n2 n3 (by rw [i32_clamp r1, i32_clamp r3]; omega) (by rw [i32_clamp r2, i32_clamp r3]; omega) (fun i hi => rfl) hk (by rw [scat_ok]; show scat st + (nativeFrameWords "java/lang/System" "arraycopy" 5 + 11) ≤ 60 * k.1; rw [show nativeFrameWords "java/lang/System" "arraycopy" 5 = 7 by decide +kernel]; omega) hd (fun H1 locs1 hP hD hS => ?_)
  have key : (wsL E n G M).set b (eB E + b, .inl (eC E 0, (gs.headD 0).toNat, .inl (va_cpy (fun j => i32 (M a (j : Int))) (fun j => i32 (M b (j : Int))) (i32 sp).toNatClampNeg (i32 dp).toNatClampNeg (i32 z).toNatClampNeg))) = wsL E n G (cpM M a b sp dp z) := by
    rw [i32_clamp r1, i32_clamp r2, i32_clamp r3]
    apply List.ext_getElem?
    intro j
    rw [List.getElem?_set]
    by_cases ej : b = j
    · subst ej
      rw [if_pos rfl, wsL_at hb, cel_int hgb]
      have hl : b < (wsL E n G M).length := by simp [wsL, hb]
      rw [if_pos hl]
      congr 6
      funext q
      unfold va_cpy cpM
      by_cases hq : dp.toNat ≤ q ∧ q < dp.toNat + z.toNat
      · rw [if_pos hq, if_pos ⟨rfl, by omega, by omega⟩]
        show i32 (M a ((sp.toNat + (q - dp.toNat) : Nat) : Int)) = _
        rw [show ((sp.toNat + (q - dp.toNat) : Nat) : Int) = sp + ((q : Int) - dp) by omega]
      · rw [if_neg hq, if_neg (fun w => hq ⟨by omega, by omega⟩)]
    · rw [if_neg ej]
      by_cases hj : j < n
      · rw [wsL_at hj, wsL_at hj, cel_ne (M' := cpM M a b sp dp z) (M := M)]
        funext q
        unfold cpM
        rw [if_neg (fun w => ej w.1.symm)]
      · have l1 : (wsL E n G M)[j]? = none := by simp [wsL]; omega
        have l2 : (wsL E n G (cpM M a b sp dp z))[j]? = none := by simp [wsL]; omega
        rw [l1, l2]
  rw [key] at hP
  have hR : RG n G (cpM M a b sp dp z) := by
    intro i hi q
    unfold cpM
    split
    · rename_i w
      have := c4.2.2.int ha hga (by decide) (by decide) (sp + (q - dp))
      exact ⟨by omega, Or.inr (Or.inr this)⟩
    · exact c4.2.2 i hi q
  have hlast := (hP (n - 1) _ (wsL_at (by omega))).lt
  have c4' : HP E n G (cpM M a b sp dp z) H1 := ⟨⟨by show eB E + n ≤ H1.size; have : eB E + (n - 1) < H1.size := hlast; omega, fun q => absurd q hN⟩, hP, hR⟩
  exact h p l e s m args below meth c H1 locs1 lsA c1 c2 hS c4' c5 c6
/-- a static array -/
theorem w_gets {i z : Nat} (hd : decode (mB X) pc = .ok (.getstatic i, 3)) (hz : z < 3) (hw : Cond.fieldLink (RR (mO X)) i (zC z) (zN z) "[I" ∈ wG) (h : Wp E X k (pc + 3) ls (vz z :: st) n G M Q) : Wp E X k pc ls st n G M Q := by
  intro p l e s m args below meth c H locs lsA c1 c2 c3 c4 c5 c6
  exact va_gets c1.1 c1.2.1 (c2.2.1 z hz).1 c3 c1.2.2.2.2.1 (c1.2.2.2.2.2.1 _ hw) (fun _ h9 => h9) hd (h p l e s m args below meth c H locs lsA c1 c2 c3 c4 c5 c6)
theorem w_getsN (hd : decode (mB X) pc = .ok (.getstatic 45, 3)) (ho : mO X = 1) (h : Wp E X k (pc + 3) ls (vz 0 :: st) n G M Q) : Wp E X k pc ls st n G M Q := by
  intro p l e s m args below meth c H locs lsA c1 c2 c3 c4 c5 c6
  have hown : s.vm.findClass RX1 = some m.cls := by have := c1.2.2.2.2.1; rw [ho] at this; exact this
  exact va_getsN c1.1 c1.2.1 (c2.2.1 0 (by decide)).1 c3 hown (va_Nw.use rfl c2.1.2.2.1) (fun _ h9 => h9) hd (h p l e s m args below meth c H locs lsA c1 c2 c3 c4 c5 c6)
theorem w_zald {z : Nat} {j : Int} (hd : decode (mB X) pc = .ok (.iaload, 1)) (hz : z < 3) (h0 : 0 ≤ j) (h1 : j < 6) (h : Wp E X k (pc + 1) ls (vi (zV z j.toNat) :: st) n G M Q) : Wp E X k pc ls (vi j :: vz z :: st) n G M Q := by
  intro p l e s m args below meth c H locs lsA c1 c2 c3 c4 c5 c6
  obtain ⟨cell, q1, q2, q3, q4, q5, q6, q7⟩ := (c2.2.1 z hz).2
  have hr : R32 j := ⟨by omega, by omega⟩
  have hc : H[eZ E z]? = some cell := by rw [c3.2.1 _ (Array.getElem?_eq_some_iff.mp q1).1 q7]; exact q1
  refine W.iald (v := .int (i32 (zV z j.toNat))) c1.1 c1.2.1 hc q2 q3 ?_ ?_ rfl rfl hd (h p l e s m args below meth c H locs lsA c1 c2 c3 c4 c5 c6)
  · rw [i32_clamp hr]
    intro q
    rcases q with q | q
    · rw [i32_zero, i32_lt hr R32_0] at q; omega
    · omega
  · rw [i32_clamp hr]
    exact q6 _ (by omega)
/-! new cells -/
def nwG (G : GG) (n : Nat) (x : Nat × List Int) : GG := fun i => if i = n then x else G i
def nwM (M : MM) (n : Nat) : MM := fun i q => if i = n then 0 else M i q
theorem nw_cel {n i : Nat} (x : Nat × List Int) (h : i ≠ n) : cel E (nwG G n x) (nwM M n) i = cel E G M i := by
  have h1 : nwG G n x i = G i := by simp [nwG, h]
  have h2 : nwM M n i = M i := by funext q; simp [nwM, h]
  unfold cel
  simp only [fv, h1, h2]
theorem nw_RG {n : Nat} (x : Nat × List Int) (h : RG n G M) : RG (n + 1) (nwG G n x) (nwM M n) := by
  intro i hi q
  by_cases e : i = n
  · have : nwM M n i q = 0 := by simp [nwM, e]
    rw [this]
    exact ⟨by omega, Or.inr (Or.inr (by omega))⟩
  · have h1 : nwG G n x i = G i := by simp [nwG, e]
    have h2 : nwM M n i q = M i q := by simp [nwM, e]
    rw [h1, h2]
    exact h i (by omega) q
theorem w_newI {z : Int} (hd : decode (mB X) pc = .ok (.newarray .int, 2)) (hw : Cond.arrayClass .int ∈ wG) (h0 : 0 ≤ z) (h1 : z ≤ 1000000) (hn : n < N0) (hk : k.2.2.2.1 + 1 ≤ k.2.1 ∧ k.2.2.2.2 + z.toNat ≤ k.2.2.1) (h : Wp E X (k.1, k.2.1, k.2.2.1, k.2.2.2.1 + 1, k.2.2.2.2 + z.toNat) (pc + 2) ls (vr n :: st) (n + 1) (nwG G n (0, [z])) (nwM M n) Q) : Wp E X k pc ls (vi z :: st) n G M Q := by
  intro p l e s m args below meth c H locs lsA c1 c2 c3 c4 c5 c6
  have hr : R32 z := ⟨by omega, by omega⟩
  have hsz := c4.1.2 hn
  refine va_newaK c1.1 c1.2.1 (atype := .int) (c1.2.2.2.2.2.1 _ hw) rfl hd rfl (fun q => by rw [i32_zero, i32_lt hr R32_0] at q; omega) (N := z.toNat) (by rw [i32_clamp hr]) (by show z.toNat * 4 ≤ _; omega) hk.1 hk.2 hsz (fun H1 cA e1 e2 e3 hA hf => ?_)
  have hc : cA = eC E 0 := by
    have h9 := (c2.1.1.2 0 _ rfl).2
    exact Option.some.inj (hf.symm.trans h9)
  subst hc
  have hat : va_at (eD E) vwCl (eB E + n, cel E (nwG G n (0, [z])) (nwM M n) n) H1 := by
    rw [cel_int (fs := [z]) (by simp [nwG])]
    show H1[eB E + n]? = some (vp_cell _ _)
    rw [vp_cell_i, e1]
    congr 2
    funext j
    simp [nwM]
    decide +kernel
  have c4' : HP E (n + 1) (nwG G n (0, [z])) (nwM M n) H1 := c4.push hn (by rw [e2, hsz]) hat (fun q hq => e3 q (by omega)) (fun i hi => nw_cel _ (by omega)) (nw_RG _ c4.2.2)
  exact h p l e s m args below meth c H1 locs lsA c1 c2 ⟨by rw [e2]; have := c3.1; omega, fun q q1 q2 => by rw [e3 q (by have := c3.1; omega)]; exact c3.2.1 q q1 q2, c3.2.2⟩ c4' c5 c6
theorem w_newL {z : Int} (hd : decode (mB X) pc = .ok (.newarray .long, 2)) (hw : Cond.arrayClass .long ∈ wG) (h0 : 0 ≤ z) (h1 : z ≤ 1000000) (hn : n < N0) (hk : k.2.2.2.1 + 1 ≤ k.2.1 ∧ k.2.2.2.2 + z.toNat ≤ k.2.2.1) (h : Wp E X (k.1, k.2.1, k.2.2.1, k.2.2.2.1 + 1, k.2.2.2.2 + z.toNat) (pc + 2) ls (vr n :: st) (n + 1) (nwG G n (1, [z])) (nwM M n) Q) : Wp E X k pc ls (vi z :: st) n G M Q := by
  intro p l e s m args below meth c H locs lsA c1 c2 c3 c4 c5 c6
  have hr : R32 z := ⟨by omega, by omega⟩
  have hsz := c4.1.2 hn
  refine va_newaK c1.1 c1.2.1 (atype := .long) (c1.2.2.2.2.2.1 _ hw) rfl hd rfl (fun q => by rw [i32_zero, i32_lt hr R32_0] at q; omega) (N := z.toNat) (by rw [i32_clamp hr]) (by show z.toNat * 8 ≤ _; omega) hk.1 hk.2 hsz (fun H1 cA e1 e2 e3 hA hf => ?_)
  have hc : cA = eC E 1 := by
    have h9 := (c2.1.1.2 1 _ rfl).2
    exact Option.some.inj (hf.symm.trans h9)
  subst hc
  have hat : va_at (eD E) vwCl (eB E + n, cel E (nwG G n (1, [z])) (nwM M n) n) H1 := by
    rw [cel_long (fs := [z]) (by simp [nwG])]
    show H1[eB E + n]? = some (vp_cell _ _)
    rw [vp_cell_l, e1]
    congr 2
    funext j
    simp [nwM]
    decide +kernel
  have c4' : HP E (n + 1) (nwG G n (1, [z])) (nwM M n) H1 := c4.push hn (by rw [e2, hsz]) hat (fun q hq => e3 q (by omega)) (fun i hi => nw_cel _ (by omega)) (nw_RG _ c4.2.2)
  exact h p l e s m args below meth c H1 locs lsA c1 c2 ⟨by rw [e2]; have := c3.1; omega, fun q q1 q2 => by rw [e3 q (by have := c3.1; omega)]; exact c3.2.1 q q1 q2, c3.2.2⟩ c4' c5 c6
/-- an object -/
theorem w_new {i ci : Nat} {fs : List Int} (hd : decode (mB X) pc = .ok (.new i, 3)) (hci : ci < 11) (hw1 : Cond.classLink (RR (mO X)) i (RR ci) ∈ wG) (hw2 : Cond.instantiable (RR ci) (NN ci) ∈ wG) (hw3 : Cond.initialized (RR ci) ∈ wG) (hfs : ∀ j, j < NN ci → fs[j]? = some (if tyT ci j = .int ∨ tyT ci j = .boolean then -1 else if tyT ci j = .long then -2 else -3) ∧ defaultValue (tyT ci j) = (if tyT ci j = .int ∨ tyT ci j = .boolean then .int (i32 0) else if tyT ci j = .long then .long (i64 0) else .null)) (hn : n < N0) (hk : k.2.2.2.1 + 1 ≤ k.2.1 ∧ k.2.2.2.2 + NN ci ≤ k.2.2.1)
    (h : Wp E X (k.1, k.2.1, k.2.2.1, k.2.2.2.1 + 1, k.2.2.2.2 + NN ci) (pc + 3) ls (vr n :: st) (n + 1) (nwG G n (ci + 4, fs)) (nwM M n) Q) : Wp E X k pc ls st n G M Q := by
  intro p l e s m args below meth c H locs lsA c1 c2 c3 c4 c5 c6
  obtain ⟨x1, x2, x3, x4⟩ := cls_ok ci hci
  have hts := c1.2.2.2.2.2.1
  have hKn := c2.1.1.1 ci _ x1
  have hsz := c4.1.2 hn
  refine W.newcK c1.1 c1.2.1 c1.2.2.2.2.1 (hts _ hw1) (hts _ hw2) (hts _ hw3) rfl hd hk.1 hk.2 hKn.2.1 hsz fun H1 kC hkC e1 e2 e3 => ?_
  have hat : va_at (eD E) vwCl (eB E + n, cel E (nwG G n (ci + 4, fs)) (nwM M n) n) H1 := by
    rw [cel_obj (ci := ci) (fs := fs) (by simp [nwG])]
    refine ⟨_, x1, (u_born (tyT ci) hts x2 hKn hkC e1 x3).to (fun j hj => ?_)⟩
    obtain ⟨f1, f2⟩ := hfs j hj
    show defaultValue (tyT ci j) = (fs.mapIdx (fun j q => fv E (nwM M n) n j q)).getD j .null
    rw [List.getD_eq_getElem?_getD, List.getElem?_mapIdx, f1, f2]
    simp only [Option.map_some, Option.getD_some]
    have hz : nwM M n n (j : Int) = 0 := by simp [nwM]
    unfold fv
    rw [hz]
    by_cases g1 : tyT ci j = .int ∨ tyT ci j = .boolean
    · simp [if_pos g1]
    · by_cases g2 : tyT ci j = .long
      · simp [if_neg g1, if_pos g2]
      · simp [if_neg g1, if_neg g2]
  have c4' : HP E (n + 1) (nwG G n (ci + 4, fs)) (nwM M n) H1 := c4.push hn (by rw [e2, hsz]) hat (fun q hq => e3 q (by omega)) (fun i hi => nw_cel _ (by omega)) (nw_RG _ c4.2.2)
  exact h p l e s m args below meth c H1 locs lsA c1 c2 ⟨by rw [e2]; have := c3.1; omega, fun q q1 q2 => by rw [e3 q (by have := c3.1; omega)]; exact c3.2.1 q q1 q2, c3.2.2⟩ c4' c5 c6
/-- a row of Sky, empty -/
theorem w_anew {i : Nat} {z : Int} {fs : List Int} (hd : decode (mB X) pc = .ok (.anewarray i, 3)) (hw1 : Cond.classLink (RR (mO X)) i RX6 ∈ wG) (h0 : 0 ≤ z) (h1 : z ≤ 1000000) (hfs : fs = List.replicate z.toNat (-3)) (hn : n < N0) (hk : k.2.2.2.1 + 1 ≤ k.2.1 ∧ k.2.2.2.2 + z.toNat ≤ k.2.2.1) (h : Wp E X (k.1, k.2.1, k.2.2.1, k.2.2.2.1 + 1, k.2.2.2.2 + z.toNat) (pc + 3) ls (vr n :: st) (n + 1) (nwG G n (2, fs)) (nwM M n) Q) : Wp E X k pc ls (vi z :: st) n G M Q := by
  intro p l e s m args below meth c H locs lsA c1 c2 c3 c4 c5 c6
  subst hfs
  have hr : R32 z := ⟨by omega, by omega⟩
  have hsz := c4.1.2 hn
  have hcl : (i32 z).toNatClampNeg = z.toNat := i32_clamp hr
  refine W.anew c1.1 c1.2.1 c1.2.2.2.2.1 (c1.2.2.2.2.2.1 _ hw1) (va_AO.use c2.1.2.2.2.1) rfl hd rfl (fun q => by rw [i32_zero, i32_lt hr R32_0] at q; omega) (by rw [hcl]; omega) hk.1 (by rw [hcl]; exact hk.2) fun cA kA comp f1 f2 f3 f4 => ?_
  have hc : cA = eC E 2 := by
    obtain ⟨_, _, -, -, -, h9⟩ := (c2.1.1.2 2 _ rfl).2
    exact Option.some.inj (f1.symm.trans h9)
  subst hc
  rw [hcl]
  generalize hH1 : H.push ({ cls := eC E 2, slots := Array.replicate z.toNat .null, vm := .none } : Cell) = H1
  have e2 : H1.size = H.size + 1 := by rw [← hH1, Array.size_push]
  have e1 : H1[H.size]? = some (arrV (eC E 2) z.toNat (fun _ => .null)) := by rw [← hH1, Array.getElem?_push_size, ← arrV_new]
  have e3 : ∀ q : Nat, q < H.size → H1[q]? = H[q]? := fun q hq => by rw [← hH1, Array.getElem?_push, if_neg (Nat.ne_of_lt hq)]
  have hat : va_at (eD E) vwCl (eB E + n, cel E (nwG G n (2, List.replicate z.toNat (-3))) (nwM M n) n) H1 := by
    rw [cel_ref2 (fs := List.replicate z.toNat (-3)) (by simp [nwG])]
    show H1[eB E + n]? = some (vp_cell _ _)
    rw [vp_cell_q, ← hsz, e1, List.length_replicate]
    congr 2
    funext j
    have : (List.replicate z.toNat (-3 : Int)).getD j (-3) = -3 := by
      rw [List.getD_eq_getElem?_getD, List.getElem?_replicate]
      split <;> rfl
    rw [this]
    rfl
  have c4' : HP E (n + 1) (nwG G n (2, List.replicate z.toNat (-3))) (nwM M n) H1 := c4.push hn e2 hat (fun q hq => e3 q hq) (fun i hi => nw_cel _ (by omega)) (nw_RG _ c4.2.2)
  have h9 := h p l e s m args below meth c H1 locs lsA c1 c2 ⟨by rw [e2]; have := c3.1; omega, fun q q1 q2 => by rw [e3 q (by have := c3.1; omega)]; exact c3.2.1 q q1 q2, c3.2.2⟩ c4' c5 c6
  rw [hsz]
  exact h9
theorem setq_getD {fs : List Int} {j q : Nat} {r : Int} (hl : j < fs.length) : (fs.set j r).getD q (-3) = if q = j then r else fs.getD q (-3) := by
  rw [List.getD_eq_getElem?_getD, List.getElem?_set]
  by_cases e : j = q
  · subst e
    simp [hl]
  · rw [if_neg e, if_neg (fun w => e w.symm), List.getD_eq_getElem?_getD]
/-- a Sky into a row of them -/
theorem w_aast {a r : Nat} {z : Int} {fs gs : List Int} (hd : decode (mB X) pc = .ok (.aastore, 1)) (hg : G a = (2, fs)) (ha : a < n) (hr0 : r < n) (hgr : G r = (6 + 4, gs)) (h0 : 0 ≤ z) (h1 : z < fs.length) (hN : fs.length < 2147483648) (h : Wp E X k (pc + 1) ls st n (upG G a z.toNat (r : Int)) M Q) : Wp E X k pc ls (vr r :: vi z :: vr a :: st) n G M Q := by
  intro p l e s m args below meth c H locs lsA c1 c2 c3 c4 c5 c6
  have hr : R32 z := ⟨by omega, by omega⟩
  have he := c4.at ha
  rw [cel_ref2 hg] at he
  obtain ⟨r', hr', cellV, g1, g2, g3, -⟩ := (by have h9 := c4.at hr0; rw [cel_obj hgr] at h9; exact h9 : va_at (eD E) vwCl (eB E + r, .inr (6, gs.mapIdx (fun j q => fv E M r j q))) H)
  obtain ⟨x1, -, -, -⟩ := cls_ok 6 (by decide)
  have hcls := (c2.1.1.1 6 _ x1).2
  obtain ⟨kA, comp, k1, k2, k3, -⟩ := (c2.1.1.2 2 _ rfl).2
  have hcomp : comp = (eD E).1 6 := Option.some.inj (k3.symm.trans hcls.1)
  subst hcomp
  obtain ⟨kC, hkC, -⟩ := id hcls.2
  have hlt : z.toNat < fs.length := by omega
  refine W.aast c1.1 c1.2.1 he (fun q h => by cases h) (fun h => by cases h) k1 k2 rfl hkC ⟨fun q => by rw [i32_zero, i32_lt hr R32_0] at q; omega, by show _ < (arrV _ _ _).slots.size; rw [arrV_size, i32_clamp hr]; exact hlt⟩ g1 (fun q h => by rw [g3] at h; cases h) (by rw [g2]; exact hkC) (by rw [g2]; exact va_assign hcls) rfl rfl hd fun H1 e1 e2 e3 => ?_
  have hat : va_at (eD E) vwCl (eB E + a, cel E (upG G a z.toNat (r : Int)) M a) H1 := by
    rw [cel_ref2 (fs := fs.set z.toNat (r : Int)) (by simp [upG, hg])]
    show H1[eB E + a]? = some (vp_cell _ _)
    rw [e1, vp_cell_q, vp_cell_q, arrV_store, List.length_set, i32_clamp hr]
    congr 2
    funext q
    rw [setq_getD hlt]
    by_cases hq : q = z.toNat
    · subst hq
      have eq9 : fq E (r : Int) = some (eB E + r) := by
        unfold fq
        rw [if_neg (by omega), show ((r : Int)).toNat = r by omega]
      simp [updV, eq9, va_rf]
    · simp [updV, hq]
  have c4' : HP E n (upG G a z.toNat (r : Int)) M H1 := c4.put ha e2 hat e3 (fun i _ hne => cel_upG hne) (fun i hi q => by
    have hk : (upG G a z.toNat (r : Int) i).1 = (G i).1 := by
      by_cases e : i = a
      · subst e; simp [upG]
      · simp [upG, e]
    rw [hk]; exact c4.2.2 i hi q)
  exact h p l e s m args below meth c H1 _ lsA c1 c2 (c3.put e2 e3 (Nat.le_add_right _ _)) c4' c5 c6
/-- new int[z][y]: the row of rows, and the rows behind it -/
def mnG (G : GG) (n N : Nat) (y : Int) : GG := fun i => if i = n then (3, (List.range N).map (fun j => ((n + 1 + j : Nat) : Int))) else if n < i ∧ i ≤ n + N then (0, [y]) else G i
def mnM (M : MM) (n N : Nat) : MM := fun i q => if n ≤ i ∧ i ≤ n + N then 0 else M i q
theorem mn_outer (c : ClassId) (N h0 : Nat) : ∀ i : Nat, Jvm.Free.Multi.outerC c N h0 i = arrV c N (fun j => va_rf (if j < i then some (h0 + 1 + j) else none))
  | 0 => by
    show ({ cls := c, slots := Array.replicate N .null, vm := .none } : Cell) = _
    rw [arrV_new]
    refine congrArg (arrV c N) (funext fun j => ?_)
    simp [va_rf]
  | i + 1 => by
    show (Jvm.Free.Multi.outerC c N h0 i).setSlot i (.ref (h0 + 1 + i)) = _
    rw [mn_outer c N h0 i, arrV_store]
    refine congrArg (arrV c N) (funext fun j => ?_)
    by_cases e : j = i
    · subst e
      simp [updV, va_rf]
    · by_cases h : j < i
      · simp [updV, e, h, Nat.lt_succ_of_lt h]
      · simp [updV, e, h, show ¬ j < i + 1 by omega]
theorem w_multi {i : Nat} {y z : Int} (hd : decode (mB X) pc = .ok (.multianewarray i 2, 4)) (hw1 : Cond.classLink (RR (mO X)) i ("[" ++ (FieldType.array .int).toString) ∈ wG) (hw2 : Cond.arrayClass .int ∈ wG) (h0 : 0 ≤ z) (h1 : z ≤ 1000) (h2 : 0 ≤ y) (h3 : y ≤ 1000) (hn : n + z.toNat < N0) (hk : k.2.2.2.1 + (1 + z.toNat) ≤ k.2.1 ∧ k.2.2.2.2 + (z.toNat + z.toNat * y.toNat) ≤ k.2.2.1)
    (h : Wp E X (k.1, k.2.1, k.2.2.1, k.2.2.2.1 + 1 + z.toNat, k.2.2.2.2 + z.toNat + z.toNat * y.toNat) (pc + 4) ls (vr n :: st) (n + 1 + z.toNat) (mnG G n z.toNat y) (mnM M n z.toNat) Q) : Wp E X k pc ls (vi y :: vi z :: st) n G M Q := by
  intro p l e s m args below meth c H locs lsA c1 c2 c3 c4 c5 c6
  have hrz : R32 z := ⟨by omega, by omega⟩
  have hry : R32 y := ⟨by omega, by omega⟩
  have hz := i32_clamp hrz
  have hy := i32_clamp hry
  have hsz := c4.1.2 (by omega)
  intro T hT Xs
  obtain ⟨vm₁, cA, comp, -, fA, fC, -, -, X', step⟩ := Xs.multianewarray2F c1.1 c1.2.2.2.2.1 (c1.2.2.2.2.2.1 _ hw1) c2.1.2.2.2.2 (c1.2.2.2.2.2.1 _ hw2) (g := F0 m pc lsA (.int (i32 y) :: .int (i32 z) :: st.map (cvv E))) rfl (by rw [c1.2.1]; exact hd) rfl (fun q => by rw [i32_zero, i32_lt hrz R32_0] at q; omega) (fun q => by rw [i32_zero, i32_lt hry R32_0] at q; omega) (by rw [hz]; omega) (by rw [hy]; show y.toNat * 4 ≤ _; omega) (by rw [hy]; omega) rfl rfl (by rw [hz]; exact hk.1) (by rw [hz, hy]; exact hk.2)
  rw [hz, hy] at X' step
  have ecA : cA = eC E 3 := by
    have h9 := (c2.1.1.2 3 _ rfl).2
    exact Option.some.inj (fA.symm.trans h9)
  have ecI : comp = eC E 0 := by
    have h9 := (c2.1.1.2 0 _ rfl).2
    exact Option.some.inj (fC.symm.trans h9)
  subst ecA
  subst ecI
  generalize hF : Jvm.Free.Multi.fill (T.setVm vm₁) (eC E 3) (eC E 0) z.toNat y.toNat (defaultValue .int) z.toNat = F at X' step
  have hTh : (T.setVm vm₁).heap = H := hT
  obtain ⟨f1, f2, -, -⟩ := Jvm.Free.Multi.fill_facts (T.setVm vm₁) (eC E 3) (eC E 0) z.toNat y.toNat (defaultValue .int) z.toNat
  rw [hF, hTh] at f1 f2
  have hold : ∀ x : Nat, x < H.size → F.heap[x]? = H[x]? := fun x hx => by
    have := Jvm.Free.Multi.fill_old (T.setVm vm₁) (eC E 3) (eC E 0) z.toNat y.toNat (defaultValue .int) (a := x) (by rw [hTh]; exact hx) z.toNat
    rw [hF, hTh] at this
    exact this
  have hrow : ∀ j : Nat, j < z.toNat → F.heap[H.size + 1 + j]? = some (Jvm.Free.Multi.innerC (eC E 0) y.toNat (defaultValue .int)) := fun j hj => by
    have := Jvm.Free.Multi.fill_inner (T.setVm vm₁) (eC E 3) (eC E 0) z.toNat y.toNat (defaultValue .int) z.toNat j hj
    rw [hF, hTh] at this
    exact this
  rw [mn_outer] at f2
  have c4' : HP E (n + 1 + z.toNat) (mnG G n z.toNat y) (mnM M n z.toNat) F.heap := by
    refine HP.mk ⟨by omega, fun _ => by omega⟩ (fun i hi q => ?_) (fun i hi => ?_)
    · by_cases hi2 : n ≤ i
      · have : mnM M n z.toNat i q = 0 := by unfold mnM; rw [if_pos ⟨hi2, by omega⟩]
        rw [this]
        exact ⟨by omega, Or.inr (Or.inr (by omega))⟩
      · have e1 : mnM M n z.toNat i q = M i q := by unfold mnM; rw [if_neg (by omega)]
        have e2 : mnG G n z.toNat y i = G i := by unfold mnG; rw [if_neg (by omega), if_neg (by omega)]
        rw [e1, e2]
        exact c4.2.2 i (by omega) q
    · by_cases hi1 : i < n
      · have e1 : mnM M n z.toNat i = M i := by funext q; unfold mnM; rw [if_neg (by omega)]
        have e2 : mnG G n z.toNat y i = G i := by unfold mnG; rw [if_neg (by omega), if_neg (by omega)]
        have e3 : cel E (mnG G n z.toNat y) (mnM M n z.toNat) i = cel E G M i := by
          unfold cel
          simp only [fv, e1, e2]
        rw [e3]
        exact (c4.at hi1).kept (hold _ (c4.at hi1).lt)
      · by_cases hi2 : i = n
        · subst hi2
          rw [cel_ref3 (fs := (List.range z.toNat).map (fun j => ((i + 1 + j : Nat) : Int))) (by simp [mnG])]
          show F.heap[eB E + i]? = some (vp_cell _ _)
          rw [vp_cell_q, ← hsz, f2, List.length_map, List.length_range]
          congr 1
          have harr : ∀ f g : Nat → Value, (∀ j, j < z.toNat → f j = g j) → arrV (eC E 3) z.toNat f = arrV (eC E 3) z.toNat g := fun f g hfg => by
            unfold arrV
            congr 2
            funext j
            exact hfg j.val j.isLt
          refine harr _ _ (fun j hj => ?_)
          rw [if_pos hj, List.getD_eq_getElem?_getD, List.getElem?_map, List.getElem?_range hj]
          show va_rf (some (H.size + 1 + j)) = va_rf (fq E ((i + 1 + j : Nat) : Int))
          unfold fq
          rw [if_neg (by omega), hsz, show (((i + 1 + j : Nat) : Int)).toNat = i + 1 + j by omega]
          congr 2
          omega
        · rw [cel_int (fs := [y]) (by unfold mnG; rw [if_neg hi2, if_pos (by omega)])]
          show F.heap[eB E + i]? = some (vp_cell _ _)
          have h9 := hrow (i - n - 1) (by omega)
          rw [show H.size + 1 + (i - n - 1) = eB E + i by omega] at h9
          rw [h9, vp_cell_i]
          unfold Jvm.Free.Multi.innerC
          rw [arrV_new]
          congr 2
          funext j
          have : mnM M n z.toNat i (j : Int) = 0 := by unfold mnM; rw [if_pos (by omega)]
          rw [this]
          decide +kernel
  have c3' : va_S (eA E) s.heap F.heap locs := ⟨by have := c3.1; omega, fun q q1 q2 => by rw [hold q (by have := c3.1; omega)]; exact c3.2.1 q q1 q2, c3.2.2⟩
  have h9 := h p l e s m args below meth c F.heap locs lsA c1 c2 c3' c4' c5 c6
  obtain ⟨t, a1, b1⟩ := h9 F rfl X'
  refine ⟨t, step t ?_, b1⟩
  rw [hT, hsz]
  exact a1
/-- the script -/
theorem w_slen (hd : decode (mB X) pc = .ok (.arraylength, 1)) (h : Wp E X k (pc + 1) ls (vi ((eL E : Nat) : Int) :: st) n G M Q) : Wp E X k pc ls (vz 3 :: st) n G M Q := by
  intro p l e s m args below meth c H locs lsA c1 c2 c3 c4 c5 c6
  obtain ⟨h7, h8⟩ := c2.2.2
  have h9 : eZ E 3 < s.heap.size := by
    obtain ⟨cell, q, -⟩ := h7
    exact (Array.getElem?_eq_some_iff.mp q).1
  refine va_slen c1.1 c1.2.1 h7 h9 h8 c3 hd ?_
  have h0 := h p l e s m args below meth c H locs lsA c1 c2 c3 c4 c5 c6
  rw [show Int32.ofNat (eL E) = i32 ((eL E : Nat) : Int) from by rw [i32_N]; rfl]
  exact h0
theorem w_sld {j : Nat} (hd : decode (mB X) pc = .ok (.iaload, 1)) (hj : j < eL E) (hL : eL E < 2147483648) (h : Wp E X k (pc + 1) ls (vi (eX E j).toInt :: st) n G M Q) : Wp E X k pc ls (vi (j : Int) :: vz 3 :: st) n G M Q := by
  intro p l e s m args below meth c H locs lsA c1 c2 c3 c4 c5 c6
  obtain ⟨h7, h8⟩ := c2.2.2
  have h9 : eZ E 3 < s.heap.size := by
    obtain ⟨cell, q, -⟩ := h7
    exact (Array.getElem?_eq_some_iff.mp q).1
  refine va_sld c1.1 c1.2.1 h7 h9 h8 c3 (i := i32 (j : Int)) (i32_in (by omega) (by omega) hL) hd ?_
  have h0 := h p l e s m args below meth c H locs lsA c1 c2 c3 c4 c5 c6
  rw [i32_clamp ⟨by omega, by omega⟩, Int.toNat_natCast]
  rw [List.map_cons, show cvv E (vi (eX E j).toInt) = .int (eX E j) from congrArg Value.int (i32_self _)] at h0
  exact h0
end More
