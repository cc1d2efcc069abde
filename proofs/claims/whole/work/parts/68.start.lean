/-! ===== WHAT HOLDS WHERE THE LAW BEGINS ===== -/
theorem arr_of {s : State} {cA : ClassId} {kA : Class} {comp : ClassId} {ty : FieldType} (h1 : s.vm.classes[cA]? = some kA) (h2 : kA.kind = .array comp ty) : ArrOfT s cA ty := fun n z => ⟨fun k h => (by cases h), kA, h1, comp, h2⟩
theorem inst_ok : ∀ ci, ci < 11 → Cond.instantiable (RR ci) (NN ci) ∈ wG
  | 0, _ => inst0 | 1, _ => inst1 | 2, _ => inst2 | 3, _ => inst3 | 4, _ => inst4 | 5, _ => inst5 | 6, _ => inst6 | 7, _ => inst7 | 8, _ => inst8 | 9, _ => inst9 | 10, _ => inst10
  | n + 11, h => absurd h (by omega)
theorem cls_known {s : State} {args : Array Value} (hts : ∀ w ∈ lw_tbl, w.before args s = true) (ci : Nat) : ∃ x : ClassId × (Nat → Nat), ci < 11 → u_Kn s (RR ci) (TT ci) (NN ci) x.1 x.2 := by
  by_cases h : ci < 11
  · obtain ⟨-, x2, -, -⟩ := cls_ok ci h
    obtain ⟨cC, iS, hK⟩ := u_known (C := RR ci) (T := TT ci) (N := NN ci) (n := NN ci) hts (fun w hw => wG_tbl (x2 w hw)) (hts _ (wG_tbl (inst_ok ci h)))
    exact ⟨(cC, iS), fun _ => hK⟩
  · exact ⟨(0, fun _ => 0), fun q => absurd q h⟩
theorem vw_len {c : Nat} {q : vw_C} (h : vwCl[c]? = some q) : c < 11 ∧ q = (RR c, TT c, NN c) := by
  have hc : c < 11 := by
    have := (List.getElem?_eq_some_iff.mp h).1
    have e : vwCl.length = 11 := by decide +kernel
    omega
  obtain ⟨x1, -, -, -⟩ := cls_ok c hc
  exact ⟨hc, Option.some.inj (h.symm.trans x1)⟩
/-- a static row of six numbers -/
theorem stat_of {s : State} {args : Array Value} {C n : String} {v : Nat → Int} {A : Nat → Prop} (harr : (Cond.arrayOf (.static C n "[I") .int).before args s = true) (hlen : (Cond.eq (.length (.static C n "[I")) (.int 6)).before args s = true)
    (hel : ∀ j : Nat, j < 6 → (Cond.eq (.elem (.static C n "[I") (.int (Int32.ofNat j))) (.int (i32 (v j)))).before args s = true) (hl : (Cond.laysStatic C n "[I").before args s = true) (hini : (Cond.initialized C).before args s = true) (hA : ∀ a : Nat, a < s.heap.size → ¬ A a) :
    ∃ t : Nat, va_Z C n "[I" (.ref t) A s s.heap ∧ va_T .int t 6 (fun j => .int (i32 (v j))) A s s.heap := by
  obtain ⟨t, h1, h2⟩ := va_Tof (tm := .static C n "[I") (ty := .int) (N := 6) (f := fun j => .int (i32 (v j))) (A := A) (by decide) harr (va_eqt hlen) (fun j hj => va_eqt (hel j hj)) hA
  exact ⟨t, va_Zof hl hini h1 hA, h2⟩
theorem nest_in : ∀ q ∈ nestM, Cond.methodLinkNest q.1 q.2.1 q.2.2 RX9 ∈ lw_tbl := by decide +kernel
theorem law_env {s : State} {b L : Nat} {xs : Nat → Int32} (hts : ∀ w ∈ lw_tbl, w.before #[Value.ref b] s = true) (hX : va_X b L xs s s.heap) (hbl : b < s.heap.size) (hgv : (Jvm.Cond.and given_1 narrow_1).before #[Value.ref b] s = true) :
    ∃ E : EV, eB E = s.heap.size ∧ eZ E 3 = b ∧ eL E = L ∧ eX E = xs ∧ K1 E s := by
  have hs := flat_of_before _ hgv
  have hA : ∀ a : Nat, a < s.heap.size → ¬ (fun q : Nat => s.heap.size ≤ q) a := fun a ha h => absurd (show s.heap.size ≤ a from h) (by omega)
  obtain ⟨t0, z0, y0⟩ := stat_of (C := RX9) (n := "NEAREST") (v := zV 0) (A := fun q : Nat => s.heap.size ≤ q) (hs _ (by decide +kernel)) (hs _ (by decide +kernel)) (fun j hj => hs _ (by rcases (show j = 0 ∨ j = 1 ∨ j = 2 ∨ j = 3 ∨ j = 4 ∨ j = 5 by omega) with rfl | rfl | rfl | rfl | rfl | rfl <;> decide +kernel)) (hts _ (by decide +kernel)) (hts _ (by decide +kernel)) hA
  obtain ⟨t1, z1, y1⟩ := stat_of (C := RX1) (n := "SIZES") (v := zV 1) (A := fun q : Nat => s.heap.size ≤ q) (hs _ (by decide +kernel)) (hs _ (by decide +kernel)) (fun j hj => hs _ (by rcases (show j = 0 ∨ j = 1 ∨ j = 2 ∨ j = 3 ∨ j = 4 ∨ j = 5 by omega) with rfl | rfl | rfl | rfl | rfl | rfl <;> decide +kernel)) (hts _ (by decide +kernel)) (hts _ (by decide +kernel)) hA
  obtain ⟨t2, z2, y2⟩ := stat_of (C := RX1) (n := "MARKS") (v := zV 2) (A := fun q : Nat => s.heap.size ≤ q) (hs _ (by decide +kernel)) (hs _ (by decide +kernel)) (fun j hj => hs _ (by rcases (show j = 0 ∨ j = 1 ∨ j = 2 ∨ j = 3 ∨ j = 4 ∨ j = 5 by omega) with rfl | rfl | rfl | rfl | rfl | rfl <;> decide +kernel)) (hts _ (by decide +kernel)) (hts _ (by decide +kernel)) hA
  obtain ⟨cI, kI, oI, i1, i2, i3⟩ := Cond.arrayClass_spec (hts _ (wG_tbl acI))
  obtain ⟨cJ, kJ, oJ, j1, j2, j3⟩ := Cond.arrayClass_spec (hts _ (wG_tbl acL))
  have hoS : (Cond.arrayOver (.object RX6)).before #[Value.ref b] s = true := hts _ (by decide +kernel)
  have hoI : (Cond.arrayOver (.array .int)).before #[Value.ref b] s = true := hts _ (by decide +kernel)
  obtain ⟨oS, cS, kS, s1, -, s2, s3, s4⟩ := Cond.arrayOver_spec hoS
  obtain ⟨oR, cR, kR, r1, -, r2, r3, r4⟩ := arrayOverA_spec hoI
  have hK := cls_known hts
  refine ⟨((fun ci => (Classical.choose (hK ci)).1, fun ci => (Classical.choose (hK ci)).2), (fun k => if k = 0 then cI else if k = 1 then cJ else if k = 2 then cS else cR), s.heap.size, (fun z => if z = 0 then t0 else if z = 1 then t1 else if z = 2 then t2 else b), L, xs), rfl, rfl, rfl, rfl, ⟨⟨?_, ?_⟩, ?_, ?_, ?_, ?_⟩, ?_, hX, hA b hbl⟩
  · intro c q hq
    obtain ⟨hc, rfl⟩ := vw_len hq
    exact Classical.choose_spec (hK c) hc
  · intro k q hq
    match k, hq with
    | 0, hq => cases hq; exact ⟨arr_of i2 i3, i1⟩
    | 1, hq => cases hq; exact ⟨arr_of j2 j3, j1⟩
    | 2, hq => cases hq; exact ⟨arr_of s2 s3, kS, oS, s2, s3, s1, s4⟩
    | 3, hq => cases hq; exact ⟨arr_of r2 r3, r4⟩
    | k + 4, hq => simp [tyL] at hq
  · intro q hq
    exact va_Nw.of rfl (hts _ (nest_in q hq))
  · exact va_Nw.of rfl (hts _ (by decide +kernel))
  · exact va_AO.of hoS
  · exact hoI
  · intro z hz
    match z, hz with
    | 0, _ => exact ⟨z0, y0⟩
    | 1, _ => exact ⟨z1, y1⟩
    | 2, _ => exact ⟨z2, y2⟩
    | z + 3, h => exact absurd h (by omega)
theorem room_le {s : State} {pl : Platform} (h : s.hasRoom pl room_1 = true) : s.hasRoom pl (rmD 1400 600000 7302250) = true := by
  have h0 := State.hasRoom_stack h
  have h1 := State.hasRoom_heap h
  have h2 := State.hasRoom_real h
  have h3 : s.slotsTrue = true := by
    simp only [State.hasRoom, Bool.and_eq_true] at h
    exact h.2
  have e1 : s.frames.length + 2048 ≤ pl.maxFrames := h0.1
  exact State.hasRoom_of (State.hasRoom_plain h) (show s.frames.length + 1400 ≤ pl.maxFrames by omega) (show s.localsInUse + 84000 ≤ pl.maxStackSlots from h0.2.2.1) h1.1 h1.2 h3 h2
