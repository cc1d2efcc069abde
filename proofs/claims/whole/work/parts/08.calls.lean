/-! ===== RETURNS AND CALLS ===== -/
def MOK (Y : MD) : Prop := plainName (mY Y).cls = true ∧ (mY Y).cls = RR (mO Y) ∧ Cond.code (mY Y) (mB Y) (mL Y) (mR Y) ∈ wG ∧ Cond.initialized (mY Y).cls ∈ wG ∧ ((mY Y).cls ≠ "java/lang/invoke/MethodHandle" ∧ (mY Y).cls ≠ "java/lang/invoke/VarHandle") ∧ (parseMethodDescriptor (mY Y).desc).map (fun d => d.parameters.length) = some (mN Y) ∧ mL Y ≤ 41
def LVk (oc i : Nat) (Y : MD) : Prop := Cond.methodLink (RR oc) i (mY Y) ∈ wG ∧ Cond.instanceMethod (mY Y) ∈ wG ∧ Cond.selects (mY Y).cls (mY Y) (mY Y) ∈ wG
def LSk (oc i : Nat) (Y : MD) : Prop := Cond.methodLink (RR oc) i (mY Y) ∈ wG ∧ Cond.static (mY Y) ∈ wG
def LNk (oc i : Nat) (Y : MD) : Prop := (RR oc, i, mY Y) ∈ nestM ∧ Cond.static (mY Y) ∈ wG
def LIk (oc i : Nat) (Y : MD) : Prop := Cond.methodLink (RR oc) i (mY Y) ∈ wG ∧ Cond.instanceMethod (mY Y) ∈ wG ∧ (mY Y).name = "<init>" ∧ mR Y = none
def LJk (oc i : Nat) (Y : MD) : Prop := (RR oc, i, mY Y) ∈ nestM ∧ Cond.instanceMethod (mY Y) ∈ wG ∧ (mY Y).name = "<init>" ∧ mR Y = none
section Rets
variable {E : EV} {X : MD} {k : KK} {pc : Nat} {ls : LV} {st : List AV} {n : Nat} {G : GG} {M : MM} {Q : PP}
theorem w_iret {z : Int} (hd : decode (mB X) pc = .ok (.ireturn, 1)) (hr : mR X = some .int) (hz : R32 z) (hq : Q (some (vi z)) n G M) (hk : k.2.2.2.1 ≤ k.2.1 ∧ k.2.2.2.2 ≤ k.2.2.1 := by exact ⟨Nat.le_refl _, Nat.le_refl _⟩) : Wp E X k pc ls [vi z] n G M Q := by
  intro p l e s m args below meth c H locs lsA c1 c2 c3 c4 c5 c6
  refine W.widen (k := k.2.1) (n := k.2.2.1) hk.1 hk.2 ?_
  exact W.iret (v := i32 z) c1.1 c1.2.1 (c1.2.2.1.trans hr) (fun t ht hW => ⟨⟨some (vi z), n, G, M, rfl, hq, ⟨fun w hw => by cases hw; exact hz, fun w hw => by cases hw⟩, by rw [ht]; exact c4⟩, c3.F ht⟩) c3.2.2 hd c1.2.2.2.2.2.2.1
theorem w_zret {b : Bool} (hd : decode (mB X) pc = .ok (.ireturn, 1)) (hr : mR X = some .boolean) (hq : Q (some (vi (bi b))) n G M) (hk : k.2.2.2.1 ≤ k.2.1 ∧ k.2.2.2.2 ≤ k.2.2.1 := by exact ⟨Nat.le_refl _, Nat.le_refl _⟩) : Wp E X k pc ls [vi (bi b)] n G M Q := by
  intro p l e s m args below meth c H locs lsA c1 c2 c3 c4 c5 c6
  refine W.widen (k := k.2.1) (n := k.2.2.1) hk.1 hk.2 ?_
  exact W.zret (v := i32 (bi b)) (ty := .boolean) c1.1 c1.2.1 (c1.2.2.1.trans hr) (by cases b <;> decide +kernel) (fun t ht hW => ⟨⟨some (vi (bi b)), n, G, M, rfl, hq, ⟨fun w hw => by cases hw; exact R32_bi b, fun w hw => by cases hw⟩, by rw [ht]; exact c4⟩, c3.F ht⟩) c3.2.2 hd c1.2.2.2.2.2.2.1
theorem w_vret (hd : decode (mB X) pc = .ok (.return_, 1)) (hr : mR X = none) (hq : Q none n G M) (hk : k.2.2.2.1 ≤ k.2.1 ∧ k.2.2.2.2 ≤ k.2.2.1 := by exact ⟨Nat.le_refl _, Nat.le_refl _⟩) : Wp E X k pc ls [] n G M Q := by
  intro p l e s m args below meth c H locs lsA c1 c2 c3 c4 c5 c6
  refine W.widen (k := k.2.1) (n := k.2.2.1) hk.1 hk.2 ?_
  exact W.vret c1.1 c1.2.1 (c1.2.2.1.trans hr) (fun t ht hW => ⟨⟨none, n, G, M, rfl, hq, ⟨fun w hw => (by cases hw), fun w hw => (by cases hw)⟩, by rw [ht]; exact c4⟩, c3.F ht⟩) c3.2.2 hd c1.2.2.2.2.2.2.1
theorem w_lret {z : Int} (hd : decode (mB X) pc = .ok (.lreturn, 1)) (hr : mR X = some .long) (hz : R64 z) (hq : Q (some (vl z)) n G M) (hk : k.2.2.2.1 ≤ k.2.1 ∧ k.2.2.2.2 ≤ k.2.2.1 := by exact ⟨Nat.le_refl _, Nat.le_refl _⟩) : Wp E X k pc ls [vl z] n G M Q := by
  intro p l e s m args below meth c H locs lsA c1 c2 c3 c4 c5 c6
  refine W.widen (k := k.2.1) (n := k.2.2.1) hk.1 hk.2 ?_
  exact W.lret (v := i64 z) c1.1 c1.2.1 (c1.2.2.1.trans hr) (fun t ht hW => ⟨⟨some (vl z), n, G, M, rfl, hq, ⟨fun w hw => (by cases hw), fun w hw => by cases hw; exact hz⟩, by rw [ht]; exact c4⟩, c3.F ht⟩) c3.2.2 hd c1.2.2.2.2.2.2.1
theorem w_aret {a : Nat} {C : String} (hd : decode (mB X) pc = .ok (.areturn, 1)) (hr : mR X = some (.object C)) (hq : Q (some (vr a)) n G M) (hk : k.2.2.2.1 ≤ k.2.1 ∧ k.2.2.2.2 ≤ k.2.2.1 := by exact ⟨Nat.le_refl _, Nat.le_refl _⟩) : Wp E X k pc ls [vr a] n G M Q := by
  intro p l e s m args below meth c H locs lsA c1 c2 c3 c4 c5 c6
  refine W.widen (k := k.2.1) (n := k.2.2.1) hk.1 hk.2 ?_
  exact W.aret (v := .ref (eB E + a)) c1.1 c1.2.1 (c1.2.2.1.trans hr) (Or.inl ⟨_, rfl⟩) (Or.inr ⟨_, rfl⟩) (fun t ht hW => ⟨⟨some (vr a), n, G, M, rfl, hq, ⟨fun w hw => (by cases hw), fun w hw => (by cases hw)⟩, by rw [ht]; exact c4⟩, c3.F ht⟩) c3.2.2 hd c1.2.2.2.2.2.2.1
/-- behind a call -/
theorem w_back {p : Program} {l : Launch} {e : Env} {s : State} {m : MethodId} {args : Array Value} {below : List Frame} {meth : Method} {c : Code} {H : Heap} {locs : List Loc} {lsA : Array Slot} {st0 : List Value} {a : Array Value} {mc ms : Nat} {Q' : PP}
    (hr : va_Run p l e (rmD k.1 k.2.1 k.2.2.1) s m args below meth c H locs k.2.2.2.1 k.2.2.2.2 mc ms (F0 m pc lsA st0) (st.map (cvv E)) (QcE E Q' a) (eA E))
    (c1 : CX X p s m args meth c) (c2 : K1 E s) (c3 : va_S (eA E) s.heap H locs) (c5 : LH E lsA (mL X) ls) (c6 : eB E ≤ s.heap.size)
    (h : ∀ (r : Option AV) (n' : Nat) (G' : GG) (M' : MM), RV r → Q' r n' G' M' → Wp E X (k.1, k.2.1, k.2.2.1, k.2.2.2.1 + mc, k.2.2.2.2 + ms) (pc + 3) ls (r.toList ++ st) n' G' M' Q) :
    W p l e (rmD k.1 k.2.1 k.2.2.1) s m args below meth c H locs k.2.2.2.1 k.2.2.2.2 (MQ below (QcE E Q) args s k.2.1 k.2.2.1 (eA E)) (F0 m pc lsA st0) := by
  intro T hT Xs
  obtain ⟨v, st₀, t, T', L, h0, X', hL, e1, e2, ⟨⟨r, n', G', M', hv, hq, hrv, hh⟩, hz, hk⟩, stp⟩ := hr T hT Xs
  cases hv
  rw [h0] at hz hk
  have c4' : HP E n' G' M' T'.heap := by rw [e1]; exact hh
  have c3' : va_S (eA E) s.heap T'.heap (locs ++ L) := ⟨Nat.le_trans c3.1 (by rw [e1]; exact hz), fun q h1 h2 => by rw [e1, hk q (Nat.lt_of_lt_of_le h1 c3.1) h2]; exact c3.2.1 q h1 h2, fun q hq => by
      rcases List.mem_append.mp hq with h | h
      · exact c3.2.2 q h
      · exact hL q h⟩
  obtain ⟨t2, a1, b1⟩ := h r n' G' M' hrv hq p l e s m args below meth c T'.heap (locs ++ L) lsA c1 c2 c3' c4' c5 c6 T' rfl X'
  refine ⟨t2, stp t2 ?_, b1⟩
  have ee : List.map (cvv E) (r.toList ++ st) = (r.map (cvv E)).toList ++ st.map (cvv E) := by
    rw [List.map_append]
    cases r <;> rfl
  rw [ee] at a1
  exact a1
def scat (st : List AV) : Nat := (st.map (fun v => cond (isL (some v)) 2 1)).sum
theorem scat_ok (E : EV) : ∀ st : List AV, ((st.map (cvv E)).map fun v => v.category).sum = scat st
  | [] => rfl
  | v :: st => by
    have ih := scat_ok E st
    simp only [List.map_cons, List.sum_cons, ih, scat]
    congr 1
    cases hb : isL (some v) with
    | true => rcases lv_cat (cvv E v) with q | q
              · exfalso
                match v, hb with
                | .inr (.inl _), _ => simp [cvv, Value.category] at q
                | .inl _, h => cases h
                | .inr (.inr _), h => cases h
              · exact q
    | false => exact cvv_c1 hb
theorem room_ok {k : KK} {d mc ms : Nat} {Y : MD} (hY : mL Y ≤ 41) (hd : d < k.1) : (rmD d mc ms).frames + 1 ≤ (rmD k.1 k.2.1 k.2.2.1).frames ∧ 8 + (mL Y + 11) + (rmD d mc ms).locals ≤ (rmD k.1 k.2.1 k.2.2.1).locals := by
  show d + 1 ≤ k.1 ∧ 8 + (mL Y + 11) + 60 * d ≤ 60 * k.1
  omega
theorem w_callV {stk : List AV} {i a d mc ms : Nat} {Y : MD} {As : List AV} {Q' : PP} (hd : decode (mB X) pc = .ok (.invokevirtual i, 3)) (hY : MOK Y) (hl : LVk (mO X) i Y) (hc : Ct E Y d mc ms (vr a :: As) n G M Q') (hs : stk = As.reverse ++ vr a :: st) (hg : (G a).1 = mO Y + 4) (ha : a < n) (ho : mO Y < 11) (hn : As.length = mN Y) (hk : d < k.1 ∧ k.2.2.2.1 + mc ≤ k.2.1 ∧ k.2.2.2.2 + ms ≤ k.2.2.1) (hst : scat st ≤ 8)
    (h : ∀ (r : Option AV) (n' : Nat) (G' : GG) (M' : MM), RV r → Q' r n' G' M' → Wp E X (k.1, k.2.1, k.2.2.1, k.2.2.2.1 + mc, k.2.2.2.2 + ms) (pc + 3) ls (r.toList ++ st) n' G' M' Q) : Wp E X k pc ls stk n G M Q := by
  intro p l e s m args below meth c H locs lsA c1 c2 c3 c4 c5 c6
  subst hs
  obtain ⟨y1, y2, y3, y4, y5, y6, y7⟩ := hY
  have hts := c1.2.2.2.2.2.1
  obtain ⟨x1, -, -, -⟩ := cls_ok _ ho
  have he : (wsL E n G M)[a]? = some (eB E + a, .inr (mO Y, (G a).2.mapIdx (fun j q => fv E M a j q))) := by rw [wsL_at ha, cel_obj (ci := mO Y) (fs := (G a).2) (by rw [← hg])]
  refine w_back (a := (Value.ref (eB E + a) :: As.map (cvv E)).toArray) (hr := ?_) c1 c2 c3 c5 c6 h
  have hGI : GoodIn wG (wsV (RR (mO X)) i (mY Y).cls (mY Y) (wsY Y)) := by
    intro w hw
    unfold wsV at hw
    have hin : w ∈ wG ∨ w ∈ wsY Y := by
      rcases List.mem_append.mp hw with h1 | h1
      · left
        simp only [List.mem_cons, List.not_mem_nil, or_false] at h1
        rcases h1 with rfl | rfl | rfl | rfl
        · exact hl.1
        · exact hl.2.1
        · exact hl.2.2
        · exact y4
      · exact Or.inr h1
    rcases hin with h1 | h1
    · exact ⟨h1, good_of_word (List.mem_filter.mp h1).2⟩
    · exact wsY_good (X := X) y3 w h1
  have hrun := va_runV (As := As.map (cvv E)) (rest := st.map (cvv E)) (b := eB E + a) (C := (mY Y).cls) (cells := k.2.2.2.1) (slots := k.2.2.2.2) (locs := locs) (below := below) (meth := meth) (g := F0 m pc lsA ((As.reverse ++ vr a :: st).map (cvv E))) (e := e) ⟨c1.1, c1.2.1, c1.2.2.2.1, c1.2.2.2.2.1, hts⟩ (hc l) (cwV (mN Y) hts hGI rfl rfl rfl ⟨rfl, y5.1, y5.2, y6⟩ (room_ok y7 hk.1))
    ⟨PcE_blind E _ n G M, by rw [y2]; exact va_recv c2.1.1 c4.2.1 x1 he, fun U hU hW => ⟨rfl, c2.to c3 hU hW, by rw [hU]; exact c4⟩⟩ rfl (by rw [List.length_map]; exact hn) c5.1 (by show (As.reverse ++ vr a :: st).map (cvv E) = _; simp [cvv]) (by show 2 * 0 + _ ≤ 8; rw [scat_ok]; omega) hd hk.2
  exact hrun
theorem w_callS {stk : List AV} {i d mc ms : Nat} {Y : MD} {As : List AV} {Q' : PP} (hd : decode (mB X) pc = .ok (.invokestatic i, 3)) (hY : MOK Y) (hl : LSk (mO X) i Y ∨ LNk (mO X) i Y) (hc : Ct E Y d mc ms As n G M Q') (hs : stk = As.reverse ++ st) (hn : As.length = mN Y) (hk : d < k.1 ∧ k.2.2.2.1 + mc ≤ k.2.1 ∧ k.2.2.2.2 + ms ≤ k.2.2.1) (hst : scat st ≤ 8)
    (h : ∀ (r : Option AV) (n' : Nat) (G' : GG) (M' : MM), RV r → Q' r n' G' M' → Wp E X (k.1, k.2.1, k.2.2.1, k.2.2.2.1 + mc, k.2.2.2.2 + ms) (pc + 3) ls (r.toList ++ st) n' G' M' Q) : Wp E X k pc ls stk n G M Q := by
  intro p l e s m args below meth c H locs lsA c1 c2 c3 c4 c5 c6
  subst hs
  obtain ⟨y1, y2, y3, y4, y5, y6, y7⟩ := hY
  have hts := c1.2.2.2.2.2.1
  refine w_back (a := (As.map (cvv E)).toArray) (hr := ?_) c1 c2 c3 c5 c6 h
  rcases hl with hl | hl
  · have hGI : GoodIn wG (va_wsS (RR (mO X)) i (mY Y) (wsY Y)) := by
      intro w hw
      unfold va_wsS at hw
      have hin : w ∈ wG ∨ w ∈ wsY Y := by
        rcases List.mem_append.mp hw with h1 | h1
        · left
          simp only [List.mem_cons, List.not_mem_nil, or_false] at h1
          rcases h1 with rfl | rfl | rfl
          · exact hl.1
          · exact hl.2
          · exact y4
        · exact Or.inr h1
      rcases hin with h1 | h1
      · exact ⟨h1, good_of_word (List.mem_filter.mp h1).2⟩
      · exact wsY_good (X := X) y3 w h1
    exact va_runS (As := As.map (cvv E)) (rest := st.map (cvv E)) (cells := k.2.2.2.1) (slots := k.2.2.2.2) (locs := locs) (below := below) (meth := meth) (g := F0 m pc lsA ((As.reverse ++ st).map (cvv E))) (e := e) ⟨c1.1, c1.2.1, c1.2.2.2.1, c1.2.2.2.2.1, hts⟩ (hc l) (va_cwS (mN Y) hts hGI rfl rfl rfl ⟨y5.1, y5.2, y6⟩ (room_ok y7 hk.1))
      ⟨PcE_blind E _ n G M, fun U hU hW => ⟨rfl, c2.to c3 hU hW, by rw [hU]; exact c4⟩⟩ rfl (by rw [List.length_map]; exact hn) c5.1 (by show (As.reverse ++ st).map (cvv E) = _; simp) (by show 2 * 0 + _ ≤ 8; rw [scat_ok]; omega) hd hk.2
  · exact va_runSN (As := As.map (cvv E)) (rest := st.map (cvv E)) (cells := k.2.2.2.1) (slots := k.2.2.2.2) (locs := locs) (below := below) (meth := meth) (g := F0 m pc lsA ((As.reverse ++ st).map (cvv E))) (e := e) ⟨c1.1, c1.2.1, c1.2.2.2.1, c1.2.2.2.2.1, hts⟩ (hc l) ⟨va_cnB (mN Y) hts (wsY_good (X := X) y3) rfl rfl rfl (c2.1.2.1 _ hl.1) (hts _ y4) ⟨y5.1, y5.2, y6⟩ (room_ok y7 hk.1), hts _ hl.2, trivial⟩
      ⟨PcE_blind E _ n G M, fun U hU hW => ⟨rfl, c2.to c3 hU hW, by rw [hU]; exact c4⟩⟩ rfl (by rw [List.length_map]; exact hn) c5.1 (by show (As.reverse ++ st).map (cvv E) = _; simp) (by show 2 * 0 + _ ≤ 8; rw [scat_ok]; omega) hd hk.2
theorem w_callI {stk : List AV} {i a d mc ms : Nat} {Y : MD} {As : List AV} {Q' : PP} (hd : decode (mB X) pc = .ok (.invokespecial i, 3)) (hY : MOK Y) (hl : LIk (mO X) i Y ∨ LJk (mO X) i Y) (hc : Ct E Y d mc ms (vr a :: As) n G M Q') (hs : stk = As.reverse ++ vr a :: st) (hn : As.length = mN Y) (hk : d < k.1 ∧ k.2.2.2.1 + mc ≤ k.2.1 ∧ k.2.2.2.2 + ms ≤ k.2.2.1) (hst : scat st ≤ 8)
    (h : ∀ (r : Option AV) (n' : Nat) (G' : GG) (M' : MM), RV r → Q' r n' G' M' → Wp E X (k.1, k.2.1, k.2.2.1, k.2.2.2.1 + mc, k.2.2.2.2 + ms) (pc + 3) ls (r.toList ++ st) n' G' M' Q) : Wp E X k pc ls stk n G M Q := by
  intro p l e s m args below meth c H locs lsA c1 c2 c3 c4 c5 c6
  subst hs
  obtain ⟨y1, y2, y3, y4, y5, y6, y7⟩ := hY
  have hts := c1.2.2.2.2.2.1
  refine w_back (a := (Value.ref (eB E + a) :: As.map (cvv E)).toArray) (hr := ?_) c1 c2 c3 c5 c6 h
  have hstk : (As.reverse ++ vr a :: st).map (cvv E) = (As.map (cvv E)).reverse ++ Value.ref (eB E + a) :: st.map (cvv E) := by simp [cvv]
  have hM := hc l
  rcases hl with hl | hl
  · have hw : wsY Y = Cond.code (mY Y) (mB Y) (mL Y) none :: wG := by rw [← hl.2.2.2]; rfl
    exact va_runI (As := As.map (cvv E)) (rest := st.map (cvv E)) (b := eB E + a) (cells := k.2.2.2.1) (slots := k.2.2.2.2) (locs := locs) (below := below) (meth := meth) (g := F0 m pc lsA ((As.reverse ++ vr a :: st).map (cvv E))) (e := e) ⟨c1.1, c1.2.1, c1.2.2.2.1, c1.2.2.2.2.1, hts⟩ hM (cwI (mN Y) hts (wsY_good (X := X) y3) hw rfl rfl (hts _ y4) (hts _ hl.1) (hts _ hl.2.1) hl.2.2.1 ⟨y5.1, y5.2, y6⟩ (room_ok y7 hk.1))
      ⟨PcE_blind E _ n G M, fun U hU hW => ⟨rfl, c2.to c3 hU hW, by rw [hU]; exact c4⟩⟩ rfl (by rw [List.length_map]; exact hn) c5.1 hstk (by show 2 * 0 + _ ≤ 8; rw [scat_ok]; omega) hd hk.2
  · have hw : wsY Y = Cond.code (mY Y) (mB Y) (mL Y) none :: wG := by rw [← hl.2.2.2]; rfl
    exact va_runIN (As := As.map (cvv E)) (rest := st.map (cvv E)) (b := eB E + a) (cells := k.2.2.2.1) (slots := k.2.2.2.2) (locs := locs) (below := below) (meth := meth) (g := F0 m pc lsA ((As.reverse ++ vr a :: st).map (cvv E))) (e := e) ⟨c1.1, c1.2.1, c1.2.2.2.1, c1.2.2.2.2.1, hts⟩ hM ⟨va_cnB (mN Y) hts (wsY_good (X := X) y3) hw rfl rfl (c2.1.2.1 _ hl.1) (hts _ y4) ⟨y5.1, y5.2, y6⟩ (room_ok y7 hk.1), hl.2.2.1, hts _ hl.2.1⟩
      ⟨PcE_blind E _ n G M, fun U hU hW => ⟨rfl, c2.to c3 hU hW, by rw [hU]; exact c4⟩⟩ rfl (by rw [List.length_map]; exact hn) c5.1 hstk (by show 2 * 0 + _ ≤ 8; rw [scat_ok]; omega) hd hk.2
/-- Object's own constructor -/
theorem w_objInit {i a : Nat} (hd : decode (mB X) pc = .ok (.invokespecial i, 3)) (h1 : Cond.methodLink (RR (mO X)) i objectInit ∈ wG) (h2 : Cond.instanceMethod objectInit ∈ wG) (h3 : Cond.code objectInit ⟨#[0xb1]⟩ 1 none ∈ wG) (hk : 1 ≤ k.1) (hst : scat st ≤ 8) (h : Wp E X k (pc + 3) ls st n G M Q) : Wp E X k pc ls (vr a :: st) n G M Q := by
  intro p l e s m args below meth c H locs lsA c1 c2 c3 c4 c5 c6
  have hts := c1.2.2.2.2.2.1
  refine W.objInit c1.1 c1.2.1 c1.2.2.2.2.1 (hts _ h1) (hts _ h2) (hts _ h3) rfl (by rw [c1.2.2.2.1]; exact c5.1) rfl hd hk (by show 2 * 0 + ((st.map (cvv E)).map fun v => v.category).sum + 12 ≤ 60 * k.1; rw [scat_ok]; omega) ?_
  exact h p l e s m args below meth c H locs lsA c1 c2 c3 c4 c5 c6
end Rets
