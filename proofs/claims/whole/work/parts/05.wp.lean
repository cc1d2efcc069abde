/-! ===== CONTRACTS (Ct) AND WALKS (Wp) OVER THE ABSTRACT MACHINE ===== -/
abbrev MD : Type := Nat × MethodName × ByteArray × Nat × Option FieldType × Nat
abbrev mO (X : MD) : Nat := X.1
abbrev mY (X : MD) : MethodName := X.2.1
abbrev mB (X : MD) : ByteArray := X.2.2.1
abbrev mL (X : MD) : Nat := X.2.2.2.1
abbrev mR (X : MD) : Option FieldType := X.2.2.2.2.1
abbrev mN (X : MD) : Nat := X.2.2.2.2.2
def RR : Nat → String
  | 0 => RX0 | 1 => RX1 | 2 => RX2 | 3 => RX3 | 4 => RX4 | 5 => RX5 | 6 => RX6 | 7 => RX7 | 8 => RX8 | 9 => RX9 | 10 => RX10
  | 11 => "SignedCloudsLaw" | 12 => "java/lang/Math" | _ => "java/lang/Integer"
def wG : List Cond := lw_tbl.filter goodWord
theorem wG_in {w : Cond} (i : Nat) (h : lw_tbl[i]? = some w) (hg : goodWord w = true) : w ∈ wG := List.mem_filter.mpr ⟨List.mem_of_getElem? h, hg⟩
theorem wG_tbl {w : Cond} (h : w ∈ wG) : w ∈ lw_tbl := (List.mem_filter.mp h).1
def wsY (X : MD) : List Cond := Cond.code (mY X) (mB X) (mL X) (mR X) :: wG
theorem wsY_good {X Y : MD} (h : Cond.code (mY Y) (mB Y) (mL Y) (mR Y) ∈ wG) : GoodIn wG (wsY Y) := by
  intro w hw
  rcases List.mem_cons.mp hw with rfl | hw
  · exact ⟨h, good_of_word (List.mem_filter.mp h).2⟩
  · exact ⟨hw, good_of_word (List.mem_filter.mp hw).2⟩
def rmD (d mc ms : Nat) : Room := { frames := d, cells := mc, slots := ms, locals := 60 * d }
def nestM : List (String × Nat × MethodName) := [(RX9, 18, yX7_init), (RX4, 11, yX6_init), (RX9, 34, yX6_init), (RX0, 19, yX6_init), (RX3, 11, yX6_init), (RX8, 17, yX6_init), (RX9, 70, yX2_init), (RX4, 75, yX9_within), (RX6, 87, yX9_ring), (RX6, 57, yX9_turned), (RX8, 70, yX9_turned)]
def va_AOI (U : State) : Prop := (Cond.arrayOver (.array .int)).before #[] U = true
def zC : Nat → String | 0 => RX9 | _ => RX1
def zN : Nat → String | 0 => "NEAREST" | 1 => "SIZES" | _ => "MARKS"
def zV : Nat → Nat → Int | 0, j => ([-1, 0, 1, 1, 0, 4] : List Int).getD j 0 | 1, j => ([10, 11, 12, 0, 13, 14] : List Int).getD j 0 | _, j => ([20, 21, 24, 22, 23, 0] : List Int).getD j 0
def K0 (E : EV) (s : State) : Prop := va_K (eD E) vwCl (tyL E) s ∧ (∀ q ∈ nestM, va_Nw (.methodLinkNest q.1 q.2.1 q.2.2 RX9) s) ∧ va_Nw (.fieldLinkNest RX1 45 RX9 "NEAREST" "[I" RX9) s ∧ va_AO RX6 s ∧ va_AOI s
theorem va_AOI.moved {u U : State} (hvm : u.vm.Alike U.vm) (h : va_AOI u) : va_AOI U := (Cond.arrayOver_setVmC (args := #[]) hvm (.array .int)).trans h
def Z0 (E : EV) (s : State) (H : Heap) : Prop := ∀ z, z < 3 → va_Z (zC z) (zN z) "[I" (.ref (eZ E z)) (eA E) s H ∧ va_T .int (eZ E z) 6 (fun j => .int (i32 (zV z j))) (eA E) s H
def X0 (E : EV) (s : State) (H : Heap) : Prop := va_X (eZ E 3) (eL E) (eX E) s H ∧ ¬ eA E (eZ E 3)
def K1 (E : EV) (s : State) : Prop := K0 E s ∧ Z0 E s s.heap ∧ X0 E s s.heap
theorem K1.to {E : EV} {s U : State} {H : Heap} {locs : List Loc} (h : K1 E s) (hS : va_S (eA E) s.heap H locs) (hU : U.heap = H) (hW : s.WarmedH U.vm) : K1 E U := by
  obtain ⟨⟨h1, h2, h3, h5, h6⟩, h4, h7, h8⟩ := h
  have h9 : eZ E 3 < s.heap.size := by
    obtain ⟨cell, q, -⟩ := h7
    exact (Array.getElem?_eq_some_iff.mp q).1
  refine ⟨⟨va_K.moved hW.alike h1, fun q hq => va_Nw.warmM hW (h2 q hq), va_Nw.warmF hW h3, va_AO.moved hW.alike h5, va_AOI.moved hW.alike h6⟩, fun z hz => ?_, (va_X.moved hW.alike h7).kept (by rw [hU]; exact hS.2.1 _ h9 h8), h8⟩
  obtain ⟨a, b⟩ := h4 z hz
  have hk : ∀ a : Nat, a < s.heap.size → ¬ eA E a → U.heap[a]? = s.heap[a]? := fun a q1 q2 => by rw [hU]; exact hS.2.1 a q1 q2
  exact ⟨(va_Z.moved hW.alike a).kept hk, (va_T.moved hW.alike b).kept hk⟩
theorem K1.call {E : EV} {U : State} {g : JFrame} {mk : MethodId} {a : Array Value} (h : K1 E U) : K1 E (U.calling g mk a) := by
  obtain ⟨⟨h1, h2, h3, h5, h6⟩, h4, h7, h8⟩ := h
  have hv : U.vm.Alike (U.calling g mk a).vm := Vm.Alike.refl U.vm
  refine ⟨⟨va_K.moved hv h1, fun q hq => va_Nw.same rfl rfl (h2 q hq), va_Nw.same rfl rfl h3, va_AO.moved hv h5, va_AOI.moved hv h6⟩, fun z hz => ?_, va_X.moved hv h7, h8⟩
  obtain ⟨x, y⟩ := h4 z hz
  exact ⟨va_Z.moved hv x, va_T.moved hv y⟩
abbrev PP : Type := Option AV → Nat → GG → MM → Prop
def PcE (E : EV) (av : List AV) (n : Nat) (G : GG) (M : MM) : Array Value → State → Prop := va_Pc (av.map (cvv E)) (fun U => K1 E U ∧ HP E n G M U.heap)
/-- a number that is answered is such as an int, a long, can be -/
def RV (r : Option AV) : Prop := (∀ z : Int, r = some (vi z) → R32 z) ∧ ∀ z : Int, r = some (vl z) → R64 z
def QcE (E : EV) (Q : PP) : Array Value → State → Outcome → State → Prop := fun _ st oc t => (∃ (r : Option AV) (n : Nat) (G : GG) (M : MM), oc = .returned (r.map (cvv E)) ∧ Q r n G M ∧ RV r ∧ HP E n G M t.heap) ∧ va_F (eA E) st t
theorem PcE_blind (E : EV) (av : List AV) (n : Nat) (G : GG) (M : MM) : FrameBlind (PcE E av n G M) := by
  intro a U g mk h
  obtain ⟨h0, h1, h2⟩ := h
  exact ⟨h0, h1.call, h2⟩
/-- a method's contract: with these arguments, in this memory, it returns, and what it returns and leaves meets Q; d frames below it at most, mc new cells of ms slots -/
def Ct (E : EV) (Y : MD) (d mc ms : Nat) (av : List AV) (n : Nat) (G : GG) (M : MM) (Q : PP) : Prop := ∀ l : Launch, Met l (mY Y) (wsY Y) (rmD d mc ms) (PcE E av n G M) (QcE E Q) mc ms (eA E)
def CX (X : MD) (p : Program) (s : State) (m : MethodId) (args : Array Value) (meth : Method) (c : Code) : Prop :=
  p.tables.exec = Jvm.exec ∧ c.code = mB X ∧ meth.sig.returnType = mR X ∧ c.maxLocals = mL X ∧ s.vm.findClass (RR (mO X)) = some m.cls ∧ (∀ w ∈ wG, w.before args s = true) ∧ meth.locks = false ∧ meth.name = (mY X).name
/-- frames, cells and slots: what the method may take, what it has taken -/
abbrev KK : Type := Nat × Nat × Nat × Nat × Nat
def Wp (E : EV) (X : MD) (k : KK) (pc : Nat) (ls : LV) (st : List AV) (n : Nat) (G : GG) (M : MM) (Q : PP) : Prop :=
  ∀ (p : Program) (l : Launch) (e : Env) (s : State) (m : MethodId) (args : Array Value) (below : List Frame) (meth : Method) (c : Code) (H : Heap) (locs : List Loc) (lsA : Array Slot),
    CX X p s m args meth c → K1 E s → va_S (eA E) s.heap H locs → HP E n G M H → LH E lsA (mL X) ls → eB E ≤ s.heap.size →
    W p l e (rmD k.1 k.2.1 k.2.2.1) s m args below meth c H locs k.2.2.2.1 k.2.2.2.2 (MQ below (QcE E Q) args s k.2.1 k.2.2.1 (eA E)) (F0 m pc lsA (st.map (cvv E)))
theorem Ct.of {E : EV} {X : MD} {d mc ms : Nat} {av : List AV} {n : Nat} {G : GG} {M : MM} {Q : PP} (ls : LV) (hy : plainName (mY X).cls = true) (hc : (mY X).cls = RR (mO X)) (hls : entL av ++ List.replicate (mL X - (entL av).length) none = ls) (hle : (entL av).length ≤ mL X)
    (h : Wp E X (d, mc, ms, 0, 0) 0 ls [] n G M Q) : Ct E X d mc ms av n G M Q := by
  intro l
  refine Met.ofW (cc := mB X) (maxL := mL X) (ret := mR X) hy rfl ?_
  intro p e s m args below meth c s₁ B hml hv
  obtain ⟨rfl, hK, hP⟩ := hv
  have hx := B.exec
  have hb := B.bytes
  have hr := B.returns
  have hts := atoms_spec (ws := wsY X) B.pre
  have hown : s.vm.findClass (RR (mO X)) = some m.cls := by rw [← hc]; exact findClass_of_methodNamed B.named
  have hlocks := B.notSynchronized
  have hin : meth.name = (mY X).name := (name_of_methodNamed B.named B.method).1
  have hl := lv_entry (av.map (cvv E)) (n := mL X) (by rw [entL_len]; exact hle)
  rw [lg_entry_eq]
  generalize (lg_sl (av.map (cvv E)) ++ List.replicate (mL X - (lg_sl (av.map (cvv E))).length) Slot.unset).toArray = lsA at hl ⊢
  have hL : LH E lsA (mL X) ls := by
    rw [← hls]
    refine LH.pad ?_ _
    exact LH.of hl (fun i v hv => by have := entL_args E av 0 i v hv; rwa [Nat.zero_add] at this)
  exact h p l e s m _ below meth c s.heap [] lsA ⟨hx, hb, hr, hml, hown, fun w hw => hts w (List.mem_cons_of_mem _ hw), hlocks, hin⟩ hK va_S.rf hP hL (Nat.le_trans (Nat.le_add_right _ _) hP.1.1)
theorem Ct.mono {E : EV} {X : MD} {d mc ms : Nat} {av : List AV} {n : Nat} {G : GG} {M : MM} {Q Q' : PP} (h : Ct E X d mc ms av n G M Q) (hq : ∀ r n G M, Q r n G M → Q' r n G M) : Ct E X d mc ms av n G M Q' := by
  intro l p e ha hc hk s m args below hf hs hP ht
  obtain ⟨t, o, h1, h2, h3, ⟨⟨⟨r, n', G', M', e1, e2, e3⟩, hF⟩, hL⟩⟩ := h l p e ha hc hk s m args below hf hs hP ht
  exact ⟨t, o, h1, h2, h3, ⟨⟨r, n', G', M', e1, hq _ _ _ _ e2, e3⟩, hF⟩, hL⟩
theorem Wp.mono {E : EV} {X : MD} {k : KK} {pc : Nat} {ls : LV} {st : List AV} {n : Nat} {G : GG} {M : MM} {Q Q' : PP} (h : Wp E X k pc ls st n G M Q) (hq : ∀ r n G M, Q r n G M → Q' r n G M) : Wp E X k pc ls st n G M Q' := by
  intro p l e s m args below meth c H locs lsA c1 c2 c3 c4 c5 c6 T hT X
  obtain ⟨t, a1, o, b1, b2, ⟨⟨r, n', G', M', e1, e2, e3⟩, hF⟩, hL⟩ := h p l e s m args below meth c H locs lsA c1 c2 c3 c4 c5 c6 T hT X
  exact ⟨t, a1, o, b1, b2, ⟨⟨r, n', G', M', e1, hq _ _ _ _ e2, e3⟩, hF⟩, hL⟩
/-- the locals said otherwise, or fewer of them -/
theorem Wp.loc {E : EV} {X : MD} {k : KK} {pc : Nat} {ls ls' : LV} {st : List AV} {n : Nat} {G : GG} {M : MM} {Q : PP} (h : Wp E X k pc ls' st n G M Q) (hs : ∀ (i : Nat) (v : AV), ls'[i]? = some (some v) → ls[i]? = some (some v)) : Wp E X k pc ls st n G M Q :=
  fun p l e s m args below meth c H locs lsA c1 c2 c3 c4 c5 c6 => h p l e s m args below meth c H locs lsA c1 c2 c3 c4 (c5.drop hs) c6
theorem Wp.mem {E : EV} {X : MD} {k : KK} {pc : Nat} {ls : LV} {st : List AV} {n : Nat} {G G' : GG} {M M' : MM} {Q : PP} (h : Wp E X k pc ls st n G' M' Q) (hc : ∀ i, i < n → cel E G' M' i = cel E G M i) (hR : RG n G M → RG n G' M') : Wp E X k pc ls st n G M Q :=
  fun p l e s m args below meth c H locs lsA c1 c2 c3 c4 c5 c6 => h p l e s m args below meth c H locs lsA c1 c2 c3 (c4.congr hc (hR c4.2.2)) c5 c6
