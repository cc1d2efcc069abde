/-! ===== THE ABSTRACT MACHINE: whole numbers for ints and longs, cells by their number in the order of making ===== -/
/-- a value: an int, a long, a cell of ours or null, a static array -/
abbrev AV : Type := Int ⊕ (Int ⊕ (Option Nat ⊕ Nat))
abbrev vi (z : Int) : AV := Sum.inl z
abbrev vl (z : Int) : AV := Sum.inr (Sum.inl z)
abbrev vr (a : Nat) : AV := Sum.inr (Sum.inr (Sum.inl (some a)))
abbrev vnul : AV := Sum.inr (Sum.inr (Sum.inl none))
abbrev vz (a : Nat) : AV := Sum.inr (Sum.inr (Sum.inr a))
/-- what a run of the law fixes: slots of classes, array classes, the first new address, the static arrays -/
abbrev EV : Type := va_G × (Nat → ClassId) × Nat × (Nat → Nat) × Nat × (Nat → Int32)
abbrev eD (E : EV) : va_G := E.1
abbrev eC (E : EV) : Nat → ClassId := E.2.1
abbrev eB (E : EV) : Nat := E.2.2.1
abbrev eZ (E : EV) : Nat → Nat := E.2.2.2.1
/-- the script: its length, its numbers; it lies at eZ E 3 -/
abbrev eL (E : EV) : Nat := E.2.2.2.2.1
abbrev eX (E : EV) : Nat → Int32 := E.2.2.2.2.2
abbrev eA (E : EV) : Nat → Prop := fun q => eB E ≤ q
def i32 (z : Int) : Int32 := Int32.ofInt z
def i64 (z : Int) : Int64 := Int64.ofInt z
abbrev R32 (z : Int) : Prop := -2147483648 ≤ z ∧ z < 2147483648
abbrev R64 (z : Int) : Prop := -9223372036854775808 ≤ z ∧ z < 9223372036854775808
def cvv (E : EV) : AV → Value
  | .inl z => .int (i32 z)
  | .inr (.inl z) => .long (i64 z)
  | .inr (.inr (.inl (some a))) => .ref (eB E + a)
  | .inr (.inr (.inl none)) => .null
  | .inr (.inr (.inr a)) => .ref (eZ E a)
/-- the graph: of each cell its kind (0 ints, 1 longs, 2 rows of Sky, 3 rows of int rows, 4 + class) and its fields (-1 an int, -2 a long, -3 null, else the cell); of a row of numbers its length -/
abbrev GG : Type := Nat → Nat × List Int
abbrev MM : Type := Nat → Int → Int
def fv (E : EV) (M : MM) (i k : Nat) (q : Int) : Value := if q = -1 then .int (i32 (M i (k : Int))) else if q = -2 then .long (i64 (M i (k : Int))) else if q = -3 then .null else .ref (eB E + q.toNat)
def fq (E : EV) (q : Int) : Option Nat := if q < 0 then none else some (eB E + q.toNat)
def cel (E : EV) (G : GG) (M : MM) (i : Nat) : va_E := match (G i).1 with
  | 0 => .inl (eC E 0, ((G i).2.headD 0).toNat, .inl (fun j => i32 (M i (j : Int))))
  | 1 => .inl (eC E 1, ((G i).2.headD 0).toNat, .inr (.inl (fun j => i64 (M i (j : Int)))))
  | 2 => .inl (eC E 2, (G i).2.length, .inr (.inr (.inr (.inr (fun j => fq E ((G i).2.getD j (-3)))))))
  | 3 => .inl (eC E 3, (G i).2.length, .inr (.inr (.inr (.inr (fun j => fq E ((G i).2.getD j (-3)))))))
  | c + 4 => .inr (c, (G i).2.mapIdx (fun k q => fv E M i k q))
def wsL (E : EV) (n : Nat) (G : GG) (M : MM) : va_W := (List.range n).map (fun i => (eB E + i, cel E G M i))
theorem wsL_at {E : EV} {n : Nat} {G : GG} {M : MM} {i : Nat} (h : i < n) : (wsL E n G M)[i]? = some (eB E + i, cel E G M i) := by
  simp [wsL, h]
theorem wsL_of {E : EV} {n : Nat} {G : GG} {M : MM} {i : Nat} {q : Nat × va_E} (h : (wsL E n G M)[i]? = some q) : i < n ∧ q = (eB E + i, cel E G M i) := by
  by_cases hi : i < n
  · rw [wsL_at hi] at h
    exact ⟨hi, (Option.some.inj h).symm⟩
  · exfalso
    have : (wsL E n G M)[i]? = none := by simp [wsL]; omega
    rw [this] at h
    cases h
theorem wsL_D (E : EV) (n : Nat) (G : GG) (M : MM) : va_D (eA E) (wsL E n G M) := by
  refine ⟨fun i j p q hi hj e => ?_, fun k q hk => ?_⟩
  · obtain ⟨-, rfl⟩ := wsL_of hi
    obtain ⟨-, rfl⟩ := wsL_of hj
    have : eB E + i = eB E + j := e
    omega
  · obtain ⟨-, rfl⟩ := wsL_of hk
    exact Nat.le_add_right _ _
def tyL (E : EV) : List (ClassId × FieldType) := [(eC E 0, .int), (eC E 1, .long), (eC E 2, .object RX6), (eC E 3, .array .int)]
/-- the numbers are such as an int, a long, can be -/
def RG (n : Nat) (G : GG) (M : MM) : Prop := ∀ i, i < n → ∀ j : Int, R64 (M i j) ∧ ((G i).1 = 1 ∨ (G i).1 = 6 ∨ R32 (M i j))
/-- how many cells there are once the law has made its two objects -/
def N0 : Nat := 250
/-- the size: exact while cells are made -/
def HZ (E : EV) (n : Nat) (H : Heap) : Prop := eB E + n ≤ H.size ∧ (n < N0 → H.size = eB E + n)
def HP (E : EV) (n : Nat) (G : GG) (M : MM) (H : Heap) : Prop := HZ E n H ∧ va_P (eD E) vwCl (wsL E n G M) H ∧ RG n G M
theorem HP.at {E : EV} {n : Nat} {G : GG} {M : MM} {H : Heap} (h : HP E n G M H) {i : Nat} (hi : i < n) : va_at (eD E) vwCl (eB E + i, cel E G M i) H := h.2.1 i _ (wsL_at hi)
theorem HP.mk {E : EV} {n : Nat} {G : GG} {M : MM} {H : Heap} (hs : HZ E n H) (hR : RG n G M) (h : ∀ i, i < n → va_at (eD E) vwCl (eB E + i, cel E G M i) H) : HP E n G M H := by
  refine ⟨hs, fun k q hk => ?_, hR⟩
  obtain ⟨hi, rfl⟩ := wsL_of hk
  exact h k hi
/-- one cell changes -/
theorem HP.put {E : EV} {n : Nat} {G G' : GG} {M M' : MM} {H H1 : Heap} (h : HP E n G M H) {a : Nat} (ha : a < n) (hz : H1.size = H.size) (hat : va_at (eD E) vwCl (eB E + a, cel E G' M' a) H1) (oq : ∀ q : Nat, q ≠ eB E + a → H1[q]? = H[q]?) (hn : ∀ i, i < n → i ≠ a → cel E G' M' i = cel E G M i) (hR : RG n G' M') : HP E n G' M' H1 := by
  refine HP.mk (by unfold HZ; rw [hz]; exact h.1) hR (fun i hi => ?_)
  by_cases e : i = a
  · subst e; exact hat
  · rw [hn i hi e]
    exact (h.at hi).kept (oq _ (by show eB E + i ≠ eB E + a; omega))
/-- a cell comes -/
theorem HP.push {E : EV} {n : Nat} {G G' : GG} {M M' : MM} {H H1 : Heap} (h : HP E n G M H) (hlt : n < N0) (hz : H1.size = H.size + 1) (hat : va_at (eD E) vwCl (eB E + n, cel E G' M' n) H1) (oq : ∀ q : Nat, q < H.size → H1[q]? = H[q]?) (hn : ∀ i, i < n → cel E G' M' i = cel E G M i) (hR : RG (n + 1) G' M') : HP E (n + 1) G' M' H1 := by
  have h9 := h.1.2 hlt
  refine HP.mk ⟨by omega, fun _ => by omega⟩ hR (fun i hi => ?_)
  by_cases e : i = n
  · subst e; exact hat
  · have hi' : i < n := by omega
    rw [hn i hi']
    exact (h.at hi').kept (oq _ (h.at hi').lt)
theorem HP.congr {E : EV} {n : Nat} {G G' : GG} {M M' : MM} {H : Heap} (h : HP E n G M H) (hc : ∀ i, i < n → cel E G' M' i = cel E G M i) (hR : RG n G' M') : HP E n G' M' H :=
  HP.mk h.1 hR (fun i hi => by rw [hc i hi]; exact h.at hi)
/-! locals: by place; a long has none behind it -/
abbrev LV : Type := List (Option AV)
def isL : Option AV → Bool
  | some (.inr (.inl _)) => true
  | _ => false
def LH (E : EV) (lsA : Array Slot) (nL : Nat) (ls : LV) : Prop := lsA.size = nL ∧ lv_wf lsA ∧ ∀ (i : Nat) (v : AV), ls[i]? = some (some v) → lsA[i]? = some (.val (cvv E v))
theorem LH.get {E : EV} {lsA : Array Slot} {nL : Nat} {ls : LV} (h : LH E lsA nL ls) {i : Nat} {v : AV} (hi : ls[i]? = some (some v)) : lsA[i]? = some (.val (cvv E v)) := h.2.2 i v hi
/-- a value of one slot is stored: a long ahead of it is gone -/
def ls1 (ls : LV) (i : Nat) (v : AV) : LV := match i with
  | 0 => ls.set 0 (some v)
  | k + 1 => (cond (isL ((ls[k]?).join)) (ls.set k none) ls).set (k + 1) (some v)
def ls2 (ls : LV) (i : Nat) (v : AV) : LV := match i with
  | 0 => (ls.set 0 (some v)).set 1 none
  | k + 1 => ((cond (isL ((ls[k]?).join)) (ls.set k none) ls).set (k + 1) (some v)).set (k + 2) none
theorem cvv_cat2 {E : EV} {v : AV} (h : (cvv E v).category = 2) : isL (some v) = true := by
  match v, h with
  | .inr (.inl _), _ => rfl
  | .inl _, h => simp [cvv, Value.category] at h
  | .inr (.inr (.inl (some _))), h => simp [cvv, Value.category] at h
  | .inr (.inr (.inl none)), h => simp [cvv, Value.category] at h
  | .inr (.inr (.inr _)), h => simp [cvv, Value.category] at h
def lsem (E : EV) (ls : LV) : List (Nat × Value) := (List.range ls.length).filterMap (fun i => match (ls[i]?).join with | some v => some (i, cvv E v) | none => none)
theorem lsem_mem {E : EV} {ls : LV} {i : Nat} {v : AV} (h : ls[i]? = some (some v)) : (i, cvv E v) ∈ lsem E ls := by
  refine List.mem_filterMap.mpr ⟨i, List.mem_range.mpr (List.getElem?_eq_some_iff.mp h).1, ?_⟩
  simp [h]
theorem lsem_of {E : EV} {ls : LV} {q : Nat × Value} (h : q ∈ lsem E ls) : ∃ v, ls[q.1]? = some (some v) ∧ q.2 = cvv E v := by
  obtain ⟨i, -, hi⟩ := List.mem_filterMap.mp h
  cases hl : (ls[i]?).join with
  | none => rw [hl] at hi; cases hi
  | some v =>
    rw [hl] at hi
    cases hi
    refine ⟨v, ?_, rfl⟩
    cases hx : ls[i]? with
    | none => rw [hx] at hl; cases hl
    | some o => rw [hx] at hl; show some o = _; rw [show o = some v from hl]
theorem LH.has {E : EV} {lsA : Array Slot} {nL : Nat} {ls : LV} (h : LH E lsA nL ls) : lv_has lsA nL (lsem E ls) := ⟨h.1, h.2.1, fun q hq => by
  obtain ⟨v, h1, h2⟩ := lsem_of hq
  rw [h2]
  exact h.2.2 _ _ h1⟩
theorem LH.of {E : EV} {lsA : Array Slot} {nL : Nat} {l : List (Nat × Value)} {ls : LV} (h : lv_has lsA nL l) (hs : ∀ (i : Nat) (v : AV), ls[i]? = some (some v) → (i, cvv E v) ∈ l) : LH E lsA nL ls := ⟨h.1, h.2.1, fun i v hv => h.2.2 (i, cvv E v) (hs i v hv)⟩
theorem LH.st1 {E : EV} {lsA : Array Slot} {nL : Nat} {ls : LV} {i : Nat} {v : AV} (h : lv_has lsA nL ((i, cvv E v) :: (lsem E ls).filter (fun q => !(q.1 == i) && !(q.1 + 1 == i && q.2.category == 2)))) : LH E lsA nL (ls1 ls i v) := by
  refine LH.of h (fun j w hj => ?_)
  by_cases e : j = i
  · subst e
    have : w = v := by
      cases j with
      | zero => simp [ls1, List.getElem?_set] at hj; exact hj.2.symm
      | succ k => simp [ls1, List.getElem?_set] at hj; exact hj.2.symm
    subst this
    exact List.mem_cons_self
  · refine List.mem_cons_of_mem _ (List.mem_filter.mpr ?_)
    have key : ls[j]? = some (some w) ∧ ¬ (j + 1 = i ∧ isL (some w) = true) := by
      cases i with
      | zero =>
        simp only [ls1, List.getElem?_set] at hj
        rw [if_neg (fun q => e q.symm)] at hj
        exact ⟨hj, fun q => by omega⟩
      | succ k =>
        simp only [ls1, List.getElem?_set] at hj
        rw [if_neg (fun q => e q.symm)] at hj
        cases hb : isL ((ls[k]?).join) with
        | true =>
          rw [hb] at hj
          simp only [cond, List.getElem?_set] at hj
          by_cases ek : k = j
          · rw [if_pos ek] at hj
            split at hj <;> cases hj
          · rw [if_neg ek] at hj
            exact ⟨hj, fun q => by omega⟩
        | false =>
          rw [hb] at hj
          simp only [cond] at hj
          refine ⟨hj, fun q => ?_⟩
          have : k = j := by omega
          subst this
          rw [hj] at hb
          exact absurd q.2 (by rw [show isL (some w) = false from hb]; decide)
    refine ⟨lsem_mem key.1, ?_⟩
    simp only [Bool.and_eq_true, Bool.not_eq_true', beq_eq_false_iff_ne, ne_eq, Bool.and_eq_false_iff]
    refine ⟨e, ?_⟩
    by_cases e2 : j + 1 = i
    · right
      intro hc
      exact key.2 ⟨e2, cvv_cat2 hc⟩
    · left; exact e2
theorem LH.st2 {E : EV} {lsA : Array Slot} {nL : Nat} {ls : LV} {i : Nat} {v : AV} (h : lv_has lsA nL ((i, cvv E v) :: (lsem E ls).filter (fun q => !(q.1 == i) && (!(q.1 == i + 1) && !(q.1 + 1 == i && q.2.category == 2))))) : LH E lsA nL (ls2 ls i v) := by
  refine LH.of h (fun j w hj => ?_)
  by_cases e : j = i
  · subst e
    have : w = v := by
      cases j with
      | zero => simp [ls2, List.getElem?_set] at hj; exact hj.2.symm
      | succ k => simp [ls2, List.getElem?_set] at hj; exact hj.2.symm
    subst this
    exact List.mem_cons_self
  · refine List.mem_cons_of_mem _ (List.mem_filter.mpr ?_)
    have key : ls[j]? = some (some w) ∧ ¬ j = i + 1 ∧ ¬ (j + 1 = i ∧ isL (some w) = true) := by
      cases i with
      | zero =>
        simp only [ls2, List.getElem?_set] at hj
        by_cases e1 : 1 = j
        · rw [if_pos e1] at hj
          split at hj <;> cases hj
        · rw [if_neg e1, if_neg (fun q => e q.symm)] at hj
          exact ⟨hj, fun q => e1 (by omega), fun q => by omega⟩
      | succ k =>
        simp only [ls2, List.getElem?_set] at hj
        by_cases e1 : k + 2 = j
        · rw [if_pos e1] at hj
          split at hj <;> cases hj
        · rw [if_neg e1, if_neg (fun q => e q.symm)] at hj
          cases hb : isL ((ls[k]?).join) with
          | true =>
            rw [hb] at hj
            simp only [cond, List.getElem?_set] at hj
            by_cases ek : k = j
            · rw [if_pos ek] at hj
              split at hj <;> cases hj
            · rw [if_neg ek] at hj
              exact ⟨hj, fun q => e1 (by omega), fun q => by omega⟩
          | false =>
            rw [hb] at hj
            simp only [cond] at hj
            refine ⟨hj, fun q => e1 (by omega), fun q => ?_⟩
            have : k = j := by omega
            subst this
            rw [hj] at hb
            exact absurd q.2 (by rw [show isL (some w) = false from hb]; decide)
    refine ⟨lsem_mem key.1, ?_⟩
    simp only [Bool.and_eq_true, Bool.not_eq_true', beq_eq_false_iff_ne, ne_eq, Bool.and_eq_false_iff]
    refine ⟨e, key.2.1, ?_⟩
    by_cases e2 : j + 1 = i
    · right
      intro hc
      exact key.2.2 ⟨e2, cvv_cat2 hc⟩
    · left; exact e2
/-- the locals at a method's entry -/
def entL : List AV → LV
  | [] => []
  | v :: r => cond (isL (some v)) (some v :: none :: entL r) (some v :: entL r)
theorem entL_args (E : EV) : ∀ (av : List AV) (k i : Nat) (v : AV), (entL av)[i]? = some (some v) → (k + i, cvv E v) ∈ lv_args k (av.map (cvv E))
  | [], k, i, v, h => by simp [entL] at h
  | a :: r, k, i, v, h => by
    show _ ∈ (k, cvv E a) :: lv_args (if (cvv E a).category = 2 then k + 2 else k + 1) (r.map (cvv E))
    cases hb : isL (some a) with
    | true =>
      have hc : (cvv E a).category = 2 := by
        match a, hb with
        | .inr (.inl _), _ => rfl
        | .inl _, h => cases h
        | .inr (.inr _), h => cases h
      rw [if_pos hc]
      simp only [entL, hb, cond] at h
      match i, h with
      | 0, h => cases h; exact List.mem_cons_self
      | 1, h => cases h
      | i + 2, h =>
        have := entL_args E r (k + 2) i v h
        rw [show k + (i + 2) = k + 2 + i by omega]
        exact List.mem_cons_of_mem _ this
    | false =>
      have hc : ¬ (cvv E a).category = 2 := fun q => by
        have := cvv_cat2 q
        rw [hb] at this
        cases this
      rw [if_neg hc]
      simp only [entL, hb, cond] at h
      match i, h with
      | 0, h => cases h; exact List.mem_cons_self
      | i + 1, h =>
        have := entL_args E r (k + 1) i v h
        rw [show k + (i + 1) = k + 1 + i by omega]
        exact List.mem_cons_of_mem _ this
theorem entL_len (E : EV) : ∀ (av : List AV), (lg_sl (av.map (cvv E))).length = (entL av).length
  | [] => rfl
  | a :: r => by
    have ih := entL_len E r
    cases hb : isL (some a) with
    | true =>
      have hc : (cvv E a).category = 2 := by
        match a, hb with
        | .inr (.inl _), _ => rfl
        | .inl _, h => cases h
        | .inr (.inr _), h => cases h
      simp only [entL, hb, cond, List.length_cons, List.map_cons]
      simp only [lg_sl, List.flatMap_cons, List.length_append] at ih ⊢
      rw [if_pos hc, ih]
      simp only [List.length_cons, List.length_nil]
      omega
    | false =>
      have hc : ¬ (cvv E a).category = 2 := fun q => by
        have := cvv_cat2 q
        rw [hb] at this
        cases this
      simp only [entL, hb, cond, List.length_cons, List.map_cons]
      simp only [lg_sl, List.flatMap_cons, List.length_append] at ih ⊢
      rw [if_neg hc, ih]
      simp only [List.length_cons, List.length_nil]
      omega
theorem LH.pad {E : EV} {lsA : Array Slot} {nL : Nat} {ls : LV} (h : LH E lsA nL ls) (k : Nat) : LH E lsA nL (ls ++ List.replicate k none) := ⟨h.1, h.2.1, fun i v hv => by
  refine h.2.2 i v ?_
  by_cases hi : i < ls.length
  · rwa [List.getElem?_append_left hi] at hv
  · rw [List.getElem?_append_right (by omega), List.getElem?_replicate] at hv
    split at hv <;> cases hv⟩
theorem LH.drop {E : EV} {lsA : Array Slot} {nL : Nat} {ls ls' : LV} (h : LH E lsA nL ls) (hs : ∀ (i : Nat) (v : AV), ls'[i]? = some (some v) → ls[i]? = some (some v)) : LH E lsA nL ls' := ⟨h.1, h.2.1, fun i v hv => h.2.2 i v (hs i v hv)⟩
