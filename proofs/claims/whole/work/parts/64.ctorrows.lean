/-! ===== THE CONSTRUCTORS: cells come in the order of G0, those under way stand in a list ===== -/
def GO : List (Nat × Nat × List Int) → GG
  | [], i => G0 i
  | q :: r, i => if i = q.1 then q.2 else GO r i
theorem GO_nil : GO [] = G0 := rfl
theorem GO_new {l : List (Nat × Nat × List Int)} {n : Nat} {x : Nat × List Int} : nwG (GO l) n x = GO ((n, x) :: l) := rfl
theorem GO_done {l : List (Nat × Nat × List Int)} {a : Nat} {x : Nat × List Int} (h : GO l a = x) : GO ((a, x) :: l) = GO l := by
  funext i
  show (if i = a then x else GO l i) = GO l i
  by_cases e : i = a
  · rw [if_pos e, e, h]
  · rw [if_neg e]
theorem GO_nd {l : List (Nat × Nat × List Int)} {n : Nat} {x : Nat × List Int} (h : GO l n = x) : nwG (GO l) n x = GO l := by rw [GO_new, GO_done h]
theorem GO_up {l : List (Nat × Nat × List Int)} {a k j : Nat} {fs : List Int} {r : Int} : upG (GO ((a, (k, fs)) :: l)) a j r = GO ((a, (k, fs.set j r)) :: l) := by
  funext i
  show (if i = a then ((if a = a then (k, fs) else GO l a).1, (if a = a then (k, fs) else GO l a).2.set j r) else (if i = a then (k, fs) else GO l i)) = (if i = a then (k, fs.set j r) else GO l i)
  rw [if_pos rfl]
  by_cases e : i = a
  · rw [if_pos e, if_pos e]
  · rw [if_neg e, if_neg e, if_neg e]
theorem GO_up2 {l : List (Nat × Nat × List Int)} {a b k j : Nat} {y : Nat × List Int} {fs : List Int} {r : Int} (h : a ≠ b) : upG (GO ((b, y) :: (a, (k, fs)) :: l)) a j r = GO ((b, y) :: (a, (k, fs.set j r)) :: l) := by
  funext i
  have e1 : GO ((b, y) :: (a, (k, fs)) :: l) a = (k, fs) := by
    show (if a = b then y else if a = a then (k, fs) else GO l a) = _
    rw [if_neg h, if_pos rfl]
  show (if i = a then ((GO ((b, y) :: (a, (k, fs)) :: l) a).1, (GO ((b, y) :: (a, (k, fs)) :: l) a).2.set j r) else (if i = b then y else if i = a then (k, fs) else GO l i)) = (if i = b then y else if i = a then (k, fs.set j r) else GO l i)
  rw [e1]
  by_cases e : i = a
  · rw [if_pos e, if_neg (by omega), if_pos e]
  · rw [if_neg e, if_neg e, if_neg e]
theorem GO_done2 {l : List (Nat × Nat × List Int)} {a b : Nat} {x y : Nat × List Int} (h : GO l a = x) : GO ((b, y) :: (a, x) :: l) = GO ((b, y) :: l) := by
  funext i
  show (if i = b then y else GO ((a, x) :: l) i) = (if i = b then y else GO l i)
  rw [GO_done h]
/-- the memory at first: zeros -/
def Mz : MM := fun _ _ => 0
/-- the lanes that have been set to -1 -/
def mLn (a : Nat) (j : Int) (M : MM) : MM := fun i q => if i = a ∧ 0 ≤ q ∧ q < j then -1 else M i q
theorem mLn_0 (a : Nat) (M : MM) : mLn a 0 M = M := by
  funext i q
  unfold mLn
  rw [if_neg (by omega)]
theorem mLn_up {a : Nat} {j : Int} {M : MM} (h : 0 ≤ j) : upM (mLn a j M) a j (-1) = mLn a (j + 1) M := by
  funext i q
  unfold upM mLn
  by_cases e : i = a ∧ q = j
  · rw [if_pos e, if_pos ⟨e.1, by omega, by omega⟩]
  · rw [if_neg e]
    by_cases w : i = a ∧ 0 ≤ q ∧ q < j
    · rw [if_pos w, if_pos ⟨w.1, by omega, by omega⟩]
    · rw [if_neg w, if_neg (fun v => w ⟨v.1, v.2.1, by have c : ¬ q = j := fun c => e ⟨v.1, c⟩; omega⟩)]
theorem mLn_cell {a : Nat} {j : Int} {M : MM} {i : Nat} (h : i ≠ a) : mLn a j M i = M i := by
  funext q
  unfold mLn
  rw [if_neg (fun w => h w.1)]
theorem nwM_z {M : MM} {n : Nat} (h : ∀ q, M n q = 0) : nwM M n = M := by
  funext i q
  unfold nwM
  by_cases e : i = n
  · rw [if_pos e, e, h]
  · rw [if_neg e]
theorem mnM_z {M : MM} {n N : Nat} (h : ∀ i, n ≤ i → i ≤ n + N → ∀ q, M i q = 0) : mnM M n N = M := by
  funext i q
  unfold mnM
  by_cases e : n ≤ i ∧ i ≤ n + N
  · rw [if_pos e, h i e.1 e.2]
  · rw [if_neg e]
theorem mnG_z {l : List (Nat × Nat × List Int)} {n N : Nat} {y : Int} (h0 : GO l n = (3, (List.range N).map (fun j => ((n + 1 + j : Nat) : Int)))) (h : ∀ i, n < i → i ≤ n + N → GO l i = (0, [y])) : mnG (GO l) n N y = GO l := by
  funext i
  unfold mnG
  by_cases e : i = n
  · rw [if_pos e, e, h0]
  · rw [if_neg e]
    by_cases e2 : n < i ∧ i ≤ n + N
    · rw [if_pos e2, h i e2.1 e2.2]
    · rw [if_neg e2]
/-- what a constructor leaves -/
def Pk (n : Nat) (G : GG) (M : MM) : PP := fun r n1 G1 M1 => r = none ∧ n1 = n ∧ G1 = G ∧ M1 = M
section Ctor
variable {E : EV} {X : MD} {pc : Nat} {ls : LV} {st : List AV} {n n1 d mc ms c s c1 s1 : Nat} {l : List (Nat × Nat × List Int)} {M : MM} {Q : PP}
theorem k_newI {z : Int} (hd : decode (mB X) pc = .ok (.newarray .int, 2)) (h0 : 0 ≤ z) (h1 : z ≤ 1000000) (hn : n < N0) (en : n1 = n + 1) (ec : c1 = c + 1) (es : s1 = s + z.toNat) (hk : c1 ≤ mc ∧ s1 ≤ ms) (hg : GO l n = (0, [z])) (hM : ∀ q, M n q = 0) (h : Wp E X (d, mc, ms, c1, s1) (pc + 2) ls (vr n :: st) n1 (GO l) M Q) : Wp E X (d, mc, ms, c, s) pc ls (vi z :: st) n (GO l) M Q := by
  subst en ec es
  exact w_newI hd acI h0 h1 hn hk (by rw [GO_nd hg, nwM_z hM]; exact h)
theorem k_newL {z : Int} (hd : decode (mB X) pc = .ok (.newarray .long, 2)) (h0 : 0 ≤ z) (h1 : z ≤ 1000000) (hn : n < N0) (en : n1 = n + 1) (ec : c1 = c + 1) (es : s1 = s + z.toNat) (hk : c1 ≤ mc ∧ s1 ≤ ms) (hg : GO l n = (1, [z])) (hM : ∀ q, M n q = 0) (h : Wp E X (d, mc, ms, c1, s1) (pc + 2) ls (vr n :: st) n1 (GO l) M Q) : Wp E X (d, mc, ms, c, s) pc ls (vi z :: st) n (GO l) M Q := by
  subst en ec es
  exact w_newL hd acL h0 h1 hn hk (by rw [GO_nd hg, nwM_z hM]; exact h)
theorem k_new {i ci : Nat} {fs : List Int} (hd : decode (mB X) pc = .ok (.new i, 3)) (hci : ci < 11) (hw1 : Cond.classLink (RR (mO X)) i (RR ci) ∈ wG) (hw2 : Cond.instantiable (RR ci) (NN ci) ∈ wG) (hw3 : Cond.initialized (RR ci) ∈ wG) (hfs : ∀ j, j < NN ci → fs[j]? = some (if tyT ci j = .int ∨ tyT ci j = .boolean then -1 else if tyT ci j = .long then -2 else -3) ∧ defaultValue (tyT ci j) = (if tyT ci j = .int ∨ tyT ci j = .boolean then .int (i32 0) else if tyT ci j = .long then .long (i64 0) else .null)) (hn : n < N0) (en : n1 = n + 1) (ec : c1 = c + 1) (es : s1 = s + NN ci) (hk : c1 ≤ mc ∧ s1 ≤ ms) (hM : ∀ q, M n q = 0) (h : Wp E X (d, mc, ms, c1, s1) (pc + 3) ls (vr n :: st) n1 (GO ((n, (ci + 4, fs)) :: l)) M Q) : Wp E X (d, mc, ms, c, s) pc ls st n (GO l) M Q := by
  subst en ec es
  exact w_new hd hci hw1 hw2 hw3 hfs hn hk (by rw [GO_new, nwM_z hM]; exact h)
theorem k_anew {i : Nat} {z : Int} {fs : List Int} (hd : decode (mB X) pc = .ok (.anewarray i, 3)) (hw1 : Cond.classLink (RR (mO X)) i RX6 ∈ wG) (h0 : 0 ≤ z) (h1 : z ≤ 1000000) (hfs : fs = List.replicate z.toNat (-3)) (hn : n < N0) (en : n1 = n + 1) (ec : c1 = c + 1) (es : s1 = s + z.toNat) (hk : c1 ≤ mc ∧ s1 ≤ ms) (hM : ∀ q, M n q = 0) (h : Wp E X (d, mc, ms, c1, s1) (pc + 3) ls (vr n :: st) n1 (GO ((n, (2, fs)) :: l)) M Q) : Wp E X (d, mc, ms, c, s) pc ls (vi z :: st) n (GO l) M Q := by
  subst en ec es
  exact w_anew hd hw1 h0 h1 hfs hn hk (by rw [GO_new, nwM_z hM]; exact h)
theorem k_multi {i : Nat} {y z : Int} (hd : decode (mB X) pc = .ok (.multianewarray i 2, 4)) (hw1 : Cond.classLink (RR (mO X)) i ("[" ++ (FieldType.array .int).toString) ∈ wG) (h0 : 0 ≤ z) (h1 : z ≤ 1000) (h2 : 0 ≤ y) (h3 : y ≤ 1000) (hn : n + z.toNat < N0) (en : n1 = n + 1 + z.toNat) (ec : c1 = c + 1 + z.toNat) (es : s1 = s + z.toNat + z.toNat * y.toNat) (hk : c1 ≤ mc ∧ s1 ≤ ms) (g0 : GO l n = (3, (List.range z.toNat).map (fun j => ((n + 1 + j : Nat) : Int)))) (g1 : ∀ i, n < i → i ≤ n + z.toNat → GO l i = (0, [y])) (hM : ∀ i, n ≤ i → i ≤ n + z.toNat → ∀ q, M i q = 0) (h : Wp E X (d, mc, ms, c1, s1) (pc + 4) ls (vr n :: st) n1 (GO l) M Q) : Wp E X (d, mc, ms, c, s) pc ls (vi y :: vi z :: st) n (GO l) M Q := by
  subst en ec es
  exact w_multi hd hw1 acI h0 h1 h2 h3 hn ⟨by have := hk.1; show c + (1 + z.toNat) ≤ mc; omega, by have := hk.2; show s + (z.toNat + z.toNat * y.toNat) ≤ ms; omega⟩ (by rw [mnG_z g0 g1, mnM_z hM]; exact h)
theorem k_put {i ci j a r : Nat} {fs : List Int} {ty : FieldType} {k : KK} (hd : decode (mB X) pc = .ok (.putfield i, 3)) (hl : FLk (mO X) i ci j) (ha : a < n) (hf : j < fs.length) (hz1 : (TT ci j).2.2.2 = true) (hz2 : parseFieldDescriptor (TT ci j).2.2.1 = some ty) (hz3 : (TT ci j).1 = RR (mO X)) (hz4 : narrow ty (.ref 0) = .ref 0 ∧ fits ty (.ref 0) = true ∧ (∀ r, narrow ty (.ref r) = .ref r) ∧ ∀ r, fits ty (.ref r) = true) (hz5 : (mY X).name = "<init>") (h : Wp E X k (pc + 3) ls st n (GO ((a, (ci + 4, fs.set j (r : Int))) :: l)) M Q) : Wp E X k pc ls (vr r :: vr a :: st) n (GO ((a, (ci + 4, fs)) :: l)) M Q :=
  w_putR hd hl (fs := fs) (show (if a = a then (ci + 4, fs) else GO l a) = _ from if_pos rfl) ha hf hz1 hz2 hz3 hz4 hz5 (by rw [GO_up]; exact h)
theorem k_put2 {i ci j a b r : Nat} {y : Nat × List Int} {fs : List Int} {ty : FieldType} {k : KK} (hd : decode (mB X) pc = .ok (.putfield i, 3)) (hab : a ≠ b) (hl : FLk (mO X) i ci j) (ha : a < n) (hf : j < fs.length) (hz1 : (TT ci j).2.2.2 = true) (hz2 : parseFieldDescriptor (TT ci j).2.2.1 = some ty) (hz3 : (TT ci j).1 = RR (mO X)) (hz4 : narrow ty (.ref 0) = .ref 0 ∧ fits ty (.ref 0) = true ∧ (∀ r, narrow ty (.ref r) = .ref r) ∧ ∀ r, fits ty (.ref r) = true) (hz5 : (mY X).name = "<init>") (h : Wp E X k (pc + 3) ls st n (GO ((b, y) :: (a, (ci + 4, fs.set j (r : Int))) :: l)) M Q) : Wp E X k pc ls (vr r :: vr a :: st) n (GO ((b, y) :: (a, (ci + 4, fs)) :: l)) M Q :=
  w_putR hd hl (fs := fs) (show (if a = b then y else if a = a then (ci + 4, fs) else GO l a) = _ by rw [if_neg hab, if_pos rfl]) ha hf hz1 hz2 hz3 hz4 hz5 (by rw [GO_up2 hab]; exact h)
theorem k_aast {a r : Nat} {z : Int} {fs gs : List Int} {k : KK} (hd : decode (mB X) pc = .ok (.aastore, 1)) (ha : a < n) (hr0 : r < n) (hgr : GO ((a, (2, fs)) :: l) r = (6 + 4, gs)) (h0 : 0 ≤ z) (h1 : z < fs.length) (hN : fs.length < 2147483648) (h : Wp E X k (pc + 1) ls st n (GO ((a, (2, fs.set z.toNat (r : Int))) :: l)) M Q) : Wp E X k pc ls (vr r :: vi z :: vr a :: st) n (GO ((a, (2, fs)) :: l)) M Q :=
  w_aast hd (show (if a = a then (2, fs) else GO l a) = _ from if_pos rfl) ha hr0 hgr h0 h1 hN (by rw [GO_up]; exact h)
theorem k_iastL {a : Nat} {j : Int} {k : KK} {fs : List Int} (hd : decode (mB X) pc = .ok (.iastore, 1)) (hg : GO l a = (0, fs)) (ha : a < n) (h0 : 0 ≤ j) (h1 : j < fs.headD 0) (hN : fs.headD 0 < 2147483648) (h : Wp E X k (pc + 1) ls st n (GO l) (mLn a (j + 1) M) Q) : Wp E X k pc ls (vi (-1) :: vi j :: vr a :: st) n (GO l) (mLn a j M) Q :=
  w_iast hd hg ha h0 h1 (by omega) hN (by rw [mLn_up h0]; exact h)
theorem k_L0 {a : Nat} {k : KK} {G : GG} (h : Wp E X k pc ls st n G (mLn a 0 M) Q) : Wp E X k pc ls st n G M Q := by rw [mLn_0] at h; exact h
theorem k_done {a : Nat} {x : Nat × List Int} {k : KK} (hg : GO l a = x) (h : Wp E X k pc ls st n (GO l) M Q) : Wp E X k pc ls st n (GO ((a, x) :: l)) M Q := by rw [GO_done hg]; exact h
theorem k_done2 {a b : Nat} {x y : Nat × List Int} {k : KK} (hg : GO l a = x) (h : Wp E X k pc ls st n (GO ((b, y) :: l)) M Q) : Wp E X k pc ls st n (GO ((b, y) :: (a, x) :: l)) M Q := by rw [GO_done2 hg]; exact h
theorem k_init {stk : List AV} {i a d2 mc2 ms2 : Nat} {Y : MD} {As : List AV} {G G1 : GG} {M1 : MM} (hd : decode (mB X) pc = .ok (.invokespecial i, 3)) (hY : MOK Y) (hl : LIk (mO X) i Y ∨ LJk (mO X) i Y) (hc : Ct E Y d2 mc2 ms2 (vr a :: As) n G M (Pk n1 G1 M1)) (hs : stk = As.reverse ++ vr a :: st) (hn : As.length = mN Y) (hk : d2 < d) (ec : c1 = c + mc2) (es : s1 = s + ms2) (hk2 : c1 ≤ mc ∧ s1 ≤ ms) (hst : scat st ≤ 8)
    (h : Wp E X (d, mc, ms, c1, s1) (pc + 3) ls st n1 G1 M1 Q) : Wp E X (d, mc, ms, c, s) pc ls stk n G M Q := by
  subst ec es
  refine w_callI hd hY hl hc hs hn ⟨hk, hk2.1, hk2.2⟩ hst (fun r n' G' M' _ hq => ?_)
  obtain ⟨rfl, rfl, rfl, rfl⟩ := hq
  exact h
theorem k_ret {G : GG} (hd : decode (mB X) pc = .ok (.return_, 1)) (hr : mR X = none) (hk : c ≤ mc ∧ s ≤ ms) : Wp E X (d, mc, ms, c, s) pc ls [] n G M (Pk n G M) := w_vret hd hr ⟨rfl, rfl, rfl, rfl⟩ hk
end Ctor
