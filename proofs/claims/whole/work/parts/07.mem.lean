def TT : Nat → u_T
  | 0 => TX0
  | 1 => TX1
  | 2 => TX2
  | 3 => TX3
  | 4 => TX4
  | 5 => TX5
  | 6 => TX6
  | 7 => TX7
  | 8 => TX8
  | 9 => TX9
  | _ => TX10
def tyT : Nat → Nat → FieldType
  | 0 => tyX0
  | 1 => tyX1
  | 2 => tyX2
  | 3 => tyX3
  | 4 => tyX4
  | 5 => tyX5
  | 6 => tyX6
  | 7 => tyX7
  | 8 => tyX8
  | 9 => tyX9
  | _ => tyX10
def NN : Nat → Nat
  | 0 => 4
  | 1 => 3
  | 2 => 3
  | 3 => 3
  | 4 => 4
  | 5 => 3
  | 6 => 10
  | 7 => 2
  | 8 => 7
  | 9 => 12
  | _ => 20
def clsOK (ci : Nat) : Prop := vwCl[ci]? = some (RR ci, TT ci, NN ci) ∧ (∀ w ∈ u_ws (RR ci) (TT ci) (NN ci), w ∈ wG) ∧ (∀ j, j < NN ci → parseFieldDescriptor (TT ci j).2.2.1 = some (tyT ci j)) ∧ (∀ a, a < NN ci → ∀ b, b < NN ci → a ≠ b → (TT ci a).2.1 ≠ (TT ci b).2.1)
theorem wG_of {w : Cond} (h : (decide (w ∈ lw_tbl) && goodWord w) = true) : w ∈ wG := by
  simp only [Bool.and_eq_true, decide_eq_true_eq] at h
  exact List.mem_filter.mpr h
theorem wG_all {l : List Cond} (h : l.all (fun w => decide (w ∈ lw_tbl) && goodWord w) = true) : ∀ w ∈ l, w ∈ wG := fun w hw => wG_of (List.all_eq_true.mp h w hw)
theorem cls_ok0 : clsOK 0 := ⟨rfl, wG_all (by decide +kernel), tyX0_ok, nmX0⟩
theorem cls_ok1 : clsOK 1 := ⟨rfl, wG_all (by decide +kernel), tyX1_ok, nmX1⟩
theorem cls_ok2 : clsOK 2 := ⟨rfl, wG_all (by decide +kernel), tyX2_ok, nmX2⟩
theorem cls_ok3 : clsOK 3 := ⟨rfl, wG_all (by decide +kernel), tyX3_ok, nmX3⟩
theorem cls_ok4 : clsOK 4 := ⟨rfl, wG_all (by decide +kernel), tyX4_ok, nmX4⟩
theorem cls_ok5 : clsOK 5 := ⟨rfl, wG_all (by decide +kernel), tyX5_ok, nmX5⟩
theorem cls_ok6 : clsOK 6 := ⟨rfl, wG_all (by decide +kernel), tyX6_ok, nmX6⟩
theorem cls_ok7 : clsOK 7 := ⟨rfl, wG_all (by decide +kernel), tyX7_ok, nmX7⟩
theorem cls_ok8 : clsOK 8 := ⟨rfl, wG_all (by decide +kernel), tyX8_ok, nmX8⟩
theorem cls_ok9 : clsOK 9 := ⟨rfl, wG_all (by decide +kernel), tyX9_ok, nmX9⟩
theorem cls_ok10 : clsOK 10 := ⟨rfl, wG_all (by decide +kernel), tyX10_ok, nmX10⟩
theorem cls_ok : ∀ ci, ci < 11 → clsOK ci
  | 0, _ => cls_ok0
  | 1, _ => cls_ok1
  | 2, _ => cls_ok2
  | 3, _ => cls_ok3
  | 4, _ => cls_ok4
  | 5, _ => cls_ok5
  | 6, _ => cls_ok6
  | 7, _ => cls_ok7
  | 8, _ => cls_ok8
  | 9, _ => cls_ok9
  | 10, _ => cls_ok10
  | _ + 11, h => absurd h (by omega)
/-- the pool number i of class oc names the field j of class ci -/
def FLk (oc i ci j : Nat) : Prop := ci < 11 ∧ j < NN ci ∧ Cond.fieldLink (RR oc) i (TT ci j).1 (TT ci j).2.1 (TT ci j).2.2.1 ∈ wG
def upM (M : MM) (a : Nat) (j v : Int) : MM := fun i q => if i = a ∧ q = j then v else M i q
def upG (G : GG) (a j : Nat) (r : Int) : GG := fun i => if i = a then ((G a).1, (G a).2.set j r) else G i
theorem upM_same (M : MM) (a : Nat) (j v : Int) : upM M a j v a j = v := by simp [upM]
theorem upM_ne {M : MM} {a i : Nat} {j q v : Int} (h : ¬ (i = a ∧ q = j)) : upM M a j v i q = M i q := by simp [upM, h]
theorem upM_cell {M : MM} {a i : Nat} {j v : Int} (h : i ≠ a) : upM M a j v i = M i := by funext q; simp [upM, h]
theorem cel_obj {E : EV} {G : GG} {M : MM} {a ci : Nat} {fs : List Int} (hg : G a = (ci + 4, fs)) : cel E G M a = .inr (ci, fs.mapIdx (fun j q => fv E M a j q)) := by simp [cel, hg]
theorem cel_int {E : EV} {G : GG} {M : MM} {a : Nat} {fs : List Int} (hg : G a = (0, fs)) : cel E G M a = .inl (eC E 0, (fs.headD 0).toNat, .inl (fun j => i32 (M a (j : Int)))) := by simp [cel, hg]
theorem cel_long {E : EV} {G : GG} {M : MM} {a : Nat} {fs : List Int} (hg : G a = (1, fs)) : cel E G M a = .inl (eC E 1, (fs.headD 0).toNat, .inr (.inl (fun j => i64 (M a (j : Int))))) := by simp [cel, hg]
theorem cel_ref2 {E : EV} {G : GG} {M : MM} {a : Nat} {fs : List Int} (hg : G a = (2, fs)) : cel E G M a = .inl (eC E 2, fs.length, .inr (.inr (.inr (.inr (fun j => fq E (fs.getD j (-3))))))) := by simp [cel, hg]
theorem cel_ref3 {E : EV} {G : GG} {M : MM} {a : Nat} {fs : List Int} (hg : G a = (3, fs)) : cel E G M a = .inl (eC E 3, fs.length, .inr (.inr (.inr (.inr (fun j => fq E (fs.getD j (-3))))))) := by simp [cel, hg]
theorem cel_ne {E : EV} {G : GG} {M M' : MM} {i : Nat} (h : M' i = M i) : cel E G M' i = cel E G M i := by
  unfold cel
  simp only [fv, h]
theorem RG_up {n : Nat} {G : GG} {M : MM} (h : RG n G M) {a : Nat} {j v : Int} (hv : R64 v ∧ ((G a).1 = 1 ∨ (G a).1 = 6 ∨ R32 v)) : RG n G (upM M a j v) := by
  intro i hi q
  by_cases e : i = a ∧ q = j
  · rw [show upM M a j v i q = v by simp [upM, e]]
    rw [e.1]
    exact hv
  · rw [upM_ne e]
    exact h i hi q
theorem RG.int {n : Nat} {G : GG} {M : MM} (h : RG n G M) {a : Nat} (ha : a < n) {t : Nat} {fs : List Int} (hg : G a = (t, fs)) (h1 : t ≠ 1) (h6 : t ≠ 6) (j : Int) : R32 (M a j) := by
  have := (h a ha j).2
  rw [hg] at this
  rcases this with q | q | q
  · exact absurd q h1
  · exact absurd q h6
  · exact q
theorem w_getI {E : EV} {X : MD} {k : KK} {pc : Nat} {ls : LV} {st : List AV} {n : Nat} {G : GG} {M : MM} {Q : PP} {i ci j a : Nat} {fs : List Int}  (hd : decode (mB X) pc = .ok (.getfield i, 3)) (hl : FLk (mO X) i ci j) (hg : G a = (ci + 4, fs)) (ha : a < n) (hf : fs[j]? = some (-1)) (h6 : ci ≠ 2 := by decide) (h : R32 (M a (j : Int)) → Wp E X k (pc + 3) ls (vi (M a (j : Int)) :: st) n G M Q) : Wp E X k pc ls (vr a :: st) n G M Q := by
  intro p l e s m args below meth c H locs lsA c1 c2 c3 c4 c5 c6
  obtain ⟨hci, hj, hlk⟩ := hl
  obtain ⟨q1, q2, -, -⟩ := cls_ok ci hci
  have he : (wsL E n G M)[a]? = some (eB E + a, .inr (ci, fs.mapIdx (fun j q => fv E M a j q))) := by rw [wsL_at ha, cel_obj hg]
  refine va_get (v := .int (i32 (M a (j : Int)))) c1.1 c1.2.1 c1.2.2.2.2.2.1 q2 c1.2.2.2.2.1 c2.1.1 c4.2.1 a he q1 j hj (c1.2.2.2.2.2.1 _ hlk) (fun _ h9 => h9) ?_ hd ?_
  · simp [hf, fv]
  · exact h (c4.2.2.int ha hg (by omega) (by omega) _) p l e s m args below meth c H locs lsA c1 c2 c3 c4 c5 c6
theorem w_getL {E : EV} {X : MD} {k : KK} {pc : Nat} {ls : LV} {st : List AV} {n : Nat} {G : GG} {M : MM} {Q : PP} {i ci j a : Nat} {fs : List Int}  (hd : decode (mB X) pc = .ok (.getfield i, 3)) (hl : FLk (mO X) i ci j) (hg : G a = (ci + 4, fs)) (ha : a < n) (hf : fs[j]? = some (-2)) (h : R64 (M a (j : Int)) → Wp E X k (pc + 3) ls (vl (M a (j : Int)) :: st) n G M Q) : Wp E X k pc ls (vr a :: st) n G M Q := by
  intro p l e s m args below meth c H locs lsA c1 c2 c3 c4 c5 c6
  obtain ⟨hci, hj, hlk⟩ := hl
  obtain ⟨q1, q2, -, -⟩ := cls_ok ci hci
  have he : (wsL E n G M)[a]? = some (eB E + a, .inr (ci, fs.mapIdx (fun j q => fv E M a j q))) := by rw [wsL_at ha, cel_obj hg]
  refine va_get (v := .long (i64 (M a (j : Int)))) c1.1 c1.2.1 c1.2.2.2.2.2.1 q2 c1.2.2.2.2.1 c2.1.1 c4.2.1 a he q1 j hj (c1.2.2.2.2.2.1 _ hlk) (fun _ h9 => h9) ?_ hd ?_
  · simp [hf, fv]
  · exact h (c4.2.2 a ha _).1 p l e s m args below meth c H locs lsA c1 c2 c3 c4 c5 c6
theorem w_getR {E : EV} {X : MD} {k : KK} {pc : Nat} {ls : LV} {st : List AV} {n : Nat} {G : GG} {M : MM} {Q : PP} {i ci j a : Nat} {fs : List Int} {r : Nat} (hd : decode (mB X) pc = .ok (.getfield i, 3)) (hl : FLk (mO X) i ci j) (hg : G a = (ci + 4, fs)) (ha : a < n) (hf : fs[j]? = some (r : Int)) (h : Wp E X k (pc + 3) ls (vr r :: st) n G M Q) : Wp E X k pc ls (vr a :: st) n G M Q := by
  intro p l e s m args below meth c H locs lsA c1 c2 c3 c4 c5 c6
  obtain ⟨hci, hj, hlk⟩ := hl
  obtain ⟨q1, q2, -, -⟩ := cls_ok ci hci
  have he : (wsL E n G M)[a]? = some (eB E + a, .inr (ci, fs.mapIdx (fun j q => fv E M a j q))) := by rw [wsL_at ha, cel_obj hg]
  refine va_get (v := .ref (eB E + r)) c1.1 c1.2.1 c1.2.2.2.2.2.1 q2 c1.2.2.2.2.1 c2.1.1 c4.2.1 a he q1 j hj (c1.2.2.2.2.2.1 _ hlk) (fun _ h9 => h9) ?_ hd ?_
  · have e1 : ¬ (r : Int) = -1 := by omega
    have e2 : ¬ (r : Int) = -2 := by omega
    have e3 : ¬ (r : Int) = -3 := by omega
    simp [hf, fv, e1, e2, e3]
  · exact h p l e s m args below meth c H locs lsA c1 c2 c3 c4 c5 c6
theorem mapIdx_up {E : EV} {M : MM} {a j : Nat} {fs : List Int} {q0 v : Int} (hf : fs[j]? = some q0) : (fs.mapIdx (fun jj q => fv E M a jj q)).set j (fv E (upM M a (j : Int) v) a j q0) = fs.mapIdx (fun jj q => fv E (upM M a (j : Int) v) a jj q) := by
  apply List.ext_getElem?
  intro i
  rw [List.getElem?_set]
  by_cases e : j = i
  · subst e
    have hl : j < fs.length := (List.getElem?_eq_some_iff.mp hf).1
    simp [hl]
    rw [(List.getElem?_eq_some_iff.mp hf).2]
  · rw [if_neg e]
    simp only [List.getElem?_mapIdx]
    cases hq : fs[i]? with
    | none => rfl
    | some q =>
      have hne : ¬ ((i : Int) = (j : Int)) := by omega
      simp [fv, upM, hne]
theorem mapIdx_upG {E : EV} {M : MM} {a j : Nat} {fs : List Int} {r : Nat} : (fs.mapIdx (fun jj q => fv E M a jj q)).set j (.ref (eB E + r)) = (fs.set j (r : Int)).mapIdx (fun jj q => fv E M a jj q) := by
  apply List.ext_getElem?
  intro i
  rw [List.getElem?_set]
  by_cases e : j = i
  · subst e
    have e1 : ¬ (r : Int) = -1 := by omega
    have e2 : ¬ (r : Int) = -2 := by omega
    have e3 : ¬ (r : Int) = -3 := by omega
    by_cases hl : j < fs.length
    · simp [hl, fv, e1, e2, e3]
    · simp [hl]
  · rw [if_neg e]
    simp only [List.getElem?_mapIdx]
    rw [List.getElem?_set_ne e]
theorem cel_up {E : EV} {G : GG} {M : MM} {a i : Nat} {j v : Int} (h : i ≠ a) : cel E G (upM M a j v) i = cel E G M i := cel_ne (upM_cell h)
theorem cel_upG {E : EV} {G : GG} {M : MM} {a i j : Nat} {r : Int} (h : i ≠ a) : cel E (upG G a j r) M i = cel E G M i := by
  have : upG G a j r i = G i := by simp [upG, h]
  unfold cel
  rw [this]
theorem w_putI {E : EV} {X : MD} {k : KK} {pc : Nat} {ls : LV} {st : List AV} {n : Nat} {G : GG} {M : MM} {Q : PP} {i ci j a : Nat} {fs : List Int} {v : Int} (hd : decode (mB X) pc = .ok (.putfield i, 3)) (hl : FLk (mO X) i ci j) (hg : G a = (ci + 4, fs)) (ha : a < n) (hf : fs[j]? = some (-1)) (h6c : ci ≠ 2 := by decide) (hv : R32 v) (hz1 : (TT ci j).2.2.2 = false) (hz2 : parseFieldDescriptor (TT ci j).2.2.1 = some .int) (h : Wp E X k (pc + 3) ls st n G (upM M a (j : Int) v) Q) : Wp E X k pc ls (vi v :: vr a :: st) n G M Q := by
  intro p l e s m args below meth c H locs lsA c1 c2 c3 c4 c5 c6
  obtain ⟨hci, hj, hlk⟩ := hl
  obtain ⟨x1, x2, x3, x4⟩ := cls_ok ci hci
  have hts := c1.2.2.2.2.2.1
  have hK := c2.1.1
  have he := c4.at ha
  rw [cel_obj hg] at he
  have hap := va_apart (own := RR (mO X)) hts x2 (tyT ci) x3 x4 hK x1
  obtain ⟨r9, h9, cell, q1, q2, q3, q4⟩ := he
  have hr9 : r9 = (RR ci, TT ci, NN ci) := Option.some.inj (h9.symm.trans x1)
  subst hr9
  obtain ⟨hS9, hfc, kC, hkC, hkind⟩ := hK.1 ci _ x1
  obtain ⟨cf, kf, fi, f, hi, hsl⟩ := hS9 j hj
  have hlay := hts _ (x2 _ (u_in_lay hj))
  unfold u_lay at hlay
  rw [if_neg (by rw [hz1]; decide)] at hlay
  have hst := (u_facts hfc hkC (u_lays hts x2 hj) hi).1
  have h6 := u_store (v := .int (i32 v)) hfc hkC hkind hlay hi hz2 rfl rfl
  refine W.putK c1.1 c1.2.1 (f := f) ⟨c1.2.2.2.2.1, hts _ hlk, ⟨_, _, _, hi⟩, hst⟩ (by rw [q2]; exact h6) q1 q3 (by rw [hsl]; exact k2_hasslot (q4 j hj)) rfl rfl hd fun H' e1 e2 e3 => ?_
  rw [hsl] at e1 ⊢
  have hat : va_at (eD E) vwCl (eB E + a, cel E G (upM M a (j : Int) v) a) H' := by
    rw [cel_obj hg, ← mapIdx_up hf, show fv E (upM M a (j : Int) v) a j (-1) = .int (i32 v) by simp [fv, upM]]
    exact ⟨_, x1, t_OB.to (V := updV (vp_V (fs.mapIdx (fun jj q => fv E M a jj q))) j (.int (i32 v))) ⟨_, e1, q2, q3, t_set q4 hap hj _⟩ (fun j' _ => vp_updV_set (by rw [List.length_mapIdx]; exact (List.getElem?_eq_some_iff.mp hf).1) _ j')⟩
  have c4' : HP E n G (upM M a (j : Int) v) H' := c4.put ha e2 hat e3 (fun i _ hne => cel_up hne) (RG_up c4.2.2 (by rw [hg]; omega))
  exact h p l e s m args below meth c H' _ lsA c1 c2 (c3.put e2 e3 (Nat.le_add_right _ _)) c4' c5 c6
theorem w_putZ {E : EV} {X : MD} {k : KK} {pc : Nat} {ls : LV} {st : List AV} {n : Nat} {G : GG} {M : MM} {Q : PP} {i ci j a : Nat} {fs : List Int} {v : Int} (hd : decode (mB X) pc = .ok (.putfield i, 3)) (hl : FLk (mO X) i ci j) (hg : G a = (ci + 4, fs)) (ha : a < n) (hf : fs[j]? = some (-1)) (h6c : ci ≠ 2 := by decide) (hv : v = 0 ∨ v = 1) (hz1 : (TT ci j).2.2.2 = false) (hz2 : parseFieldDescriptor (TT ci j).2.2.1 = some .boolean) (h : Wp E X k (pc + 3) ls st n G (upM M a (j : Int) v) Q) : Wp E X k pc ls (vi v :: vr a :: st) n G M Q := by
  intro p l e s m args below meth c H locs lsA c1 c2 c3 c4 c5 c6
  obtain ⟨hci, hj, hlk⟩ := hl
  obtain ⟨x1, x2, x3, x4⟩ := cls_ok ci hci
  have hts := c1.2.2.2.2.2.1
  have hK := c2.1.1
  have he := c4.at ha
  rw [cel_obj hg] at he
  have hap := va_apart (own := RR (mO X)) hts x2 (tyT ci) x3 x4 hK x1
  obtain ⟨r9, h9, cell, q1, q2, q3, q4⟩ := he
  have hr9 : r9 = (RR ci, TT ci, NN ci) := Option.some.inj (h9.symm.trans x1)
  subst hr9
  obtain ⟨hS9, hfc, kC, hkC, hkind⟩ := hK.1 ci _ x1
  obtain ⟨cf, kf, fi, f, hi, hsl⟩ := hS9 j hj
  have hlay := hts _ (x2 _ (u_in_lay hj))
  unfold u_lay at hlay
  rw [if_neg (by rw [hz1]; decide)] at hlay
  have hst := (u_facts hfc hkC (u_lays hts x2 hj) hi).1
  have h6 := u_store (v := .int (i32 v)) hfc hkC hkind hlay hi hz2 (by rcases hv with rfl | rfl <;> decide +kernel) (by rcases hv with rfl | rfl <;> decide +kernel)
  refine W.putK c1.1 c1.2.1 (f := f) ⟨c1.2.2.2.2.1, hts _ hlk, ⟨_, _, _, hi⟩, hst⟩ (by rw [q2]; exact h6) q1 q3 (by rw [hsl]; exact k2_hasslot (q4 j hj)) rfl rfl hd fun H' e1 e2 e3 => ?_
  rw [hsl] at e1 ⊢
  have hat : va_at (eD E) vwCl (eB E + a, cel E G (upM M a (j : Int) v) a) H' := by
    rw [cel_obj hg, ← mapIdx_up hf, show fv E (upM M a (j : Int) v) a j (-1) = .int (i32 v) by simp [fv, upM]]
    exact ⟨_, x1, t_OB.to (V := updV (vp_V (fs.mapIdx (fun jj q => fv E M a jj q))) j (.int (i32 v))) ⟨_, e1, q2, q3, t_set q4 hap hj _⟩ (fun j' _ => vp_updV_set (by rw [List.length_mapIdx]; exact (List.getElem?_eq_some_iff.mp hf).1) _ j')⟩
  have c4' : HP E n G (upM M a (j : Int) v) H' := c4.put ha e2 hat e3 (fun i _ hne => cel_up hne) (RG_up c4.2.2 (by rw [hg]; omega))
  exact h p l e s m args below meth c H' _ lsA c1 c2 (c3.put e2 e3 (Nat.le_add_right _ _)) c4' c5 c6
theorem w_putL {E : EV} {X : MD} {k : KK} {pc : Nat} {ls : LV} {st : List AV} {n : Nat} {G : GG} {M : MM} {Q : PP} {i ci j a : Nat} {fs : List Int} {v : Int} (hd : decode (mB X) pc = .ok (.putfield i, 3)) (hl : FLk (mO X) i ci j) (hg : G a = (ci + 4, fs)) (ha : a < n) (hf : fs[j]? = some (-2)) (h6c : ci = 2 := by decide) (hv : R64 v) (hz1 : (TT ci j).2.2.2 = false) (hz2 : parseFieldDescriptor (TT ci j).2.2.1 = some .long) (h : Wp E X k (pc + 3) ls st n G (upM M a (j : Int) v) Q) : Wp E X k pc ls (vl v :: vr a :: st) n G M Q := by
  intro p l e s m args below meth c H locs lsA c1 c2 c3 c4 c5 c6
  obtain ⟨hci, hj, hlk⟩ := hl
  obtain ⟨x1, x2, x3, x4⟩ := cls_ok ci hci
  have hts := c1.2.2.2.2.2.1
  have hK := c2.1.1
  have he := c4.at ha
  rw [cel_obj hg] at he
  have hap := va_apart (own := RR (mO X)) hts x2 (tyT ci) x3 x4 hK x1
  obtain ⟨r9, h9, cell, q1, q2, q3, q4⟩ := he
  have hr9 : r9 = (RR ci, TT ci, NN ci) := Option.some.inj (h9.symm.trans x1)
  subst hr9
  obtain ⟨hS9, hfc, kC, hkC, hkind⟩ := hK.1 ci _ x1
  obtain ⟨cf, kf, fi, f, hi, hsl⟩ := hS9 j hj
  have hlay := hts _ (x2 _ (u_in_lay hj))
  unfold u_lay at hlay
  rw [if_neg (by rw [hz1]; decide)] at hlay
  have hst := (u_facts hfc hkC (u_lays hts x2 hj) hi).1
  have h6 := u_store (v := .long (i64 v)) hfc hkC hkind hlay hi hz2 rfl rfl
  refine W.putK c1.1 c1.2.1 (f := f) ⟨c1.2.2.2.2.1, hts _ hlk, ⟨_, _, _, hi⟩, hst⟩ (by rw [q2]; exact h6) q1 q3 (by rw [hsl]; exact k2_hasslot (q4 j hj)) rfl rfl hd fun H' e1 e2 e3 => ?_
  rw [hsl] at e1 ⊢
  have hat : va_at (eD E) vwCl (eB E + a, cel E G (upM M a (j : Int) v) a) H' := by
    rw [cel_obj hg, ← mapIdx_up hf, show fv E (upM M a (j : Int) v) a j (-2) = .long (i64 v) by simp [fv, upM]]
    exact ⟨_, x1, t_OB.to (V := updV (vp_V (fs.mapIdx (fun jj q => fv E M a jj q))) j (.long (i64 v))) ⟨_, e1, q2, q3, t_set q4 hap hj _⟩ (fun j' _ => vp_updV_set (by rw [List.length_mapIdx]; exact (List.getElem?_eq_some_iff.mp hf).1) _ j')⟩
  have c4' : HP E n G (upM M a (j : Int) v) H' := c4.put ha e2 hat e3 (fun i _ hne => cel_up hne) (RG_up c4.2.2 (by rw [hg]; omega))
  exact h p l e s m args below meth c H' _ lsA c1 c2 (c3.put e2 e3 (Nat.le_add_right _ _)) c4' c5 c6
theorem w_putR {E : EV} {X : MD} {k : KK} {pc : Nat} {ls : LV} {st : List AV} {n : Nat} {G : GG} {M : MM} {Q : PP} {i ci j a r : Nat} {fs : List Int} {ty : FieldType} (hd : decode (mB X) pc = .ok (.putfield i, 3)) (hl : FLk (mO X) i ci j) (hg : G a = (ci + 4, fs)) (ha : a < n) (hf : j < fs.length) (hz1 : (TT ci j).2.2.2 = true) (hz2 : parseFieldDescriptor (TT ci j).2.2.1 = some ty) (hz3 : (TT ci j).1 = RR (mO X)) (hz4 : narrow ty (.ref 0) = .ref 0 ∧ fits ty (.ref 0) = true ∧ (∀ r, narrow ty (.ref r) = .ref r) ∧ ∀ r, fits ty (.ref r) = true) (hz5 : (mY X).name = "<init>") (h : Wp E X k (pc + 3) ls st n (upG G a j (r : Int)) M Q) : Wp E X k pc ls (vr r :: vr a :: st) n G M Q := by
  intro p l e s m args below meth c H locs lsA c1 c2 c3 c4 c5 c6
  obtain ⟨hci, hj, hlk⟩ := hl
  obtain ⟨x1, x2, x3, x4⟩ := cls_ok ci hci
  have hts := c1.2.2.2.2.2.1
  have hK := c2.1.1
  have he := c4.at ha
  rw [cel_obj hg] at he
  have hap := va_apart (own := RR (mO X)) hts x2 (tyT ci) x3 x4 hK x1
  obtain ⟨r9, h9, cell, q1, q2, q3, q4⟩ := he
  have hr9 : r9 = (RR ci, TT ci, NN ci) := Option.some.inj (h9.symm.trans x1)
  subst hr9
  obtain ⟨hS9, hfc, kC, hkC, hkind⟩ := hK.1 ci _ x1
  obtain ⟨cf, kf, fi, f, hi, hsl⟩ := hS9 j hj
  have hlay := hts _ (x2 _ (u_in_lay hj))
  unfold u_lay at hlay
  rw [if_pos hz1] at hlay
  have hst := (u_facts hfc hkC (u_lays hts x2 hj) hi).1
  have hcf : m.cls = cf := by
    obtain ⟨_, _, c', _, _, _, -, -, hf', -, -, -, hown2, -⟩ := Cond.laysFinal_spec hlay
    have e1 : c' = cf := by have := hi.symm.trans hf'; simp at this; exact this.1.symm
    rw [hz3] at hown2
    rw [← e1]; exact Option.some.inj (c1.2.2.2.2.1.symm.trans hown2)
  have h6 := u_fits (v := .ref (eB E + r)) hfc hkC hkind (Or.inr hlay) hi hz2 (hz4.2.2.1 _) (hz4.2.2.2 _)
  refine W.putFinK c1.1 c1.2.1 c1.2.2.2.2.1 (hts _ hlk) hi hst hcf (c1.2.2.2.2.2.2.2.trans hz5) (by rw [q2]; exact h6) q1 q3 (by rw [hsl]; exact k2_hasslot (q4 j hj)) rfl rfl hd fun H' e1 e2 e3 => ?_
  rw [hsl] at e1 ⊢
  have hat : va_at (eD E) vwCl (eB E + a, cel E (upG G a j (r : Int)) M a) H' := by
    have hg2 : upG G a j (r : Int) a = (ci + 4, fs.set j (r : Int)) := by simp [upG, hg]
    rw [cel_obj hg2, ← mapIdx_upG]
    exact ⟨_, x1, t_OB.to (V := updV (vp_V (fs.mapIdx (fun jj q => fv E M a jj q))) j (.ref (eB E + r))) ⟨_, e1, q2, q3, t_set q4 hap hj _⟩ (fun j' _ => vp_updV_set (by rw [List.length_mapIdx]; exact hf) _ j')⟩
  have c4' : HP E n (upG G a j (r : Int)) M H' := c4.put ha e2 hat e3 (fun i _ hne => cel_upG hne) (fun i hi q => by
    have hk : (upG G a j (r : Int) i).1 = (G i).1 := by
      by_cases e : i = a
      · subst e; simp [upG]
      · simp [upG, e]
    rw [hk]; exact c4.2.2 i hi q)
  exact h p l e s m args below meth c H' _ lsA c1 c2 (c3.put e2 e3 (Nat.le_add_right _ _)) c4' c5 c6
theorem w_iald {E : EV} {X : MD} {k : KK} {pc : Nat} {ls : LV} {st : List AV} {n : Nat} {G : GG} {M : MM} {Q : PP} {a : Nat} {z : Int} {fs : List Int} (hd : decode (mB X) pc = .ok (.iaload, 1)) (hg : G a = (0, fs)) (ha : a < n) (h0 : 0 ≤ z) (h1 : z < fs.headD 0) (hN : fs.headD 0 < 2147483648 := by decide) (h : R32 (M a z) → Wp E X k (pc + 1) ls (vi (M a z) :: st) n G M Q) : Wp E X k pc ls (vi z :: vr a :: st) n G M Q := by
  intro p l e s m args below meth c H locs lsA c1 c2 c3 c4 c5 c6
  have hr : R32 z := ⟨by omega, by omega⟩
  have he : (wsL E n G M)[a]? = some (eB E + a, .inl (eC E 0, (fs.headD 0).toNat, .inl (fun j => i32 (M a (j : Int))))) := by rw [wsL_at ha, cel_int hg]
  refine va_iald c1.1 c1.2.1 c2.1.1 c4.2.1 a 0 he rfl (i32_in h0 (by omega) (by omega)) hd ?_
  have ee : ((i32 z).toNatClampNeg : Int) = z := by rw [i32_clamp hr]; omega
  rw [ee]
  exact h (c4.2.2.int ha hg (by decide) (by decide) _) p l e s m args below meth c H locs lsA c1 c2 c3 c4 c5 c6
theorem w_lald {E : EV} {X : MD} {k : KK} {pc : Nat} {ls : LV} {st : List AV} {n : Nat} {G : GG} {M : MM} {Q : PP} {a : Nat} {z : Int} {fs : List Int} (hd : decode (mB X) pc = .ok (.laload, 1)) (hg : G a = (1, fs)) (ha : a < n) (h0 : 0 ≤ z) (h1 : z < fs.headD 0) (hN : fs.headD 0 < 2147483648 := by decide) (h : R64 (M a z) → Wp E X k (pc + 1) ls (vl (M a z) :: st) n G M Q) : Wp E X k pc ls (vi z :: vr a :: st) n G M Q := by
  intro p l e s m args below meth c H locs lsA c1 c2 c3 c4 c5 c6
  have hr : R32 z := ⟨by omega, by omega⟩
  have he : (wsL E n G M)[a]? = some (eB E + a, .inl (eC E 1, (fs.headD 0).toNat, .inr (.inl (fun j => i64 (M a (j : Int)))))) := by rw [wsL_at ha, cel_long hg]
  refine va_lald c1.1 c1.2.1 c2.1.1 c4.2.1 a 1 he rfl (i32_in h0 (by omega) (by omega)) hd ?_
  have ee : ((i32 z).toNatClampNeg : Int) = z := by rw [i32_clamp hr]; omega
  rw [ee]
  exact h (c4.2.2 a ha _).1 p l e s m args below meth c H locs lsA c1 c2 c3 c4 c5 c6
theorem arr_up {E : EV} {M : MM} {a : Nat} {z v : Int} (hz : 0 ≤ z) (hr : R32 z) : (fun j : Nat => updV (fun j : Nat => Value.int (i32 (M a (j : Int)))) (i32 z).toNatClampNeg (.int (i32 v)) j) = fun j : Nat => Value.int (i32 (upM M a z v a (j : Int))) := by
  funext j
  rw [i32_clamp hr]
  by_cases e : j = z.toNat
  · subst e
    simp [updV, upM, show ((z.toNat : Nat) : Int) = z by omega]
  · have e2 : ¬ (j : Int) = z := by omega
    simp [updV, upM, e, e2]
theorem arr_upL {E : EV} {M : MM} {a : Nat} {z v : Int} (hz : 0 ≤ z) (hr : R32 z) : (fun j : Nat => updV (fun j : Nat => Value.long (i64 (M a (j : Int)))) (i32 z).toNatClampNeg (.long (i64 v)) j) = fun j : Nat => Value.long (i64 (upM M a z v a (j : Int))) := by
  funext j
  rw [i32_clamp hr]
  by_cases e : j = z.toNat
  · subst e
    simp [updV, upM, show ((z.toNat : Nat) : Int) = z by omega]
  · have e2 : ¬ (j : Int) = z := by omega
    simp [updV, upM, e, e2]
theorem w_iast {E : EV} {X : MD} {k : KK} {pc : Nat} {ls : LV} {st : List AV} {n : Nat} {G : GG} {M : MM} {Q : PP} {a : Nat} {z v : Int} {fs : List Int} (hd : decode (mB X) pc = .ok (.iastore, 1)) (hg : G a = (0, fs)) (ha : a < n) (h0 : 0 ≤ z) (h1 : z < fs.headD 0) (hv : R32 v) (hN : fs.headD 0 < 2147483648 := by decide) (h : Wp E X k (pc + 1) ls st n G (upM M a z v) Q) : Wp E X k pc ls (vi v :: vi z :: vr a :: st) n G M Q := by
  intro p l e s m args below meth c H locs lsA c1 c2 c3 c4 c5 c6
  have hr : R32 z := ⟨by omega, by omega⟩
  have he := c4.at ha
  rw [cel_int hg] at he
  have hin9 : vp_in (i32 z) (fs.headD 0).toNat := i32_in h0 (by omega) (by omega)
  refine W.iast c1.1 c1.2.1 he ((c2.1.1.2 0 _ rfl).1 _ (fun j => .int (i32 (M a (j : Int))))) (fun q => by cases q) (by show ¬ (i32 z < 0 ∨ (arrV _ _ _).slots.size ≤ _); rw [arrV_size]; exact hin9) rfl rfl hd fun H1 e1 e2 e3 => ?_
  have hat : va_at (eD E) vwCl (eB E + a, cel E G (upM M a z v) a) H1 := by
    rw [cel_int hg]
    show H1[eB E + a]? = some (vp_cell _ _)
    rw [e1, vp_cell_i, vp_cell_i, arrV_store]
    exact congrArg (fun f => some (arrV _ _ f)) (arr_up (E := E) h0 hr)
  have c4' : HP E n G (upM M a z v) H1 := c4.put ha e2 hat e3 (fun i _ hne => cel_up hne) (RG_up c4.2.2 (by omega))
  exact h p l e s m args below meth c H1 _ lsA c1 c2 (c3.put e2 e3 (Nat.le_add_right _ _)) c4' c5 c6
theorem w_last {E : EV} {X : MD} {k : KK} {pc : Nat} {ls : LV} {st : List AV} {n : Nat} {G : GG} {M : MM} {Q : PP} {a : Nat} {z v : Int} {fs : List Int} (hd : decode (mB X) pc = .ok (.lastore, 1)) (hg : G a = (1, fs)) (ha : a < n) (h0 : 0 ≤ z) (h1 : z < fs.headD 0) (hv : R64 v) (hN : fs.headD 0 < 2147483648 := by decide) (h : Wp E X k (pc + 1) ls st n G (upM M a z v) Q) : Wp E X k pc ls (vl v :: vi z :: vr a :: st) n G M Q := by
  intro p l e s m args below meth c H locs lsA c1 c2 c3 c4 c5 c6
  have hr : R32 z := ⟨by omega, by omega⟩
  have he := c4.at ha
  rw [cel_long hg] at he
  have hin9 : vp_in (i32 z) (fs.headD 0).toNat := i32_in h0 (by omega) (by omega)
  refine W.last c1.1 c1.2.1 he ((c2.1.1.2 1 _ rfl).1 _ (fun j => .long (i64 (M a (j : Int))))) (fun q => by cases q) (by show ¬ (i32 z < 0 ∨ (arrV _ _ _).slots.size ≤ _); rw [arrV_size]; exact hin9) rfl rfl hd fun H1 e1 e2 e3 => ?_
  have hat : va_at (eD E) vwCl (eB E + a, cel E G (upM M a z v) a) H1 := by
    rw [cel_long hg]
    show H1[eB E + a]? = some (vp_cell _ _)
    rw [e1, vp_cell_l, vp_cell_l, arrV_store]
    exact congrArg (fun f => some (arrV _ _ f)) (arr_upL (E := E) h0 hr)
  have c4' : HP E n G (upM M a z v) H1 := c4.put ha e2 hat e3 (fun i _ hne => cel_up hne) (RG_up c4.2.2 ⟨hv, Or.inl (by rw [hg])⟩)
  exact h p l e s m args below meth c H1 _ lsA c1 c2 (c3.put e2 e3 (Nat.le_add_right _ _)) c4' c5 c6
/-- a cell out of a row of Sky -/
theorem w_aald2 {E : EV} {X : MD} {k : KK} {pc : Nat} {ls : LV} {st : List AV} {n : Nat} {G : GG} {M : MM} {Q : PP} {a r : Nat} {z : Int} {fs : List Int} (hd : decode (mB X) pc = .ok (.aaload, 1)) (hg : G a = (2, fs)) (ha : a < n) (h0 : 0 ≤ z) (hf : fs[z.toNat]? = some (r : Int)) (hN : fs.length < 2147483648 := by decide) (h : Wp E X k (pc + 1) ls (vr r :: st) n G M Q) : Wp E X k pc ls (vi z :: vr a :: st) n G M Q := by
  intro p l e s m args below meth c H locs lsA c1 c2 c3 c4 c5 c6
  have hlt : z.toNat < fs.length := (List.getElem?_eq_some_iff.mp hf).1
  have hr : R32 z := ⟨by omega, by omega⟩
  have he : (wsL E n G M)[a]? = some (eB E + a, .inl (eC E 2, fs.length, .inr (.inr (.inr (.inr (fun j => fq E (fs.getD j (-3)))))))) := by rw [wsL_at ha, cel_ref2 hg]
  refine va_aldq c1.1 c1.2.1 c2.1.1 c4.2.1 a 2 he rfl (i32_in h0 (by omega) (by omega)) hd ?_
  rw [i32_clamp hr, List.getD_eq_getElem?_getD, hf]
  have ee : fq E ((some (r : Int)).getD (-3)) = some (eB E + r) := by
    show fq E (r : Int) = _
    unfold fq
    rw [if_neg (by omega), show ((r : Int)).toNat = r by omega]
  rw [ee]
  exact h p l e s m args below meth c H locs lsA c1 c2 c3 c4 c5 c6
