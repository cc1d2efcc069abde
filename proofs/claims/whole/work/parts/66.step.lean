/-! ===== each call keeps what holds; what holds at first ===== -/
theorem POK_who {p : PS} (h : POK p) (c f r i n : Int) : POK (whoR p c f r i n).2 := by
  unfold whoR
  (repeat' split) <;> first | exact h | exact h.find _
theorem POK_plc {p : PS} (h : POK p) (c f r i n : Int) : POK (plcR p c f r i n).2 := by
  unfold plcR
  (repeat' split) <;> first | exact h | exact h.find _
theorem POK_as {p : PS} (h : POK p) (c k : Int) : POK (asR p c k).2 := by
  unfold asR
  (repeat' split) <;> first | exact h | exact h.find _
theorem POK_lv {p : PS} (h : POK p) (x : Int) : POK (lvP p x) := by
  unfold lvP
  split
  · rename_i w
    exact ⟨h.hl, h.ht, h.hs, h.hu, h.hU, h.h0, h.hI, show 0 ≤ p.tr + 1 ∧ p.tr + 1 ≤ 16 by have := h.hr; omega⟩
  · exact h
theorem POK_lvs : ∀ (l : List Int) {p : PS}, POK p → POK (lvsP p l)
  | [], _, h => h
  | x :: l, _, h => POK_lvs l (POK_lv h x)
theorem POK_ask {p : PS} (h : POK p) (c w : Int) : POK (askR p c w).2 := by
  unfold askR
  split
  · exact POK_lvs _ ⟨h.hl, h.ht, h.hs, h.hu, h.hU, h.h0, h.hI, show (0 : Int) ≤ 0 ∧ (0 : Int) ≤ 16 by decide⟩
  · exact h
theorem POK_cloud {p : PS} (h : POK p) (c w : Int) : POK (cloudR p c w).2 := by
  unfold cloudR
  (repeat' split) <;> exact h
theorem POK_field {p : PS} (h : POK p) (c w : Int) : POK (fieldR p c w).2 := by
  unfold fieldR
  (repeat' split) <;> exact h
theorem POK_ahead {p : PS} (h : POK p) (c n w : Int) : POK (aheadR p c n w).2 := by
  unfold aheadR
  (repeat' split) <;> exact h
theorem POK_over {p : PS} (h : POK p) (f n : Int) : POK (overR p f n).2 := by
  unfold overR
  (repeat' split) <;> exact h
theorem POK_falls {p : PS} (h : POK p) (f n : Int) : POK (fallsR p f n).2 := by
  unfold fallsR
  (repeat' split) <;> exact h
theorem POK_dry {p : PS} (h : POK p) (n : Int) : POK (dryR p n).2 := by
  unfold dryR
  (repeat' split) <;> exact h
theorem POK_first {p : PS} (h : POK p) (f : Int) : POK (firstR p f).2 := by
  unfold firstR
  (repeat' split) <;> exact h
theorem POK_gone {p : PS} (h : POK p) (c : Int) : POK (goneR p c).2 := by
  unfold goneR
  (repeat' split) <;> exact h
theorem POK_storm {p : PS} (h : POK p) (c o : Int) : POK (stormR p c o).2 := by
  unfold stormR
  (repeat' split) <;> exact h
theorem POK_blue {p : PS} (h : POK p) (w : Int) : POK (blueR p w).2 := by
  unfold blueR
  (repeat' split) <;> exact h
theorem POK_lst {p : PS} (h : POK p) (f n k : Int) : POK (lstR p f n k).2 := by
  unfold lstR
  split
  · exact h
  · split
    · exact h
    · exact h
theorem POK_harv {p : PS} (h : POK p) (f m : Int) : POK (harvR p f m).2 := by
  unfold harvR
  (repeat' split) <;> exact h
theorem POK_from {p : PS} (h : POK p) (c n : Int) : POK (fromR p c n).2 := by
  unfold fromR
  (repeat' split) <;> exact h
theorem POK_alike {p : PS} (h : POK p) (w : Int) : POK (alikeR p w).2 := by
  unfold alikeR
  (repeat' split) <;> exact h
theorem POK_like {p : PS} (h : POK p) (c o : Int) : POK (likeR p c o).2 := by
  unfold likeR
  (repeat' split) <;> exact h
theorem POK_est {p : PS} (h : POK p) (w : Int) : POK (estR p w).2 := by
  unfold estR
  (repeat' split) <;> exact h
theorem POK_seen {p : PS} (h : POK p) (k q w : Int) : POK (seenR p k q w).2 := by
  unfold seenR
  (repeat' split) <;> exact h
theorem POK_draw {p : PS} (h : POK p) (n x w : Int) : POK (drawR p n x w).2 := by
  unfold drawR
  (repeat' split) <;> exact h
theorem POK_kind {p : PS} (h : POK p) (c : Int) : POK (kindR p c).2 := by
  unfold kindR
  (repeat' split) <;> exact h
theorem POK_trace {p : PS} (h : POK p) (i : Int) : POK (traceR p i).2 := by
  unfold traceR
  (repeat' split) <;> exact h
theorem POK_count {p : PS} (h : POK p) (w : Int) : POK (countR p w).2 := by
  unfold countR
  (repeat' split) <;> exact h
def INV (M : MM) (p : PS) : Prop := CI M p ∧ MI M p ∧ POK p
/-- both have answered: the same, and what holds still holds -/
theorem INV.step {M m1 m2 : MM} {r : Int × PS} {z1 z2 : Int} (h1 : KC M r z1 m1) (h2 : KM m1 r z2 m2) (h3 : POK r.2) : z1 = z2 ∧ INV m2 r.2 := by
  obtain ⟨e1, C1, H1⟩ := h1
  obtain ⟨e2, I2, L2⟩ := h2
  exact ⟨e1.trans e2.symm, C1.lo L2, I2, h3⟩
theorem INV.ref {M m1 : MM} {p : PS} {r : Int × PS} {z1 : Int} (h : INV M p) (h1 : KC M r z1 m1) : MI m1 p := h.2.1.hi h1.2.2
def p0 : PS := (fun q => if 0 ≤ q ∧ q < 8 then -1 else 0, fun _ => 0, fun _ => 0, 0, fun _ => 0, fun _ => 0, 0, fun _ _ => 0, fun _ => 0, fun _ _ => 0, 0, 0, 0, fun _ => 0)
def M9 : MM := mLn 239 8 (mLn 2 8 Mz)
theorem M9_0 {i : Nat} (h1 : i ≠ 239) (h2 : i ≠ 2) (q : Int) : M9 i q = 0 := by
  unfold M9
  rw [mLn_cell h1, mLn_cell h2]
  rfl
theorem M9_2 (q : Int) : M9 2 q = if 0 ≤ q ∧ q < 8 then -1 else 0 := by
  unfold M9
  rw [mLn_cell (by decide)]
  unfold mLn
  by_cases e : 0 ≤ q ∧ q < 8
  · rw [if_pos e, if_pos ⟨rfl, e⟩]
  · rw [if_neg e, if_neg (fun w => e w.2)]
    rfl
theorem M9_239 (q : Int) : M9 239 q = if 0 ≤ q ∧ q < 8 then -1 else 0 := by
  unfold M9
  unfold mLn
  by_cases e : 0 ≤ q ∧ q < 8
  · rw [if_pos e, if_pos ⟨rfl, e⟩]
  · rw [if_neg e, if_neg (fun w => e w.2), if_neg (fun w => absurd w.1 (by decide))]
    rfl
theorem GS0 : GS (fun _ => 0) := ⟨fun _ _ => rfl, ⟨by decide, by decide, by decide, by decide, fun c h1 h2 => absurd (show c < 0 from h2) (by omega), fun f h1 h2 => by show (0 : Int) ≤ 0 ∧ (0 : Int) ≤ 10 * 0; decide⟩, by decide⟩
theorem POK0 : POK p0 := by
  refine ⟨fun r h1 h2 => ?_, by decide, GS0, by decide, fun j hj => absurd hj (Nat.not_lt_zero j), fun _ => ⟨rfl, fun _ _ _ => rfl⟩, fun _ _ _ => Or.inl rfl, by decide⟩
  show (-1 ≤ (if 0 ≤ r ∧ r < 8 then (-1 : Int) else 0) ∧ (if 0 ≤ r ∧ r < 8 then (-1 : Int) else 0) ≤ 2) ∧ (0 : Int) ≤ 0 ∧ (0 : Int) ≤ 40
  rw [if_pos ⟨h1, h2⟩]
  decide
theorem MI0 : MI M9 p0 := by
  refine ⟨?_, ?_, ?_, ?_, ?_, ?_, ?_, ?_, ?_, ?_, ?_, ?_, ?_, ?_, ?_⟩
  · exact funext M9_239
  · exact funext (M9_0 (by decide) (by decide))
  · exact funext (M9_0 (by decide) (by decide))
  · exact M9_0 (by decide) (by decide) 8
  · exact funext (M9_0 (by decide) (by decide))
  · exact funext (M9_0 (by decide) (by decide))
  · exact M9_0 (by decide) (by decide) 13
  · exact M9_0 (by decide) (by decide) 15
  · intro j hj q a b; exact M9_0 (by decide) (by decide) _
  · intro k a b; exact M9_0 (by decide) (by decide) _
  · intro k a b q c d; exact M9_0 (by decide) (by decide) _
  · exact M9_0 (by decide) (by decide) 12
  · exact M9_0 (by decide) (by decide) 4
  · exact M9_0 (by decide) (by decide) 19
  · exact funext (M9_0 (by decide) (by decide))
theorem SV0 : SV M9 23 (fun _ => 0) := ⟨fun q _ _ => M9_0 (by decide) (by decide) q, fun c h1 h2 => absurd (show c < 0 from h2) (by omega), fun f _ _ => M9_0 (by decide) (by decide) f⟩
theorem CI0 : CI M9 p0 := by
  refine ⟨?_, ?_, ?_, ?_, ?_, ?_, ?_, ?_, ?_, ?_, ?_, ?_, ?_, ?_⟩
  · intro r a b; exact M9_2 r
  · intro r a b; exact M9_0 (by decide) (by decide) r
  · intro j hj i a b; exact M9_0 (by omega) (by omega) i
  · exact M9_0 (by decide) (by decide) 1
  · intro i a b; exact M9_0 (by decide) (by decide) i
  · exact SV0
  · exact M9_0 (by decide) (by decide) 0
  · exact ⟨0, by decide, M9_0 (by decide) (by decide) 3, fun j hj => absurd hj (Nat.not_lt_zero j)⟩
  · intro k hk; exact ⟨fun _ => M9_0 (by omega) (by omega) 0, fun h => absurd rfl h⟩
  · exact M9_0 (by decide) (by decide) 10
  · exact M9_0 (by decide) (by decide) 11
  · exact M9_0 (by decide) (by decide) 0
  · intro i a b; exact M9_0 (by decide) (by decide) i
  · exact ⟨M9_0 (by decide) (by decide) 3, fun f _ _ => M9_0 (by decide) (by decide) f⟩
theorem INV0 : INV M9 p0 := ⟨CI0, MI0, POK0⟩
