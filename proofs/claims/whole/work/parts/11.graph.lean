/-! the cells, in the order of their making -/
def GL : List (Nat × List Int) := [(13, [1, 13, 15, 23, 30, 200, 201, 209, 220, 222, -1, -1]), (9, [2, 3, 4]), (0, [8]), (0, [8]), (3, [5, 6, 7, 8, 9, 10, 11, 12]), (0, [40]), (0, [40]), (0, [40]), (0, [40]), (0, [40]), (0, [40]), (0, [40]), (0, [40]), (11, [14, -1]), (0, [100]), (8, [16, -1, 13, -1]), (10, [-1, -1, -1, -1, 17, 18, 19, 20, 21, 22]), (0, [5]), (0, [5]), (0, [5]), (0, [5]), (0, [5]), (0, [16]), (10, [-1, -1, -1, -1, 24, 25, 26, 27, 28, 29]), (0, [5]), (0, [5]), (0, [5]), (0, [5]), (0, [5]), (0, [16]), (4, [-1, 23, 31, -1]), (2, [32, 39, 46, 53, 60, 67, 74, 81, 88, 95, 102, 109, 116, 123, 130, 137, 144, 151, 158, 165, 172, 179, 186, 193]), (10, [-1, -1, -1, -1, 33, 34, 35, 36, 37, 38]), (0, [5]), (0, [5]), (0, [5]), (0, [5]), (0, [5]), (0, [16]), (10, [-1, -1, -1, -1, 40, 41, 42, 43, 44, 45]), (0, [5]), (0, [5]), (0, [5]), (0, [5]), (0, [5]), (0, [16]), (10, [-1, -1, -1, -1, 47, 48, 49, 50, 51, 52]), (0, [5]), (0, [5]), (0, [5]), (0, [5]), (0, [5]), (0, [16]), (10, [-1, -1, -1, -1, 54, 55, 56, 57, 58, 59]), (0, [5]), (0, [5]), (0, [5]), (0, [5]), (0, [5]), (0, [16]), (10, [-1, -1, -1, -1, 61, 62, 63, 64, 65, 66]), (0, [5]), (0, [5]), (0, [5]), (0, [5]), (0, [5]), (0, [16]), (10, [-1, -1, -1, -1, 68, 69, 70, 71, 72, 73]), (0, [5]), (0, [5]), (0, [5]), (0, [5]), (0, [5]), (0, [16]), (10, [-1, -1, -1, -1, 75, 76, 77, 78, 79, 80]), (0, [5]), (0, [5]), (0, [5]), (0, [5]), (0, [5]), (0, [16]), (10, [-1, -1, -1, -1, 82, 83, 84, 85, 86, 87]), (0, [5]), (0, [5]), (0, [5]), (0, [5]), (0, [5]), (0, [16]), (10, [-1, -1, -1, -1, 89, 90, 91, 92, 93, 94]), (0, [5]), (0, [5]), (0, [5]), (0, [5]), (0, [5]), (0, [16]), (10, [-1, -1, -1, -1, 96, 97, 98, 99, 100, 101]), (0, [5]), (0, [5]), (0, [5]), (0, [5]), (0, [5]), (0, [16]), (10, [-1, -1, -1, -1, 103, 104, 105, 106, 107, 108]), (0, [5]), (0, [5]), (0, [5]), (0, [5]), (0, [5]), (0, [16]), (10, [-1, -1, -1, -1, 110, 111, 112, 113, 114, 115]), (0, [5]), (0, [5]), (0, [5]), (0, [5]), (0, [5]), (0, [16]), (10, [-1, -1, -1, -1, 117, 118, 119, 120, 121, 122]), (0, [5]), (0, [5]), (0, [5]), (0, [5]), (0, [5]), (0, [16]), (10, [-1, -1, -1, -1, 124, 125, 126, 127, 128, 129]), (0, [5]), (0, [5]), (0, [5]), (0, [5]), (0, [5]), (0, [16]), (10, [-1, -1, -1, -1, 131, 132, 133, 134, 135, 136]), (0, [5]), (0, [5]), (0, [5]), (0, [5]), (0, [5]), (0, [16]), (10, [-1, -1, -1, -1, 138, 139, 140, 141, 142, 143]), (0, [5]), (0, [5]), (0, [5]), (0, [5]), (0, [5]), (0, [16]), (10, [-1, -1, -1, -1, 145, 146, 147, 148, 149, 150]), (0, [5]), (0, [5]), (0, [5]), (0, [5]), (0, [5]), (0, [16]), (10, [-1, -1, -1, -1, 152, 153, 154, 155, 156, 157]), (0, [5]), (0, [5]), (0, [5]), (0, [5]), (0, [5]), (0, [16]), (10, [-1, -1, -1, -1, 159, 160, 161, 162, 163, 164]), (0, [5]), (0, [5]), (0, [5]), (0, [5]), (0, [5]), (0, [16]), (10, [-1, -1, -1, -1, 166, 167, 168, 169, 170, 171]), (0, [5]), (0, [5]), (0, [5]), (0, [5]), (0, [5]), (0, [16]), (10, [-1, -1, -1, -1, 173, 174, 175, 176, 177, 178]), (0, [5]), (0, [5]), (0, [5]), (0, [5]), (0, [5]), (0, [16]), (10, [-1, -1, -1, -1, 180, 181, 182, 183, 184, 185]), (0, [5]), (0, [5]), (0, [5]), (0, [5]), (0, [5]), (0, [16]), (10, [-1, -1, -1, -1, 187, 188, 189, 190, 191, 192]), (0, [5]), (0, [5]), (0, [5]), (0, [5]), (0, [5]), (0, [16]), (10, [-1, -1, -1, -1, 194, 195, 196, 197, 198, 199]), (0, [5]), (0, [5]), (0, [5]), (0, [5]), (0, [5]), (0, [16]), (2, [224, 231]), (7, [23, 1, 202]), (10, [-1, -1, -1, -1, 203, 204, 205, 206, 207, 208]), (0, [5]), (0, [5]), (0, [5]), (0, [5]), (0, [5]), (0, [16]), (12, [-1, 210, 23, 211, 218, 219, -1]), (0, [5]), (10, [-1, -1, -1, -1, 212, 213, 214, 215, 216, 217]), (0, [5]), (0, [5]), (0, [5]), (0, [5]), (0, [5]), (0, [16]), (0, [5]), (0, [5]), (6, [-2, -2, 221]), (1, [6]), (5, [-1, 223, 23]), (0, [16]), (10, [-1, -1, -1, -1, 225, 226, 227, 228, 229, 230]), (0, [5]), (0, [5]), (0, [5]), (0, [5]), (0, [5]), (0, [16]), (10, [-1, -1, -1, -1, 232, 233, 234, 235, 236, 237]), (0, [5]), (0, [5]), (0, [5]), (0, [5]), (0, [5]), (0, [16]), (14, [239, 240, 241, 242, -1, 243, 244, 245, -1, -1, -1, -1, -1, -1, 246, -1, 247, 248, 249, -1]), (0, [8]), (0, [8]), (0, [320]), (0, [40]), (0, [45]), (0, [45]), (0, [100]), (0, [1080]), (0, [45]), (0, [92]), (0, [16])]
def G0 : GG := fun i => GL.getD i (0, [])
theorem g0_0 : G0 0 = (9 + 4, [1, 13, 15, 23, 30, 200, 201, 209, 220, 222, -1, -1]) := by decide +kernel
theorem g0_1 : G0 1 = (5 + 4, [2, 3, 4]) := by decide +kernel
theorem g0_2 : G0 2 = (0, [8]) := by decide +kernel
theorem g0_3 : G0 3 = (0, [8]) := by decide +kernel
theorem g0_4 : G0 4 = (3, [5, 6, 7, 8, 9, 10, 11, 12]) := by decide +kernel
theorem g0_5 : G0 5 = (0, [40]) := by decide +kernel
theorem g0_6 : G0 6 = (0, [40]) := by decide +kernel
theorem g0_7 : G0 7 = (0, [40]) := by decide +kernel
theorem g0_8 : G0 8 = (0, [40]) := by decide +kernel
theorem g0_9 : G0 9 = (0, [40]) := by decide +kernel
theorem g0_10 : G0 10 = (0, [40]) := by decide +kernel
theorem g0_11 : G0 11 = (0, [40]) := by decide +kernel
theorem g0_12 : G0 12 = (0, [40]) := by decide +kernel
theorem g0_13 : G0 13 = (7 + 4, [14, -1]) := by decide +kernel
theorem g0_14 : G0 14 = (0, [100]) := by decide +kernel
theorem g0_15 : G0 15 = (4 + 4, [16, -1, 13, -1]) := by decide +kernel
theorem g0_30 : G0 30 = (0 + 4, [-1, 23, 31, -1]) := by decide +kernel
theorem g0_31 : G0 31 = (2, [32, 39, 46, 53, 60, 67, 74, 81, 88, 95, 102, 109, 116, 123, 130, 137, 144, 151, 158, 165, 172, 179, 186, 193]) := by decide +kernel
theorem g0_200 : G0 200 = (2, [224, 231]) := by decide +kernel
theorem g0_201 : G0 201 = (3 + 4, [23, 1, 202]) := by decide +kernel
theorem g0_209 : G0 209 = (8 + 4, [-1, 210, 23, 211, 218, 219, -1]) := by decide +kernel
theorem g0_210 : G0 210 = (0, [5]) := by decide +kernel
theorem g0_218 : G0 218 = (0, [5]) := by decide +kernel
theorem g0_219 : G0 219 = (0, [5]) := by decide +kernel
theorem g0_220 : G0 220 = (2 + 4, [-2, -2, 221]) := by decide +kernel
theorem g0_221 : G0 221 = (1, [6]) := by decide +kernel
theorem g0_222 : G0 222 = (1 + 4, [-1, 223, 23]) := by decide +kernel
theorem g0_223 : G0 223 = (0, [16]) := by decide +kernel
theorem g0_238 : G0 238 = (10 + 4, [239, 240, 241, 242, -1, 243, 244, 245, -1, -1, -1, -1, -1, -1, 246, -1, 247, 248, 249, -1]) := by decide +kernel
theorem g0_239 : G0 239 = (0, [8]) := by decide +kernel
theorem g0_240 : G0 240 = (0, [8]) := by decide +kernel
theorem g0_241 : G0 241 = (0, [320]) := by decide +kernel
theorem g0_242 : G0 242 = (0, [40]) := by decide +kernel
theorem g0_243 : G0 243 = (0, [45]) := by decide +kernel
theorem g0_244 : G0 244 = (0, [45]) := by decide +kernel
theorem g0_245 : G0 245 = (0, [100]) := by decide +kernel
theorem g0_246 : G0 246 = (0, [1080]) := by decide +kernel
theorem g0_247 : G0 247 = (0, [45]) := by decide +kernel
theorem g0_248 : G0 248 = (0, [92]) := by decide +kernel
theorem g0_249 : G0 249 = (0, [16]) := by decide +kernel
/-- a Sky lies at a: its six rows behind it -/
def SK (a : Nat) : Prop := a + 6 < 250 ∧ G0 a = (6 + 4, [-1, -1, -1, -1, ((a + 1 : Nat) : Int), ((a + 2 : Nat) : Int), ((a + 3 : Nat) : Int), ((a + 4 : Nat) : Int), ((a + 5 : Nat) : Int), ((a + 6 : Nat) : Int)]) ∧ G0 (a + 1) = (0, [5]) ∧ G0 (a + 2) = (0, [5]) ∧ G0 (a + 3) = (0, [5]) ∧ G0 (a + 4) = (0, [5]) ∧ G0 (a + 5) = (0, [5]) ∧ G0 (a + 6) = (0, [16])
theorem sk_16 : SK 16 := by unfold SK; decide +kernel
theorem sk_23 : SK 23 := by unfold SK; decide +kernel
theorem sk_202 : SK 202 := by unfold SK; decide +kernel
theorem sk_211 : SK 211 := by unfold SK; decide +kernel
theorem sk_224 : SK 224 := by unfold SK; decide +kernel
theorem sk_231 : SK 231 := by unfold SK; decide +kernel
theorem sk_all : ∀ j, j < 24 → SK (32 + 7 * j) := by unfold SK; decide +kernel
theorem g0_31at : ∀ j, j < 24 → ([32, 39, 46, 53, 60, 67, 74, 81, 88, 95, 102, 109, 116, 123, 130, 137, 144, 151, 158, 165, 172, 179, 186, 193] : List Int)[j]? = some ((32 + 7 * j : Nat) : Int) := by decide +kernel
theorem g0_4at : ∀ j, j < 8 → ([5, 6, 7, 8, 9, 10, 11, 12] : List Int)[j]? = some ((5 + j : Nat) : Int) := by decide +kernel
theorem g0_4row : ∀ j, j < 8 → G0 (5 + j) = (0, [40]) := by decide +kernel
theorem g0_200at : ∀ j, j < 2 → ([224, 231] : List Int)[j]? = some ((224 + 7 * j : Nat) : Int) := by decide +kernel
theorem sk_im : ∀ j, j < 2 → SK (224 + 7 * j) := by unfold SK; decide +kernel
theorem sk_lt {a : Nat} (h : SK a) : a + 6 < N0 := h.1
section Fin
variable {E : EV} {X : MD} {k : KK} {pc : Nat} {ls : LV} {st : List AV} {n : Nat} {G : GG} {M : MM} {Q : PP}
theorem w_mmax {i : Nat} {a b : Int} (hd : decode (mB X) pc = .ok (.invokestatic i, 3)) (hw : Cond.methodLink (RR (mO X)) i Lib.Math.max.name ∈ wG ∧ Cond.static Lib.Math.max.name ∈ wG ∧ Cond.initialized "java/lang/Math" ∈ wG ∧ Cond.code Lib.Math.max.name Lib.Math.max.code 2 (some .int) ∈ wG) (ha : R32 a) (hb : R32 b) (hk : 1 ≤ k.1 ∧ k.2.2.2.1 ≤ k.2.1 ∧ k.2.2.2.2 ≤ k.2.2.1) (hst : scat st ≤ 8) (h : Wp E X k (pc + 3) ls (vi (if a < b then b else a) :: st) n G M Q) : Wp E X k pc ls (vi b :: vi a :: st) n G M Q := by
  intro p l e s m args below meth c H locs lsA c1 c2 c3 c4 c5 c6
  have hts := c1.2.2.2.2.2.1
  refine va_mmax c1.1 c1.2.1 (by rw [c1.2.2.2.1]; exact c5.1.symm) c1.2.2.2.2.1 (hts _ hw.1) (hts _ hw.2.1) (hts _ hw.2.2.1) (hts _ hw.2.2.2) hk.1 (by rw [scat_ok]; show scat st + 13 ≤ 60 * k.1; omega) hk.2.1 hk.2.2 hd ?_
  have ee : (if i32 a < i32 b then i32 b else i32 a) = i32 (if a < b then b else a) := by
    by_cases q : a < b
    · rw [if_pos q, if_pos ((i32_lt ha hb).mpr q)]
    · rw [if_neg q, if_neg (fun w => q ((i32_lt ha hb).mp w))]
  rw [ee]
  exact h p l e s m args below meth c H locs lsA c1 c2 c3 c4 c5 c6
theorem w_mmin {i : Nat} {a b : Int} (hd : decode (mB X) pc = .ok (.invokestatic i, 3)) (hw : Cond.methodLink (RR (mO X)) i Lib.Math.min.name ∈ wG ∧ Cond.static Lib.Math.min.name ∈ wG ∧ Cond.initialized "java/lang/Math" ∈ wG ∧ Cond.code Lib.Math.min.name Lib.Math.min.code 2 (some .int) ∈ wG) (ha : R32 a) (hb : R32 b) (hk : 1 ≤ k.1 ∧ k.2.2.2.1 ≤ k.2.1 ∧ k.2.2.2.2 ≤ k.2.2.1) (hst : scat st ≤ 8) (h : Wp E X k (pc + 3) ls (vi (if b < a then b else a) :: st) n G M Q) : Wp E X k pc ls (vi b :: vi a :: st) n G M Q := by
  intro p l e s m args below meth c H locs lsA c1 c2 c3 c4 c5 c6
  have hts := c1.2.2.2.2.2.1
  refine va_mmin c1.1 c1.2.1 (by rw [c1.2.2.2.1]; exact c5.1.symm) c1.2.2.2.2.1 (hts _ hw.1) (hts _ hw.2.1) (hts _ hw.2.2.1) (hts _ hw.2.2.2) hk.1 (by rw [scat_ok]; show scat st + 13 ≤ 60 * k.1; omega) hk.2.1 hk.2.2 hd ?_
  have ee : (if i32 b < i32 a then i32 b else i32 a) = i32 (if b < a then b else a) := by
    by_cases q : b < a
    · rw [if_pos q, if_pos ((i32_lt hb ha).mpr q)]
    · rw [if_neg q, if_neg (fun w => q ((i32_lt hb ha).mp w))]
  rw [ee]
  exact h p l e s m args below meth c H locs lsA c1 c2 c3 c4 c5 c6
theorem w_mabs {i : Nat} {a : Int} (hd : decode (mB X) pc = .ok (.invokestatic i, 3)) (hw : Cond.methodLink (RR (mO X)) i Lib.Math.abs.name ∈ wG ∧ Cond.static Lib.Math.abs.name ∈ wG ∧ Cond.initialized "java/lang/Math" ∈ wG ∧ Cond.code Lib.Math.abs.name Lib.Math.abs.code 1 (some .int) ∈ wG) (ha : R32 a) (hk : 1 ≤ k.1 ∧ k.2.2.2.1 ≤ k.2.1 ∧ k.2.2.2.2 ≤ k.2.2.1) (hst : scat st ≤ 8) (h : Wp E X k (pc + 3) ls (vi (if 0 ≤ a then a else 0 - a) :: st) n G M Q) : Wp E X k pc ls (vi a :: st) n G M Q := by
  intro p l e s m args below meth c H locs lsA c1 c2 c3 c4 c5 c6
  have hts := c1.2.2.2.2.2.1
  refine va_mabs c1.1 c1.2.1 (by rw [c1.2.2.2.1]; exact c5.1.symm) c1.2.2.2.2.1 (hts _ hw.1) (hts _ hw.2.1) (hts _ hw.2.2.1) (hts _ hw.2.2.2) hk.1 (by rw [scat_ok]; show scat st + 13 ≤ 60 * k.1; omega) hk.2.1 hk.2.2 hd ?_
  have ee : (if 0 ≤ i32 a then i32 a else 0 - i32 a) = i32 (if 0 ≤ a then a else 0 - a) := by
    by_cases q : 0 ≤ a
    · rw [if_pos q, if_pos (by rw [i32_zero]; exact (i32_le R32_0 ha).mpr q)]
    · rw [if_neg q, if_neg (fun w => q ((i32_le R32_0 ha).mp (by rw [← i32_zero]; exact w))), i32_zero, i32_sub]
  rw [ee]
  exact h p l e s m args below meth c H locs lsA c1 c2 c3 c4 c5 c6
end Fin
/-! contracts in the finished world: Cm an int and the memory behind it; Cv no answer; Cl a long; Cr a cell; Cx, Cxv by a relation -/
abbrev kd (d : Nat) : KK := (d, 0, 0, 0, 0)
abbrev Pm (z : Int) (M' : MM) : PP := fun r n g m => r = some (vi z) ∧ n = N0 ∧ g = G0 ∧ m = M'
abbrev Pv (M' : MM) : PP := fun r n g m => r = none ∧ n = N0 ∧ g = G0 ∧ m = M'
abbrev Pl (z : Int) (M' : MM) : PP := fun r n g m => r = some (vl z) ∧ n = N0 ∧ g = G0 ∧ m = M'
abbrev Pr (a : Nat) (P : MM → Prop) : PP := fun r n g m => r = some (vr a) ∧ n = N0 ∧ g = G0 ∧ P m
abbrev Px (P : Int → MM → Prop) : PP := fun r n g m => ∃ z, r = some (vi z) ∧ n = N0 ∧ g = G0 ∧ P z m
abbrev Pxv (P : MM → Prop) : PP := fun r n g m => r = none ∧ n = N0 ∧ g = G0 ∧ P m
abbrev Cm (E : EV) (Y : MD) (d : Nat) (av : List AV) (M : MM) (z : Int) (M' : MM) : Prop := Ct E Y d 0 0 av N0 G0 M (Pm z M')
abbrev Cv (E : EV) (Y : MD) (d : Nat) (av : List AV) (M M' : MM) : Prop := Ct E Y d 0 0 av N0 G0 M (Pv M')
abbrev Cl (E : EV) (Y : MD) (d : Nat) (av : List AV) (M : MM) (z : Int) (M' : MM) : Prop := Ct E Y d 0 0 av N0 G0 M (Pl z M')
abbrev Cr (E : EV) (Y : MD) (d : Nat) (av : List AV) (M : MM) (a : Nat) (P : MM → Prop) : Prop := Ct E Y d 0 0 av N0 G0 M (Pr a P)
abbrev Cx (E : EV) (Y : MD) (d : Nat) (av : List AV) (M : MM) (P : Int → MM → Prop) : Prop := Ct E Y d 0 0 av N0 G0 M (Px P)
abbrev Cxv (E : EV) (Y : MD) (d : Nat) (av : List AV) (M : MM) (P : MM → Prop) : Prop := Ct E Y d 0 0 av N0 G0 M (Pxv P)
section Calls
variable {E : EV} {X : MD} {dd : Nat} {pc : Nat} {ls : LV} {st : List AV} {M : MM} {Q : PP} {stk As : List AV} {i a d : Nat} {Y : MD}

theorem cVm {z : Int} {M2 : MM} (hd : decode (mB X) pc = .ok (.invokevirtual i, 3)) (hY : MOK Y) (hl : LVk (mO X) i Y) (hc : Cm E Y d (vr a :: As) M z M2) (hs : stk = As.reverse ++ vr a :: st) (hg : (G0 a).1 = mO Y + 4) (ha : a < N0) (ho : mO Y < 11) (hn : As.length = mN Y) (hk : d < dd) (hst : scat st ≤ 8) (h : R32 z → Wp E X (kd dd) (pc + 3) ls (vi z :: st) N0 G0 M2 Q) : Wp E X (kd dd) pc ls stk N0 G0 M Q :=
  w_callV hd hY hl hc hs hg ha ho hn ⟨hk, Nat.le_refl 0, Nat.le_refl 0⟩ hst (fun r n2 G2 M3 hr hq => by obtain ⟨rfl, rfl, rfl, rfl⟩ := hq; exact h (hr.1 z rfl))
theorem cVv {M2 : MM} (hd : decode (mB X) pc = .ok (.invokevirtual i, 3)) (hY : MOK Y) (hl : LVk (mO X) i Y) (hc : Cv E Y d (vr a :: As) M M2) (hs : stk = As.reverse ++ vr a :: st) (hg : (G0 a).1 = mO Y + 4) (ha : a < N0) (ho : mO Y < 11) (hn : As.length = mN Y) (hk : d < dd) (hst : scat st ≤ 8) (h : Wp E X (kd dd) (pc + 3) ls st N0 G0 M2 Q) : Wp E X (kd dd) pc ls stk N0 G0 M Q :=
  w_callV hd hY hl hc hs hg ha ho hn ⟨hk, Nat.le_refl 0, Nat.le_refl 0⟩ hst (fun r n2 G2 M3 hr hq => by obtain ⟨rfl, rfl, rfl, rfl⟩ := hq; exact h)
theorem cVl {z : Int} {M2 : MM} (hd : decode (mB X) pc = .ok (.invokevirtual i, 3)) (hY : MOK Y) (hl : LVk (mO X) i Y) (hc : Cl E Y d (vr a :: As) M z M2) (hs : stk = As.reverse ++ vr a :: st) (hg : (G0 a).1 = mO Y + 4) (ha : a < N0) (ho : mO Y < 11) (hn : As.length = mN Y) (hk : d < dd) (hst : scat st ≤ 8) (h : R64 z → Wp E X (kd dd) (pc + 3) ls (vl z :: st) N0 G0 M2 Q) : Wp E X (kd dd) pc ls stk N0 G0 M Q :=
  w_callV hd hY hl hc hs hg ha ho hn ⟨hk, Nat.le_refl 0, Nat.le_refl 0⟩ hst (fun r n2 G2 M3 hr hq => by obtain ⟨rfl, rfl, rfl, rfl⟩ := hq; exact h (hr.2 z rfl))
theorem cVr {b : Nat} {P : MM → Prop} (hd : decode (mB X) pc = .ok (.invokevirtual i, 3)) (hY : MOK Y) (hl : LVk (mO X) i Y) (hc : Cr E Y d (vr a :: As) M b P) (hs : stk = As.reverse ++ vr a :: st) (hg : (G0 a).1 = mO Y + 4) (ha : a < N0) (ho : mO Y < 11) (hn : As.length = mN Y) (hk : d < dd) (hst : scat st ≤ 8) (h : ∀ m, P m → Wp E X (kd dd) (pc + 3) ls (vr b :: st) N0 G0 m Q) : Wp E X (kd dd) pc ls stk N0 G0 M Q :=
  w_callV hd hY hl hc hs hg ha ho hn ⟨hk, Nat.le_refl 0, Nat.le_refl 0⟩ hst (fun r n2 G2 M3 hr hq => by obtain ⟨rfl, rfl, rfl, hp⟩ := hq; exact h _ hp)
theorem cVx {P : Int → MM → Prop} (hd : decode (mB X) pc = .ok (.invokevirtual i, 3)) (hY : MOK Y) (hl : LVk (mO X) i Y) (hc : Cx E Y d (vr a :: As) M P) (hs : stk = As.reverse ++ vr a :: st) (hg : (G0 a).1 = mO Y + 4) (ha : a < N0) (ho : mO Y < 11) (hn : As.length = mN Y) (hk : d < dd) (hst : scat st ≤ 8) (h : ∀ z m, R32 z → P z m → Wp E X (kd dd) (pc + 3) ls (vi z :: st) N0 G0 m Q) : Wp E X (kd dd) pc ls stk N0 G0 M Q :=
  w_callV hd hY hl hc hs hg ha ho hn ⟨hk, Nat.le_refl 0, Nat.le_refl 0⟩ hst (fun r n2 G2 M3 hr hq => by obtain ⟨z, rfl, rfl, rfl, hp⟩ := hq; exact h z _ (hr.1 z rfl) hp)
theorem cVxv {P : MM → Prop} (hd : decode (mB X) pc = .ok (.invokevirtual i, 3)) (hY : MOK Y) (hl : LVk (mO X) i Y) (hc : Cxv E Y d (vr a :: As) M P) (hs : stk = As.reverse ++ vr a :: st) (hg : (G0 a).1 = mO Y + 4) (ha : a < N0) (ho : mO Y < 11) (hn : As.length = mN Y) (hk : d < dd) (hst : scat st ≤ 8) (h : ∀ m, P m → Wp E X (kd dd) (pc + 3) ls st N0 G0 m Q) : Wp E X (kd dd) pc ls stk N0 G0 M Q :=
  w_callV hd hY hl hc hs hg ha ho hn ⟨hk, Nat.le_refl 0, Nat.le_refl 0⟩ hst (fun r n2 G2 M3 hr hq => by obtain ⟨rfl, rfl, rfl, hp⟩ := hq; exact h _ hp)
theorem cSm {z : Int} {M2 : MM} (hd : decode (mB X) pc = .ok (.invokestatic i, 3)) (hY : MOK Y) (hl : LSk (mO X) i Y ∨ LNk (mO X) i Y) (hc : Cm E Y d (As) M z M2) (hs : stk = As.reverse ++ st)  (hn : As.length = mN Y) (hk : d < dd) (hst : scat st ≤ 8) (h : R32 z → Wp E X (kd dd) (pc + 3) ls (vi z :: st) N0 G0 M2 Q) : Wp E X (kd dd) pc ls stk N0 G0 M Q :=
  w_callS hd hY hl hc hs  hn ⟨hk, Nat.le_refl 0, Nat.le_refl 0⟩ hst (fun r n2 G2 M3 hr hq => by obtain ⟨rfl, rfl, rfl, rfl⟩ := hq; exact h (hr.1 z rfl))
theorem cSv {M2 : MM} (hd : decode (mB X) pc = .ok (.invokestatic i, 3)) (hY : MOK Y) (hl : LSk (mO X) i Y ∨ LNk (mO X) i Y) (hc : Cv E Y d (As) M M2) (hs : stk = As.reverse ++ st)  (hn : As.length = mN Y) (hk : d < dd) (hst : scat st ≤ 8) (h : Wp E X (kd dd) (pc + 3) ls st N0 G0 M2 Q) : Wp E X (kd dd) pc ls stk N0 G0 M Q :=
  w_callS hd hY hl hc hs  hn ⟨hk, Nat.le_refl 0, Nat.le_refl 0⟩ hst (fun r n2 G2 M3 hr hq => by obtain ⟨rfl, rfl, rfl, rfl⟩ := hq; exact h)
theorem cSl {z : Int} {M2 : MM} (hd : decode (mB X) pc = .ok (.invokestatic i, 3)) (hY : MOK Y) (hl : LSk (mO X) i Y ∨ LNk (mO X) i Y) (hc : Cl E Y d (As) M z M2) (hs : stk = As.reverse ++ st)  (hn : As.length = mN Y) (hk : d < dd) (hst : scat st ≤ 8) (h : R64 z → Wp E X (kd dd) (pc + 3) ls (vl z :: st) N0 G0 M2 Q) : Wp E X (kd dd) pc ls stk N0 G0 M Q :=
  w_callS hd hY hl hc hs  hn ⟨hk, Nat.le_refl 0, Nat.le_refl 0⟩ hst (fun r n2 G2 M3 hr hq => by obtain ⟨rfl, rfl, rfl, rfl⟩ := hq; exact h (hr.2 z rfl))
theorem cSr {b : Nat} {P : MM → Prop} (hd : decode (mB X) pc = .ok (.invokestatic i, 3)) (hY : MOK Y) (hl : LSk (mO X) i Y ∨ LNk (mO X) i Y) (hc : Cr E Y d (As) M b P) (hs : stk = As.reverse ++ st)  (hn : As.length = mN Y) (hk : d < dd) (hst : scat st ≤ 8) (h : ∀ m, P m → Wp E X (kd dd) (pc + 3) ls (vr b :: st) N0 G0 m Q) : Wp E X (kd dd) pc ls stk N0 G0 M Q :=
  w_callS hd hY hl hc hs  hn ⟨hk, Nat.le_refl 0, Nat.le_refl 0⟩ hst (fun r n2 G2 M3 hr hq => by obtain ⟨rfl, rfl, rfl, hp⟩ := hq; exact h _ hp)
theorem cSx {P : Int → MM → Prop} (hd : decode (mB X) pc = .ok (.invokestatic i, 3)) (hY : MOK Y) (hl : LSk (mO X) i Y ∨ LNk (mO X) i Y) (hc : Cx E Y d (As) M P) (hs : stk = As.reverse ++ st)  (hn : As.length = mN Y) (hk : d < dd) (hst : scat st ≤ 8) (h : ∀ z m, R32 z → P z m → Wp E X (kd dd) (pc + 3) ls (vi z :: st) N0 G0 m Q) : Wp E X (kd dd) pc ls stk N0 G0 M Q :=
  w_callS hd hY hl hc hs  hn ⟨hk, Nat.le_refl 0, Nat.le_refl 0⟩ hst (fun r n2 G2 M3 hr hq => by obtain ⟨z, rfl, rfl, rfl, hp⟩ := hq; exact h z _ (hr.1 z rfl) hp)
theorem cSxv {P : MM → Prop} (hd : decode (mB X) pc = .ok (.invokestatic i, 3)) (hY : MOK Y) (hl : LSk (mO X) i Y ∨ LNk (mO X) i Y) (hc : Cxv E Y d (As) M P) (hs : stk = As.reverse ++ st)  (hn : As.length = mN Y) (hk : d < dd) (hst : scat st ≤ 8) (h : ∀ m, P m → Wp E X (kd dd) (pc + 3) ls st N0 G0 m Q) : Wp E X (kd dd) pc ls stk N0 G0 M Q :=
  w_callS hd hY hl hc hs  hn ⟨hk, Nat.le_refl 0, Nat.le_refl 0⟩ hst (fun r n2 G2 M3 hr hq => by obtain ⟨rfl, rfl, rfl, hp⟩ := hq; exact h _ hp)
end Calls
