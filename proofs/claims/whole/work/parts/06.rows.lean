theorem i32_add (a b : Int) : i32 a + i32 b = i32 (a + b) := (Int32.ofInt_add a b).symm
theorem i32_sub (a b : Int) : i32 a - i32 b = i32 (a - b) := (Int32.ofInt_sub a b).symm
theorem i32_mul (a b : Int) : i32 a * i32 b = i32 (a * b) := (Int32.ofInt_mul a b).symm
theorem i32_neg (a : Int) : -i32 a = i32 (-a) := (Int32.ofInt_neg a).symm
theorem i64_add (a b : Int) : i64 a + i64 b = i64 (a + b) := (Int64.ofInt_add a b).symm
theorem i64_mul (a b : Int) : i64 a * i64 b = i64 (a * b) := (Int64.ofInt_mul a b).symm
theorem i64_sub (a b : Int) : i64 a - i64 b = i64 (a - b) := (Int64.ofInt_sub a b).symm
theorem i32_toInt {z : Int} (h : R32 z) : (i32 z).toInt = z := by
  obtain ⟨h1, h2⟩ := h
  unfold i32
  rw [Int32.toInt_ofInt]
  have : Int32.size = 2 ^ 32 := rfl
  rw [Int.bmod_def]
  simp only [this]
  split <;> omega
theorem i64_toInt {z : Int} (h : R64 z) : (i64 z).toInt = z := by
  obtain ⟨h1, h2⟩ := h
  unfold i64
  rw [Int64.toInt_ofInt]
  have : Int64.size = 2 ^ 64 := rfl
  rw [Int.bmod_def]
  simp only [this]
  split <;> omega
theorem i32_lt {a b : Int} (ha : R32 a) (hb : R32 b) : i32 a < i32 b ↔ a < b := by rw [Int32.lt_iff_toInt_lt, i32_toInt ha, i32_toInt hb]
theorem i32_le {a b : Int} (ha : R32 a) (hb : R32 b) : i32 a ≤ i32 b ↔ a ≤ b := by rw [Int32.le_iff_toInt_le, i32_toInt ha, i32_toInt hb]
theorem i32_eq {a b : Int} (ha : R32 a) (hb : R32 b) : i32 a = i32 b ↔ a = b := ⟨fun h => by rw [← i32_toInt ha, ← i32_toInt hb, h], fun h => by rw [h]⟩
theorem i64_lt {a b : Int} (ha : R64 a) (hb : R64 b) : i64 a < i64 b ↔ a < b := by rw [Int64.lt_iff_toInt_lt, i64_toInt ha, i64_toInt hb]
theorem i64_eq {a b : Int} (ha : R64 a) (hb : R64 b) : i64 a = i64 b ↔ a = b := ⟨fun h => by rw [← i64_toInt ha, ← i64_toInt hb, h], fun h => by rw [h]⟩
theorem i32_zero : (0 : Int32) = i32 0 := by decide +kernel
theorem i64_zero : (0 : Int64) = i64 0 := by decide +kernel
theorem R32_0 : R32 0 := ⟨by omega, by omega⟩
theorem i32_clamp {z : Int} (h : R32 z) : (i32 z).toNatClampNeg = z.toNat := by
  show (i32 z).toInt.toNat = z.toNat
  rw [i32_toInt h]
theorem i32_in {z : Int} {N : Nat} (h0 : 0 ≤ z) (h1 : z < N) (hN : N < 2147483648) : vp_in (i32 z) N := by
  have hr : R32 z := ⟨by omega, by omega⟩
  rw [vp_in_iff, i32_toInt hr]
  exact ⟨h0, h1⟩
theorem i32_self (x : Int32) : i32 x.toInt = x := Int32.ofInt_toInt x
theorem R32_of (x : Int32) : R32 x.toInt := ⟨Int32.le_toInt x, Int32.toInt_lt x⟩
theorem i32_l {z : Int} (h : R32 z) : (i32 z).toInt64 = i64 z := by
  have h2 : R64 z := ⟨by have := h.1; omega, by have := h.2; omega⟩
  apply Int64.toInt.inj
  rw [Int32.toInt_toInt64, i32_toInt h, i64_toInt h2]
theorem i64_i (z : Int) : (i64 z).toInt32 = i32 z := by
  unfold i64 i32
  apply Int32.toInt.inj
  rw [Int64.toInt_toInt32, Int64.toInt_ofInt, Int32.toInt_ofInt]
  exact Int.bmod_bmod_of_dvd (by decide)
theorem i32_rem {a b : Int} (ha : 0 ≤ a) (ha2 : a < 2147483648) (hb : 0 < b) (hb2 : b < 2147483648) : i32 a - i32 a / i32 b * i32 b = i32 (a % b) := by
  obtain ⟨x, rfl⟩ : ∃ x : Nat, a = x := ⟨a.toNat, by omega⟩
  obtain ⟨y, rfl⟩ : ∃ y : Nat, b = y := ⟨b.toNat, by omega⟩
  have e : ∀ z : Nat, i32 (z : Int) = nI z := fun z => by unfold i32 nI; exact Int32.ofInt_eq_ofNat
  rw [show ((x : Int) % (y : Int)) = ((x % y : Nat) : Int) by omega, e, e, e]
  exact pk_rem (by omega) (by omega) (by omega)
theorem i64_N (z : Nat) : i64 (z : Int) = lN z := by unfold i64 lN; exact Int64.ofInt_eq_ofNat
theorem i32_N (z : Nat) : i32 (z : Int) = nI z := by unfold i32 nI; exact Int32.ofInt_eq_ofNat
theorem i64_rem {a b : Int} (ha : 0 ≤ a) (ha2 : a < 9223372036854775808) (hb : 0 < b) (hb2 : b < 9223372036854775808) : i64 a - i64 a / i64 b * i64 b = i64 (a % b) := by
  obtain ⟨x, rfl⟩ : ∃ x : Nat, a = x := ⟨a.toNat, by omega⟩
  obtain ⟨y, rfl⟩ : ∃ y : Nat, b = y := ⟨b.toNat, by omega⟩
  rw [show ((x : Int) % (y : Int)) = ((x % y : Nat) : Int) by omega, i64_N, i64_N, i64_N]
  exact pk_lRem (by omega) (by omega) (by omega)
theorem i64_div {a b : Int} (ha : 0 ≤ a) (ha2 : a < 9223372036854775808) (hb : 0 < b) (hb2 : b < 9223372036854775808) : i64 a / i64 b = i64 (a / b) := by
  obtain ⟨x, rfl⟩ : ∃ x : Nat, a = x := ⟨a.toNat, by omega⟩
  obtain ⟨y, rfl⟩ : ∃ y : Nat, b = y := ⟨b.toNat, by omega⟩
  rw [show ((x : Int) / (y : Int)) = ((x / y : Nat) : Int) by omega, i64_N, i64_N, i64_N]
  exact pk_lDiv (by omega) (by omega) (by omega)
def bi (b : Bool) : Int := cond b 1 0
theorem bi_0 (b : Bool) : bi b = 0 ↔ b = false := by cases b <;> decide
theorem R32_bi (b : Bool) : R32 (bi b) := by cases b <;> exact ⟨by decide, by decide⟩
theorem w_iconst {E : EV} {X : MD} {k : KK} {pc : Nat} {ls : LV} {st : List AV} {n : Nat} {G : GG} {M : MM} {Q : PP} {z : Int} (hd : decode (mB X) pc = .ok (.iconst z, 1)) (h : Wp E X k (pc + 1) ls (vi z :: st) n G M Q) : Wp E X k pc ls st n G M Q := by
  intro p l e s m args below meth c H locs lsA c1 c2 c3 c4 c5 c6
  exact lv_iconst c1.1 c1.2.1 hd rfl (h p l e s m args below meth c H locs lsA c1 c2 c3 c4 c5 c6)
theorem w_bipush {E : EV} {X : MD} {k : KK} {pc : Nat} {ls : LV} {st : List AV} {n : Nat} {G : GG} {M : MM} {Q : PP} {z : Int} (hd : decode (mB X) pc = .ok (.bipush z, 2)) (hz : (Int8.ofInt z).toInt32 = i32 z := by decide +kernel) (h : Wp E X k (pc + 2) ls (vi z :: st) n G M Q) : Wp E X k pc ls st n G M Q := by
  intro p l e s m args below meth c H locs lsA c1 c2 c3 c4 c5 c6
  exact lv_bipush c1.1 c1.2.1 hd hz (h p l e s m args below meth c H locs lsA c1 c2 c3 c4 c5 c6)
theorem w_sipush {E : EV} {X : MD} {k : KK} {pc : Nat} {ls : LV} {st : List AV} {n : Nat} {G : GG} {M : MM} {Q : PP} {z : Int} (hd : decode (mB X) pc = .ok (.sipush z, 3)) (hz : (Int16.ofInt z).toInt32 = i32 z := by decide +kernel) (h : Wp E X k (pc + 3) ls (vi z :: st) n G M Q) : Wp E X k pc ls st n G M Q := by
  intro p l e s m args below meth c H locs lsA c1 c2 c3 c4 c5 c6
  exact lv_sipush c1.1 c1.2.1 hd hz (h p l e s m args below meth c H locs lsA c1 c2 c3 c4 c5 c6)
theorem w_lconst0 {E : EV} {X : MD} {k : KK} {pc : Nat} {ls : LV} {st : List AV} {n : Nat} {G : GG} {M : MM} {Q : PP}  (hd : decode (mB X) pc = .ok (.lconst 0, 1)) (h : Wp E X k (pc + 1) ls (vl 0 :: st) n G M Q) : Wp E X k pc ls st n G M Q := by
  intro p l e s m args below meth c H locs lsA c1 c2 c3 c4 c5 c6
  exact lv_lconst c1.1 c1.2.1 hd (by decide +kernel) (h p l e s m args below meth c H locs lsA c1 c2 c3 c4 c5 c6)
theorem w_lconst1 {E : EV} {X : MD} {k : KK} {pc : Nat} {ls : LV} {st : List AV} {n : Nat} {G : GG} {M : MM} {Q : PP}  (hd : decode (mB X) pc = .ok (.lconst 1, 1)) (h : Wp E X k (pc + 1) ls (vl 1 :: st) n G M Q) : Wp E X k pc ls st n G M Q := by
  intro p l e s m args below meth c H locs lsA c1 c2 c3 c4 c5 c6
  exact lv_lconst c1.1 c1.2.1 hd (by decide +kernel) (h p l e s m args below meth c H locs lsA c1 c2 c3 c4 c5 c6)
theorem w_ldc {E : EV} {X : MD} {k : KK} {pc : Nat} {ls : LV} {st : List AV} {n : Nat} {G : GG} {M : MM} {Q : PP}  {i : Nat} {z : Int} (hd : decode (mB X) pc = .ok (.ldc i, 2)) (hw : Cond.constant (RR (mO X)) i (i32 z) ∈ wG) (h : Wp E X k (pc + 2) ls (vi z :: st) n G M Q) : Wp E X k pc ls st n G M Q := by
  intro p l e s m args below meth c H locs lsA c1 c2 c3 c4 c5 c6
  exact lv_ldc c1.1 c1.2.1 c1.2.2.2.2.1 (c1.2.2.2.2.2.1 _ hw) hd (h p l e s m args below meth c H locs lsA c1 c2 c3 c4 c5 c6)
theorem w_ldcw {E : EV} {X : MD} {k : KK} {pc : Nat} {ls : LV} {st : List AV} {n : Nat} {G : GG} {M : MM} {Q : PP}  {i : Nat} {z : Int} (hd : decode (mB X) pc = .ok (.ldc_w i, 3)) (hw : Cond.constant (RR (mO X)) i (i32 z) ∈ wG) (h : Wp E X k (pc + 3) ls (vi z :: st) n G M Q) : Wp E X k pc ls st n G M Q := by
  intro p l e s m args below meth c H locs lsA c1 c2 c3 c4 c5 c6
  exact lv_ldcw c1.1 c1.2.1 c1.2.2.2.2.1 (c1.2.2.2.2.2.1 _ hw) hd (h p l e s m args below meth c H locs lsA c1 c2 c3 c4 c5 c6)
theorem w_ldc2 {E : EV} {X : MD} {k : KK} {pc : Nat} {ls : LV} {st : List AV} {n : Nat} {G : GG} {M : MM} {Q : PP}  {i : Nat} {z : Int} (hd : decode (mB X) pc = .ok (.ldc2_w i, 3)) (hw : Cond.constantLong (RR (mO X)) i (i64 z) ∈ wG) (h : Wp E X k (pc + 3) ls (vl z :: st) n G M Q) : Wp E X k pc ls st n G M Q := by
  intro p l e s m args below meth c H locs lsA c1 c2 c3 c4 c5 c6
  exact lv_ldc2 c1.1 c1.2.1 c1.2.2.2.2.1 (c1.2.2.2.2.2.1 _ hw) hd (h p l e s m args below meth c H locs lsA c1 c2 c3 c4 c5 c6)
theorem w_iload_n {E : EV} {X : MD} {k : KK} {pc : Nat} {ls : LV} {st : List AV} {n : Nat} {G : GG} {M : MM} {Q : PP}  {j : Fin 4} {z : Int} (hd : decode (mB X) pc = .ok (.iload_n j, 1)) (hl : ls[j.val]? = some (some (vi z))) (h : Wp E X k (pc + 1) ls (vi z :: st) n G M Q) : Wp E X k pc ls st n G M Q := by
  intro p l e s m args below meth c H locs lsA c1 c2 c3 c4 c5 c6
  exact lv_iload_n c1.1 c1.2.1 hd rfl (c5.get hl) (h p l e s m args below meth c H locs lsA c1 c2 c3 c4 c5 c6)
theorem w_iload {E : EV} {X : MD} {k : KK} {pc : Nat} {ls : LV} {st : List AV} {n : Nat} {G : GG} {M : MM} {Q : PP}  {j : Nat} {z : Int} (hd : decode (mB X) pc = .ok (.iload j, 2)) (hl : ls[j]? = some (some (vi z))) (h : Wp E X k (pc + 2) ls (vi z :: st) n G M Q) : Wp E X k pc ls st n G M Q := by
  intro p l e s m args below meth c H locs lsA c1 c2 c3 c4 c5 c6
  exact lv_iload c1.1 c1.2.1 hd (c5.get hl) (h p l e s m args below meth c H locs lsA c1 c2 c3 c4 c5 c6)
theorem w_lload_n {E : EV} {X : MD} {k : KK} {pc : Nat} {ls : LV} {st : List AV} {n : Nat} {G : GG} {M : MM} {Q : PP}  {j : Fin 4} {z : Int} (hd : decode (mB X) pc = .ok (.lload_n j, 1)) (hl : ls[j.val]? = some (some (vl z))) (h : Wp E X k (pc + 1) ls (vl z :: st) n G M Q) : Wp E X k pc ls st n G M Q := by
  intro p l e s m args below meth c H locs lsA c1 c2 c3 c4 c5 c6
  exact lv_lload_n c1.1 c1.2.1 hd rfl (c5.get hl) (h p l e s m args below meth c H locs lsA c1 c2 c3 c4 c5 c6)
theorem w_lload {E : EV} {X : MD} {k : KK} {pc : Nat} {ls : LV} {st : List AV} {n : Nat} {G : GG} {M : MM} {Q : PP}  {j : Nat} {z : Int} (hd : decode (mB X) pc = .ok (.lload j, 2)) (hl : ls[j]? = some (some (vl z))) (h : Wp E X k (pc + 2) ls (vl z :: st) n G M Q) : Wp E X k pc ls st n G M Q := by
  intro p l e s m args below meth c H locs lsA c1 c2 c3 c4 c5 c6
  exact lv_lload c1.1 c1.2.1 hd (c5.get hl) (h p l e s m args below meth c H locs lsA c1 c2 c3 c4 c5 c6)
theorem w_aload_n {E : EV} {X : MD} {k : KK} {pc : Nat} {ls : LV} {st : List AV} {n : Nat} {G : GG} {M : MM} {Q : PP}  {j : Fin 4} {z : Nat} (hd : decode (mB X) pc = .ok (.aload_n j, 1)) (hl : ls[j.val]? = some (some (vr z))) (h : Wp E X k (pc + 1) ls (vr z :: st) n G M Q) : Wp E X k pc ls st n G M Q := by
  intro p l e s m args below meth c H locs lsA c1 c2 c3 c4 c5 c6
  exact lv_aload_n c1.1 c1.2.1 hd rfl (c5.get hl) (h p l e s m args below meth c H locs lsA c1 c2 c3 c4 c5 c6)
theorem w_aload {E : EV} {X : MD} {k : KK} {pc : Nat} {ls : LV} {st : List AV} {n : Nat} {G : GG} {M : MM} {Q : PP}  {j : Nat} {z : Nat} (hd : decode (mB X) pc = .ok (.aload j, 2)) (hl : ls[j]? = some (some (vr z))) (h : Wp E X k (pc + 2) ls (vr z :: st) n G M Q) : Wp E X k pc ls st n G M Q := by
  intro p l e s m args below meth c H locs lsA c1 c2 c3 c4 c5 c6
  exact lv_aload c1.1 c1.2.1 hd (c5.get hl) (h p l e s m args below meth c H locs lsA c1 c2 c3 c4 c5 c6)
theorem w_istore_n {E : EV} {X : MD} {k : KK} {pc : Nat} {ls : LV} {st : List AV} {n : Nat} {G : GG} {M : MM} {Q : PP}  {j : Fin 4} {z : Int} (hd : decode (mB X) pc = .ok (.istore_n j, 1)) (hn : j.val < mL X) (h : Wp E X k (pc + 1) (ls1 ls j.val (vi z)) st n G M Q) : Wp E X k pc ls (vi z :: st) n G M Q := by
  intro p l e s m args below meth c H locs lsA c1 c2 c3 c4 c5 c6
  exact lv_istore_n c1.1 c1.2.1 hd rfl c5.has hn rfl (fun ls2 hls => h p l e s m args below meth c H locs ls2 c1 c2 c3 c4 (LH.st1 hls) c6)
theorem w_istore {E : EV} {X : MD} {k : KK} {pc : Nat} {ls : LV} {st : List AV} {n : Nat} {G : GG} {M : MM} {Q : PP}  {j : Nat} {z : Int} (hd : decode (mB X) pc = .ok (.istore j, 2)) (hn : j < mL X) (h : Wp E X k (pc + 2) (ls1 ls j (vi z)) st n G M Q) : Wp E X k pc ls (vi z :: st) n G M Q := by
  intro p l e s m args below meth c H locs lsA c1 c2 c3 c4 c5 c6
  exact lv_istore c1.1 c1.2.1 hd c5.has hn rfl (fun ls2 hls => h p l e s m args below meth c H locs ls2 c1 c2 c3 c4 (LH.st1 hls) c6)
theorem w_lstore_n {E : EV} {X : MD} {k : KK} {pc : Nat} {ls : LV} {st : List AV} {n : Nat} {G : GG} {M : MM} {Q : PP}  {j : Fin 4} {z : Int} (hd : decode (mB X) pc = .ok (.lstore_n j, 1)) (hn : j.val + 1 < mL X) (h : Wp E X k (pc + 1) (ls2 ls j.val (vl z)) st n G M Q) : Wp E X k pc ls (vl z :: st) n G M Q := by
  intro p l e s m args below meth c H locs lsA c1 c2 c3 c4 c5 c6
  exact lv_lstore_n c1.1 c1.2.1 hd rfl c5.has hn rfl (fun ls2 hls => h p l e s m args below meth c H locs ls2 c1 c2 c3 c4 (LH.st2 hls) c6)
theorem w_lstore {E : EV} {X : MD} {k : KK} {pc : Nat} {ls : LV} {st : List AV} {n : Nat} {G : GG} {M : MM} {Q : PP}  {j : Nat} {z : Int} (hd : decode (mB X) pc = .ok (.lstore j, 2)) (hn : j + 1 < mL X) (h : Wp E X k (pc + 2) (ls2 ls j (vl z)) st n G M Q) : Wp E X k pc ls (vl z :: st) n G M Q := by
  intro p l e s m args below meth c H locs lsA c1 c2 c3 c4 c5 c6
  exact lv_lstore c1.1 c1.2.1 hd c5.has hn rfl (fun ls2 hls => h p l e s m args below meth c H locs ls2 c1 c2 c3 c4 (LH.st2 hls) c6)
theorem w_astore_n {E : EV} {X : MD} {k : KK} {pc : Nat} {ls : LV} {st : List AV} {n : Nat} {G : GG} {M : MM} {Q : PP}  {j : Fin 4} {z : Nat} (hd : decode (mB X) pc = .ok (.astore_n j, 1)) (hn : j.val < mL X) (h : Wp E X k (pc + 1) (ls1 ls j.val (vr z)) st n G M Q) : Wp E X k pc ls (vr z :: st) n G M Q := by
  intro p l e s m args below meth c H locs lsA c1 c2 c3 c4 c5 c6
  exact lv_astore_n c1.1 c1.2.1 hd rfl c5.has hn rfl (fun ls2 hls => h p l e s m args below meth c H locs ls2 c1 c2 c3 c4 (LH.st1 hls) c6)
theorem w_astore {E : EV} {X : MD} {k : KK} {pc : Nat} {ls : LV} {st : List AV} {n : Nat} {G : GG} {M : MM} {Q : PP}  {j : Nat} {z : Nat} (hd : decode (mB X) pc = .ok (.astore j, 2)) (hn : j < mL X) (h : Wp E X k (pc + 2) (ls1 ls j (vr z)) st n G M Q) : Wp E X k pc ls (vr z :: st) n G M Q := by
  intro p l e s m args below meth c H locs lsA c1 c2 c3 c4 c5 c6
  exact lv_astore c1.1 c1.2.1 hd c5.has hn rfl (fun ls2 hls => h p l e s m args below meth c H locs ls2 c1 c2 c3 c4 (LH.st1 hls) c6)
theorem w_iinc {E : EV} {X : MD} {k : KK} {pc : Nat} {ls : LV} {st : List AV} {n : Nat} {G : GG} {M : MM} {Q : PP}  {j : Nat} {z q : Int} (hd : decode (mB X) pc = .ok (.iinc j q, 3)) (hl : ls[j]? = some (some (vi z))) (hn : j < mL X) (h : Wp E X k (pc + 3) (ls1 ls j (vi (z + q))) st n G M Q) : Wp E X k pc ls st n G M Q := by
  intro p l e s m args below meth c H locs lsA c1 c2 c3 c4 c5 c6
  obtain ⟨kk, hkk⟩ := List.getElem?_of_mem (lsem_mem (E := E) hl)
  exact lv_iinc c1.1 c1.2.1 hd c5.has hkk (v := i32 (z + q)) (by rw [← i32_add]; rfl) hn rfl (fun ls2 hls => h p l e s m args below meth c H locs ls2 c1 c2 c3 c4 (LH.st1 hls) c6)
theorem w_iadd {E : EV} {X : MD} {k : KK} {pc : Nat} {ls : LV} {st : List AV} {n : Nat} {G : GG} {M : MM} {Q : PP}  {a b : Int} (hd : decode (mB X) pc = .ok (.iadd, 1)) (h : Wp E X k (pc + 1) ls (vi (a + b) :: st) n G M Q) : Wp E X k pc ls (vi b :: vi a :: st) n G M Q := by
  intro p l e s m args below meth c H locs lsA c1 c2 c3 c4 c5 c6
  refine lv_iadd c1.1 c1.2.1 hd ?_
  rw [i32_add]
  exact h p l e s m args below meth c H locs lsA c1 c2 c3 c4 c5 c6
theorem w_isub {E : EV} {X : MD} {k : KK} {pc : Nat} {ls : LV} {st : List AV} {n : Nat} {G : GG} {M : MM} {Q : PP}  {a b : Int} (hd : decode (mB X) pc = .ok (.isub, 1)) (h : Wp E X k (pc + 1) ls (vi (a - b) :: st) n G M Q) : Wp E X k pc ls (vi b :: vi a :: st) n G M Q := by
  intro p l e s m args below meth c H locs lsA c1 c2 c3 c4 c5 c6
  refine lv_isub c1.1 c1.2.1 hd ?_
  rw [i32_sub]
  exact h p l e s m args below meth c H locs lsA c1 c2 c3 c4 c5 c6
theorem w_imul {E : EV} {X : MD} {k : KK} {pc : Nat} {ls : LV} {st : List AV} {n : Nat} {G : GG} {M : MM} {Q : PP}  {a b : Int} (hd : decode (mB X) pc = .ok (.imul, 1)) (h : Wp E X k (pc + 1) ls (vi (a * b) :: st) n G M Q) : Wp E X k pc ls (vi b :: vi a :: st) n G M Q := by
  intro p l e s m args below meth c H locs lsA c1 c2 c3 c4 c5 c6
  refine lv_imul c1.1 c1.2.1 hd ?_
  rw [i32_mul]
  exact h p l e s m args below meth c H locs lsA c1 c2 c3 c4 c5 c6
theorem w_ladd {E : EV} {X : MD} {k : KK} {pc : Nat} {ls : LV} {st : List AV} {n : Nat} {G : GG} {M : MM} {Q : PP}  {a b : Int} (hd : decode (mB X) pc = .ok (.ladd, 1)) (h : Wp E X k (pc + 1) ls (vl (a + b) :: st) n G M Q) : Wp E X k pc ls (vl b :: vl a :: st) n G M Q := by
  intro p l e s m args below meth c H locs lsA c1 c2 c3 c4 c5 c6
  refine lv_ladd c1.1 c1.2.1 hd ?_
  rw [i64_add]
  exact h p l e s m args below meth c H locs lsA c1 c2 c3 c4 c5 c6
theorem w_lmul {E : EV} {X : MD} {k : KK} {pc : Nat} {ls : LV} {st : List AV} {n : Nat} {G : GG} {M : MM} {Q : PP}  {a b : Int} (hd : decode (mB X) pc = .ok (.lmul, 1)) (h : Wp E X k (pc + 1) ls (vl (a * b) :: st) n G M Q) : Wp E X k pc ls (vl b :: vl a :: st) n G M Q := by
  intro p l e s m args below meth c H locs lsA c1 c2 c3 c4 c5 c6
  refine lv_lmul c1.1 c1.2.1 hd ?_
  rw [i64_mul]
  exact h p l e s m args below meth c H locs lsA c1 c2 c3 c4 c5 c6
theorem w_lsub {E : EV} {X : MD} {k : KK} {pc : Nat} {ls : LV} {st : List AV} {n : Nat} {G : GG} {M : MM} {Q : PP}  {a b : Int} (hd : decode (mB X) pc = .ok (.lsub, 1)) (h : Wp E X k (pc + 1) ls (vl (a - b) :: st) n G M Q) : Wp E X k pc ls (vl b :: vl a :: st) n G M Q := by
  intro p l e s m args below meth c H locs lsA c1 c2 c3 c4 c5 c6
  refine lv_lsub c1.1 c1.2.1 hd ?_
  rw [i64_sub]
  exact h p l e s m args below meth c H locs lsA c1 c2 c3 c4 c5 c6
theorem w_ineg {E : EV} {X : MD} {k : KK} {pc : Nat} {ls : LV} {st : List AV} {n : Nat} {G : GG} {M : MM} {Q : PP}  {a : Int} (hd : decode (mB X) pc = .ok (.ineg, 1)) (h : Wp E X k (pc + 1) ls (vi (-a) :: st) n G M Q) : Wp E X k pc ls (vi a :: st) n G M Q := by
  intro p l e s m args below meth c H locs lsA c1 c2 c3 c4 c5 c6
  refine lv_ineg c1.1 c1.2.1 hd ?_
  rw [i32_neg]
  exact h p l e s m args below meth c H locs lsA c1 c2 c3 c4 c5 c6
theorem w_irem {E : EV} {X : MD} {k : KK} {pc : Nat} {ls : LV} {st : List AV} {n : Nat} {G : GG} {M : MM} {Q : PP}  {a b : Int} (hd : decode (mB X) pc = .ok (.irem, 1)) (ha : 0 ≤ a) (ha2 : a < 2147483648) (hb : 0 < b) (hb2 : b < 2147483648) (h : Wp E X k (pc + 1) ls (vi (a % b) :: st) n G M Q) : Wp E X k pc ls (vi b :: vi a :: st) n G M Q := by
  intro p l e s m args below meth c H locs lsA c1 c2 c3 c4 c5 c6
  refine lv_irem c1.1 c1.2.1 hd (fun q => by rw [i32_zero, i32_eq ⟨by omega, by omega⟩ R32_0] at q; omega) ?_
  rw [i32_rem ha ha2 hb hb2]
  exact h p l e s m args below meth c H locs lsA c1 c2 c3 c4 c5 c6
theorem w_lrem {E : EV} {X : MD} {k : KK} {pc : Nat} {ls : LV} {st : List AV} {n : Nat} {G : GG} {M : MM} {Q : PP}  {a b : Int} (hd : decode (mB X) pc = .ok (.lrem, 1)) (ha : 0 ≤ a) (ha2 : a < 9223372036854775808) (hb : 0 < b) (hb2 : b < 9223372036854775808) (h : Wp E X k (pc + 1) ls (vl (a % b) :: st) n G M Q) : Wp E X k pc ls (vl b :: vl a :: st) n G M Q := by
  intro p l e s m args below meth c H locs lsA c1 c2 c3 c4 c5 c6
  refine lv_lrem c1.1 c1.2.1 hd (fun q => by rw [i64_zero, i64_eq ⟨by omega, by omega⟩ ⟨by omega, by omega⟩] at q; omega) ?_
  rw [i64_rem ha ha2 hb hb2]
  exact h p l e s m args below meth c H locs lsA c1 c2 c3 c4 c5 c6
theorem w_ldiv {E : EV} {X : MD} {k : KK} {pc : Nat} {ls : LV} {st : List AV} {n : Nat} {G : GG} {M : MM} {Q : PP}  {a b : Int} (hd : decode (mB X) pc = .ok (.ldiv, 1)) (ha : 0 ≤ a) (ha2 : a < 9223372036854775808) (hb : 0 < b) (hb2 : b < 9223372036854775808) (h : Wp E X k (pc + 1) ls (vl (a / b) :: st) n G M Q) : Wp E X k pc ls (vl b :: vl a :: st) n G M Q := by
  intro p l e s m args below meth c H locs lsA c1 c2 c3 c4 c5 c6
  refine lv_ldiv c1.1 c1.2.1 hd (fun q => by rw [i64_zero, i64_eq ⟨by omega, by omega⟩ ⟨by omega, by omega⟩] at q; omega) ?_
  rw [i64_div ha ha2 hb hb2]
  exact h p l e s m args below meth c H locs lsA c1 c2 c3 c4 c5 c6
theorem w_ibin {E : EV} {X : MD} {k : KK} {pc : Nat} {ls : LV} {st : List AV} {n : Nat} {G : GG} {M : MM} {Q : PP}  {a b r : Int} {i : Instr} (hd : decode (mB X) pc = .ok (i, 1)) (hi : (i = .iand ∧ i32 a &&& i32 b = i32 r) ∨ (i = .ior ∧ i32 a ||| i32 b = i32 r) ∨ (i = .ixor ∧ i32 a ^^^ i32 b = i32 r) ∨ (i = .ishl ∧ i32 a <<< (i32 b &&& 31) = i32 r) ∨ (i = .ishr ∧ i32 a >>> (i32 b &&& 31) = i32 r) ∨ (i = .iushr ∧ ((i32 a).toUInt32 >>> ((i32 b).toUInt32 &&& Int32.toUInt32 31)).toInt32 = i32 r)) (h : Wp E X k (pc + 1) ls (vi r :: st) n G M Q) : Wp E X k pc ls (vi b :: vi a :: st) n G M Q := by
  intro p l e s m args below meth c H locs lsA c1 c2 c3 c4 c5 c6
  have h9 := h p l e s m args below meth c H locs lsA c1 c2 c3 c4 c5 c6
  rcases hi with ⟨rfl, e1⟩ | ⟨rfl, e1⟩ | ⟨rfl, e1⟩ | ⟨rfl, e1⟩ | ⟨rfl, e1⟩ | ⟨rfl, e1⟩
  · refine lv_iand c1.1 c1.2.1 hd ?_
    rw [e1]; exact h9
  · refine lv_ior c1.1 c1.2.1 hd ?_
    rw [e1]; exact h9
  · refine lv_ixor c1.1 c1.2.1 hd ?_
    rw [e1]; exact h9
  · refine lv_ishl c1.1 c1.2.1 hd ?_
    rw [e1]; exact h9
  · refine lv_ishr c1.1 c1.2.1 hd ?_
    rw [e1]; exact h9
  · exact lv_iushr c1.1 c1.2.1 hd e1 h9
theorem w_i2l {E : EV} {X : MD} {k : KK} {pc : Nat} {ls : LV} {st : List AV} {n : Nat} {G : GG} {M : MM} {Q : PP}  {a : Int} (hd : decode (mB X) pc = .ok (.i2l, 1)) (ha : R32 a) (h : Wp E X k (pc + 1) ls (vl a :: st) n G M Q) : Wp E X k pc ls (vi a :: st) n G M Q := by
  intro p l e s m args below meth c H locs lsA c1 c2 c3 c4 c5 c6
  exact lv_i2l c1.1 c1.2.1 hd (i32_l ha) (h p l e s m args below meth c H locs lsA c1 c2 c3 c4 c5 c6)
theorem w_l2i {E : EV} {X : MD} {k : KK} {pc : Nat} {ls : LV} {st : List AV} {n : Nat} {G : GG} {M : MM} {Q : PP}  {a : Int} (hd : decode (mB X) pc = .ok (.l2i, 1)) (h : Wp E X k (pc + 1) ls (vi a :: st) n G M Q) : Wp E X k pc ls (vl a :: st) n G M Q := by
  intro p l e s m args below meth c H locs lsA c1 c2 c3 c4 c5 c6
  exact lv_l2i c1.1 c1.2.1 hd (i64_i a) (h p l e s m args below meth c H locs lsA c1 c2 c3 c4 c5 c6)
theorem w_i2b {E : EV} {X : MD} {k : KK} {pc : Nat} {ls : LV} {st : List AV} {n : Nat} {G : GG} {M : MM} {Q : PP}  {a r : Int} (hd : decode (mB X) pc = .ok (.i2b, 1)) (hr : (i32 a).toInt8.toInt32 = i32 r) (h : Wp E X k (pc + 1) ls (vi r :: st) n G M Q) : Wp E X k pc ls (vi a :: st) n G M Q := by
  intro p l e s m args below meth c H locs lsA c1 c2 c3 c4 c5 c6
  exact lv_i2b c1.1 c1.2.1 hd hr (h p l e s m args below meth c H locs lsA c1 c2 c3 c4 c5 c6)
theorem w_i2s {E : EV} {X : MD} {k : KK} {pc : Nat} {ls : LV} {st : List AV} {n : Nat} {G : GG} {M : MM} {Q : PP}  {a r : Int} (hd : decode (mB X) pc = .ok (.i2s, 1)) (hr : (i32 a).toInt16.toInt32 = i32 r) (h : Wp E X k (pc + 1) ls (vi r :: st) n G M Q) : Wp E X k pc ls (vi a :: st) n G M Q := by
  intro p l e s m args below meth c H locs lsA c1 c2 c3 c4 c5 c6
  exact lv_i2s c1.1 c1.2.1 hd hr (h p l e s m args below meth c H locs lsA c1 c2 c3 c4 c5 c6)
theorem cvv_c1 {E : EV} {v : AV} (h : isL (some v) = false) : (cvv E v).category = 1 := by
  rcases lv_cat (cvv E v) with q | q
  · exact q
  · rw [cvv_cat2 q] at h; cases h
theorem w_dup {E : EV} {X : MD} {k : KK} {pc : Nat} {ls : LV} {st : List AV} {n : Nat} {G : GG} {M : MM} {Q : PP}  {v : AV} (hd : decode (mB X) pc = .ok (.dup, 1)) (hv : isL (some v) = false := by rfl) (h : Wp E X k (pc + 1) ls (v :: v :: st) n G M Q) : Wp E X k pc ls (v :: st) n G M Q := by
  intro p l e s m args below meth c H locs lsA c1 c2 c3 c4 c5 c6
  exact lv_dup c1.1 c1.2.1 hd (cvv_c1 hv) (h p l e s m args below meth c H locs lsA c1 c2 c3 c4 c5 c6)
theorem w_pop {E : EV} {X : MD} {k : KK} {pc : Nat} {ls : LV} {st : List AV} {n : Nat} {G : GG} {M : MM} {Q : PP}  {v : AV} (hd : decode (mB X) pc = .ok (.pop, 1)) (hv : isL (some v) = false := by rfl) (h : Wp E X k (pc + 1) ls st n G M Q) : Wp E X k pc ls (v :: st) n G M Q := by
  intro p l e s m args below meth c H locs lsA c1 c2 c3 c4 c5 c6
  exact lv_pop c1.1 c1.2.1 hd (cvv_c1 hv) (h p l e s m args below meth c H locs lsA c1 c2 c3 c4 c5 c6)
theorem w_dup2 {E : EV} {X : MD} {k : KK} {pc : Nat} {ls : LV} {st : List AV} {n : Nat} {G : GG} {M : MM} {Q : PP}  {v w : AV} (hd : decode (mB X) pc = .ok (.dup2, 1)) (hv : isL (some v) = false := by rfl) (hw : isL (some w) = false := by rfl) (h : Wp E X k (pc + 1) ls (v :: w :: v :: w :: st) n G M Q) : Wp E X k pc ls (v :: w :: st) n G M Q := by
  intro p l e s m args below meth c H locs lsA c1 c2 c3 c4 c5 c6
  exact lv_dup2_11 c1.1 c1.2.1 hd (cvv_c1 hv) (cvv_c1 hw) (h p l e s m args below meth c H locs lsA c1 c2 c3 c4 c5 c6)
theorem w_goto {E : EV} {X : MD} {k : KK} {pc : Nat} {ls : LV} {st : List AV} {n : Nat} {G : GG} {M : MM} {Q : PP}  {off : Int} {tgt : Nat} (hd : decode (mB X) pc = .ok (.goto off, 3)) (ht : (pc : Int) + off = (tgt : Int)) (h : Wp E X k tgt ls st n G M Q) : Wp E X k pc ls st n G M Q := by
  intro p l e s m args below meth c H locs lsA c1 c2 c3 c4 c5 c6
  exact lv_goto c1.1 c1.2.1 hd ht (h p l e s m args below meth c H locs lsA c1 c2 c3 c4 c5 c6)
theorem w_if_eq {E : EV} {X : MD} {k : KK} {pc : Nat} {ls : LV} {st : List AV} {n : Nat} {G : GG} {M : MM} {Q : PP} {off : Int} {tgt : Nat} {a : Int} (hd : decode (mB X) pc = .ok (.ifCond .eq off, 3)) (ht : (pc : Int) + off = (tgt : Int)) (ha : R32 a) (kt : (a = 0) → Wp E X k tgt ls st n G M Q) (kf : ¬ (a = 0) → Wp E X k (pc + 3) ls st n G M Q) : Wp E X k pc ls (vi a :: st) n G M Q := by
  intro p l e s m args below meth c H locs lsA c1 c2 c3 c4 c5 c6
  refine lv_if_eq c1.1 c1.2.1 hd ht (fun q => ?_) (fun q => ?_)
  · exact kt ((i32_eq ha R32_0).mp (by rw [← i32_zero]; exact q)) p l e s m args below meth c H locs lsA c1 c2 c3 c4 c5 c6
  · exact kf (fun z => q (by rw [i32_zero]; exact (i32_eq ha R32_0).mpr z)) p l e s m args below meth c H locs lsA c1 c2 c3 c4 c5 c6
theorem w_icmp_eq {E : EV} {X : MD} {k : KK} {pc : Nat} {ls : LV} {st : List AV} {n : Nat} {G : GG} {M : MM} {Q : PP} {off : Int} {tgt : Nat} {a b : Int} (hd : decode (mB X) pc = .ok (.if_icmp .eq off, 3)) (ht : (pc : Int) + off = (tgt : Int)) (ha : R32 a) (hb : R32 b) (kt : (a = b) → Wp E X k tgt ls st n G M Q) (kf : ¬ (a = b) → Wp E X k (pc + 3) ls st n G M Q) : Wp E X k pc ls (vi b :: vi a :: st) n G M Q := by
  intro p l e s m args below meth c H locs lsA c1 c2 c3 c4 c5 c6
  refine lv_icmp_eq c1.1 c1.2.1 hd ht (fun q => ?_) (fun q => ?_)
  · exact kt ((i32_eq ha hb).mp q) p l e s m args below meth c H locs lsA c1 c2 c3 c4 c5 c6
  · exact kf (fun z => q ((i32_eq ha hb).mpr z)) p l e s m args below meth c H locs lsA c1 c2 c3 c4 c5 c6
theorem w_if_ne {E : EV} {X : MD} {k : KK} {pc : Nat} {ls : LV} {st : List AV} {n : Nat} {G : GG} {M : MM} {Q : PP} {off : Int} {tgt : Nat} {a : Int} (hd : decode (mB X) pc = .ok (.ifCond .ne off, 3)) (ht : (pc : Int) + off = (tgt : Int)) (ha : R32 a) (kt : (a ≠ 0) → Wp E X k tgt ls st n G M Q) (kf : ¬ (a ≠ 0) → Wp E X k (pc + 3) ls st n G M Q) : Wp E X k pc ls (vi a :: st) n G M Q := by
  intro p l e s m args below meth c H locs lsA c1 c2 c3 c4 c5 c6
  refine lv_if_ne c1.1 c1.2.1 hd ht (fun q => ?_) (fun q => ?_)
  · exact kt ((not_congr (i32_eq ha R32_0)).mp (by rw [← i32_zero]; exact q)) p l e s m args below meth c H locs lsA c1 c2 c3 c4 c5 c6
  · exact kf (fun z => z ((i32_eq ha R32_0).mp (by rw [← i32_zero]; exact q))) p l e s m args below meth c H locs lsA c1 c2 c3 c4 c5 c6
theorem w_icmp_ne {E : EV} {X : MD} {k : KK} {pc : Nat} {ls : LV} {st : List AV} {n : Nat} {G : GG} {M : MM} {Q : PP} {off : Int} {tgt : Nat} {a b : Int} (hd : decode (mB X) pc = .ok (.if_icmp .ne off, 3)) (ht : (pc : Int) + off = (tgt : Int)) (ha : R32 a) (hb : R32 b) (kt : (a ≠ b) → Wp E X k tgt ls st n G M Q) (kf : ¬ (a ≠ b) → Wp E X k (pc + 3) ls st n G M Q) : Wp E X k pc ls (vi b :: vi a :: st) n G M Q := by
  intro p l e s m args below meth c H locs lsA c1 c2 c3 c4 c5 c6
  refine lv_icmp_ne c1.1 c1.2.1 hd ht (fun q => ?_) (fun q => ?_)
  · exact kt ((not_congr (i32_eq ha hb)).mp q) p l e s m args below meth c H locs lsA c1 c2 c3 c4 c5 c6
  · exact kf (fun z => z ((i32_eq ha hb).mp q)) p l e s m args below meth c H locs lsA c1 c2 c3 c4 c5 c6
theorem w_if_lt {E : EV} {X : MD} {k : KK} {pc : Nat} {ls : LV} {st : List AV} {n : Nat} {G : GG} {M : MM} {Q : PP} {off : Int} {tgt : Nat} {a : Int} (hd : decode (mB X) pc = .ok (.ifCond .lt off, 3)) (ht : (pc : Int) + off = (tgt : Int)) (ha : R32 a) (kt : (a < 0) → Wp E X k tgt ls st n G M Q) (kf : ¬ (a < 0) → Wp E X k (pc + 3) ls st n G M Q) : Wp E X k pc ls (vi a :: st) n G M Q := by
  intro p l e s m args below meth c H locs lsA c1 c2 c3 c4 c5 c6
  refine lv_if_lt c1.1 c1.2.1 hd ht (fun q => ?_) (fun q => ?_)
  · exact kt ((i32_lt ha R32_0).mp (by rw [← i32_zero]; exact q)) p l e s m args below meth c H locs lsA c1 c2 c3 c4 c5 c6
  · exact kf (fun z => q (by rw [i32_zero]; exact (i32_lt ha R32_0).mpr z)) p l e s m args below meth c H locs lsA c1 c2 c3 c4 c5 c6
theorem w_icmp_lt {E : EV} {X : MD} {k : KK} {pc : Nat} {ls : LV} {st : List AV} {n : Nat} {G : GG} {M : MM} {Q : PP} {off : Int} {tgt : Nat} {a b : Int} (hd : decode (mB X) pc = .ok (.if_icmp .lt off, 3)) (ht : (pc : Int) + off = (tgt : Int)) (ha : R32 a) (hb : R32 b) (kt : (a < b) → Wp E X k tgt ls st n G M Q) (kf : ¬ (a < b) → Wp E X k (pc + 3) ls st n G M Q) : Wp E X k pc ls (vi b :: vi a :: st) n G M Q := by
  intro p l e s m args below meth c H locs lsA c1 c2 c3 c4 c5 c6
  refine lv_icmp_lt c1.1 c1.2.1 hd ht (fun q => ?_) (fun q => ?_)
  · exact kt ((i32_lt ha hb).mp q) p l e s m args below meth c H locs lsA c1 c2 c3 c4 c5 c6
  · exact kf (fun z => q ((i32_lt ha hb).mpr z)) p l e s m args below meth c H locs lsA c1 c2 c3 c4 c5 c6
theorem w_if_ge {E : EV} {X : MD} {k : KK} {pc : Nat} {ls : LV} {st : List AV} {n : Nat} {G : GG} {M : MM} {Q : PP} {off : Int} {tgt : Nat} {a : Int} (hd : decode (mB X) pc = .ok (.ifCond .ge off, 3)) (ht : (pc : Int) + off = (tgt : Int)) (ha : R32 a) (kt : (0 ≤ a) → Wp E X k tgt ls st n G M Q) (kf : ¬ (0 ≤ a) → Wp E X k (pc + 3) ls st n G M Q) : Wp E X k pc ls (vi a :: st) n G M Q := by
  intro p l e s m args below meth c H locs lsA c1 c2 c3 c4 c5 c6
  refine lv_if_ge c1.1 c1.2.1 hd ht (fun q => ?_) (fun q => ?_)
  · exact kt ((i32_le R32_0 ha).mp (by rw [← i32_zero]; exact q)) p l e s m args below meth c H locs lsA c1 c2 c3 c4 c5 c6
  · exact kf (fun z => q (by rw [i32_zero]; exact (i32_le R32_0 ha).mpr z)) p l e s m args below meth c H locs lsA c1 c2 c3 c4 c5 c6
theorem w_icmp_ge {E : EV} {X : MD} {k : KK} {pc : Nat} {ls : LV} {st : List AV} {n : Nat} {G : GG} {M : MM} {Q : PP} {off : Int} {tgt : Nat} {a b : Int} (hd : decode (mB X) pc = .ok (.if_icmp .ge off, 3)) (ht : (pc : Int) + off = (tgt : Int)) (ha : R32 a) (hb : R32 b) (kt : (b ≤ a) → Wp E X k tgt ls st n G M Q) (kf : ¬ (b ≤ a) → Wp E X k (pc + 3) ls st n G M Q) : Wp E X k pc ls (vi b :: vi a :: st) n G M Q := by
  intro p l e s m args below meth c H locs lsA c1 c2 c3 c4 c5 c6
  refine lv_icmp_ge c1.1 c1.2.1 hd ht (fun q => ?_) (fun q => ?_)
  · exact kt ((i32_le hb ha).mp q) p l e s m args below meth c H locs lsA c1 c2 c3 c4 c5 c6
  · exact kf (fun z => q ((i32_le hb ha).mpr z)) p l e s m args below meth c H locs lsA c1 c2 c3 c4 c5 c6
theorem w_if_gt {E : EV} {X : MD} {k : KK} {pc : Nat} {ls : LV} {st : List AV} {n : Nat} {G : GG} {M : MM} {Q : PP} {off : Int} {tgt : Nat} {a : Int} (hd : decode (mB X) pc = .ok (.ifCond .gt off, 3)) (ht : (pc : Int) + off = (tgt : Int)) (ha : R32 a) (kt : (0 < a) → Wp E X k tgt ls st n G M Q) (kf : ¬ (0 < a) → Wp E X k (pc + 3) ls st n G M Q) : Wp E X k pc ls (vi a :: st) n G M Q := by
  intro p l e s m args below meth c H locs lsA c1 c2 c3 c4 c5 c6
  refine lv_if_gt c1.1 c1.2.1 hd ht (fun q => ?_) (fun q => ?_)
  · exact kt ((i32_lt R32_0 ha).mp (by rw [← i32_zero]; exact q)) p l e s m args below meth c H locs lsA c1 c2 c3 c4 c5 c6
  · exact kf (fun z => q (by rw [i32_zero]; exact (i32_lt R32_0 ha).mpr z)) p l e s m args below meth c H locs lsA c1 c2 c3 c4 c5 c6
theorem w_icmp_gt {E : EV} {X : MD} {k : KK} {pc : Nat} {ls : LV} {st : List AV} {n : Nat} {G : GG} {M : MM} {Q : PP} {off : Int} {tgt : Nat} {a b : Int} (hd : decode (mB X) pc = .ok (.if_icmp .gt off, 3)) (ht : (pc : Int) + off = (tgt : Int)) (ha : R32 a) (hb : R32 b) (kt : (b < a) → Wp E X k tgt ls st n G M Q) (kf : ¬ (b < a) → Wp E X k (pc + 3) ls st n G M Q) : Wp E X k pc ls (vi b :: vi a :: st) n G M Q := by
  intro p l e s m args below meth c H locs lsA c1 c2 c3 c4 c5 c6
  refine lv_icmp_gt c1.1 c1.2.1 hd ht (fun q => ?_) (fun q => ?_)
  · exact kt ((i32_lt hb ha).mp q) p l e s m args below meth c H locs lsA c1 c2 c3 c4 c5 c6
  · exact kf (fun z => q ((i32_lt hb ha).mpr z)) p l e s m args below meth c H locs lsA c1 c2 c3 c4 c5 c6
theorem w_if_le {E : EV} {X : MD} {k : KK} {pc : Nat} {ls : LV} {st : List AV} {n : Nat} {G : GG} {M : MM} {Q : PP} {off : Int} {tgt : Nat} {a : Int} (hd : decode (mB X) pc = .ok (.ifCond .le off, 3)) (ht : (pc : Int) + off = (tgt : Int)) (ha : R32 a) (kt : (a ≤ 0) → Wp E X k tgt ls st n G M Q) (kf : ¬ (a ≤ 0) → Wp E X k (pc + 3) ls st n G M Q) : Wp E X k pc ls (vi a :: st) n G M Q := by
  intro p l e s m args below meth c H locs lsA c1 c2 c3 c4 c5 c6
  refine lv_if_le c1.1 c1.2.1 hd ht (fun q => ?_) (fun q => ?_)
  · exact kt ((i32_le ha R32_0).mp (by rw [← i32_zero]; exact q)) p l e s m args below meth c H locs lsA c1 c2 c3 c4 c5 c6
  · exact kf (fun z => q (by rw [i32_zero]; exact (i32_le ha R32_0).mpr z)) p l e s m args below meth c H locs lsA c1 c2 c3 c4 c5 c6
theorem w_icmp_le {E : EV} {X : MD} {k : KK} {pc : Nat} {ls : LV} {st : List AV} {n : Nat} {G : GG} {M : MM} {Q : PP} {off : Int} {tgt : Nat} {a b : Int} (hd : decode (mB X) pc = .ok (.if_icmp .le off, 3)) (ht : (pc : Int) + off = (tgt : Int)) (ha : R32 a) (hb : R32 b) (kt : (a ≤ b) → Wp E X k tgt ls st n G M Q) (kf : ¬ (a ≤ b) → Wp E X k (pc + 3) ls st n G M Q) : Wp E X k pc ls (vi b :: vi a :: st) n G M Q := by
  intro p l e s m args below meth c H locs lsA c1 c2 c3 c4 c5 c6
  refine lv_icmp_le c1.1 c1.2.1 hd ht (fun q => ?_) (fun q => ?_)
  · exact kt ((i32_le ha hb).mp q) p l e s m args below meth c H locs lsA c1 c2 c3 c4 c5 c6
  · exact kf (fun z => q ((i32_le ha hb).mpr z)) p l e s m args below meth c H locs lsA c1 c2 c3 c4 c5 c6
theorem w_ifB_eq {E : EV} {X : MD} {k : KK} {pc : Nat} {ls : LV} {st : List AV} {n : Nat} {G : GG} {M : MM} {Q : PP} {off : Int} {tgt : Nat} {b : Bool} (hd : decode (mB X) pc = .ok (.ifCond .eq off, 3)) (ht : (pc : Int) + off = (tgt : Int)) (kt : b = false → Wp E X k tgt ls st n G M Q) (kf : b = true → Wp E X k (pc + 3) ls st n G M Q) : Wp E X k pc ls (vi (bi b) :: st) n G M Q :=
  w_if_eq hd ht (R32_bi b) (fun q => kt (by cases b <;> simp_all [bi])) (fun q => kf (by cases b <;> simp_all [bi]))
theorem w_ifB_ne {E : EV} {X : MD} {k : KK} {pc : Nat} {ls : LV} {st : List AV} {n : Nat} {G : GG} {M : MM} {Q : PP} {off : Int} {tgt : Nat} {b : Bool} (hd : decode (mB X) pc = .ok (.ifCond .ne off, 3)) (ht : (pc : Int) + off = (tgt : Int)) (kt : b = true → Wp E X k tgt ls st n G M Q) (kf : b = false → Wp E X k (pc + 3) ls st n G M Q) : Wp E X k pc ls (vi (bi b) :: st) n G M Q :=
  w_if_ne hd ht (R32_bi b) (fun q => kt (by cases b <;> simp_all [bi])) (fun q => kf (by cases b <;> simp_all [bi]))
theorem w_tabIn {E : EV} {X : MD} {k : KK} {pc : Nat} {ls : LV} {st : List AV} {n : Nat} {G : GG} {M : MM} {Q : PP} {dflt lo hi : Int} {offs : Array Int} {len : Nat} {z off : Int} {tgt : Nat} (hd : decode (mB X) pc = .ok (.tableswitch dflt lo hi offs, len)) (hz : R32 z) (h1 : lo ≤ z) (h2 : z ≤ hi) (ho : offs[(z - lo).toNat]? = some off) (ht : (pc : Int) + off = (tgt : Int)) (h : Wp E X k tgt ls st n G M Q) : Wp E X k pc ls (vi z :: st) n G M Q := by
  intro p l e s m args below meth c H locs lsA c1 c2 c3 c4 c5 c6
  exact lv_tableIn c1.1 c1.2.1 hd (by rw [i32_toInt hz]; omega) (by rw [i32_toInt hz]; omega) (by rw [i32_toInt hz]; exact ho) ht (h p l e s m args below meth c H locs lsA c1 c2 c3 c4 c5 c6)
theorem w_tabOut {E : EV} {X : MD} {k : KK} {pc : Nat} {ls : LV} {st : List AV} {n : Nat} {G : GG} {M : MM} {Q : PP} {dflt lo hi : Int} {offs : Array Int} {len : Nat} {z : Int} {tgt : Nat} (hd : decode (mB X) pc = .ok (.tableswitch dflt lo hi offs, len)) (hz : R32 z) (h1 : z < lo ∨ hi < z) (ht : (pc : Int) + dflt = (tgt : Int)) (h : Wp E X k tgt ls st n G M Q) : Wp E X k pc ls (vi z :: st) n G M Q := by
  intro p l e s m args below meth c H locs lsA c1 c2 c3 c4 c5 c6
  exact lv_tableOut c1.1 c1.2.1 hd (by rw [i32_toInt hz]; exact h1) ht (h p l e s m args below meth c H locs lsA c1 c2 c3 c4 c5 c6)
