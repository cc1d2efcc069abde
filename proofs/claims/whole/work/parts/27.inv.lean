/-! ===== WHAT BOTH SIDES SHOW: a pure state, and how each side holds it ===== -/
abbrev PS : Type := (Int → Int) × (Int → Int) × (Int → Int) × (Int) × (Int → Int) × (SS) × (Nat) × (Nat → SS) × (Int → Int) × (Int → SS) × (Int) × (Int) × (Int) × (Int → Int)
def PS.ln (p : PS) : Int → Int := p.1
def PS.sz (p : PS) : Int → Int := p.2.1
def PS.it (p : PS) : Int → Int := p.2.2.1
def PS.tn (p : PS) : Int := p.2.2.2.1
def PS.tp (p : PS) : Int → Int := p.2.2.2.2.1
def PS.S (p : PS) : SS := p.2.2.2.2.2.1
def PS.u (p : PS) : Nat := p.2.2.2.2.2.2.1
def PS.U (p : PS) : Nat → SS := p.2.2.2.2.2.2.2.1
def PS.fl (p : PS) : Int → Int := p.2.2.2.2.2.2.2.2.1
def PS.I (p : PS) : Int → SS := p.2.2.2.2.2.2.2.2.2.1
def PS.lf (p : PS) : Int := p.2.2.2.2.2.2.2.2.2.2.1
def PS.fd (p : PS) : Int := p.2.2.2.2.2.2.2.2.2.2.2.1
def PS.tr (p : PS) : Int := p.2.2.2.2.2.2.2.2.2.2.2.2.1
def PS.tb (p : PS) : Int → Int := p.2.2.2.2.2.2.2.2.2.2.2.2.2
/-- nothing beyond the sky's numbers -/
def OUT (S : SS) : Prop := ∀ q : Int, (q < 0 ∨ 45 ≤ q) → S q = 0
def GS (S : SS) : Prop := OUT S ∧ SOK (10 * S 3) S ∧ S 3 ≤ 999
def POK (p : PS) : Prop := (∀ r : Int, 0 ≤ r → r < 8 → (-1 ≤ p.ln r ∧ p.ln r ≤ 2) ∧ 0 ≤ p.sz r ∧ p.sz r ≤ 40) ∧ (0 ≤ p.tn ∧ p.tn ≤ 100) ∧ (GS p.S) ∧ (p.u ≤ 24) ∧ (∀ j, j < p.u → GS (p.U j) ∧ 1 ≤ p.U j 0) ∧ (p.S 0 = 0 → p.u = 0 ∧ ∀ k : Int, 0 ≤ k → k < 2 → p.fl k = 0) ∧ (∀ k : Int, 0 ≤ k → k < 2 → p.fl k = 0 ∨ (p.fl k = 1 ∧ GS (p.I k) ∧ 1 ≤ p.I k 0)) ∧ (0 ≤ p.tr ∧ p.tr ≤ 16)
theorem POK.hl {p : PS} (h : POK p) : ∀ r : Int, 0 ≤ r → r < 8 → (-1 ≤ p.ln r ∧ p.ln r ≤ 2) ∧ 0 ≤ p.sz r ∧ p.sz r ≤ 40 := h.1
theorem POK.ht {p : PS} (h : POK p) : 0 ≤ p.tn ∧ p.tn ≤ 100 := h.2.1
theorem POK.hs {p : PS} (h : POK p) : GS p.S := h.2.2.1
theorem POK.hu {p : PS} (h : POK p) : p.u ≤ 24 := h.2.2.2.1
theorem POK.hU {p : PS} (h : POK p) : ∀ j, j < p.u → GS (p.U j) ∧ 1 ≤ p.U j 0 := h.2.2.2.2.1
theorem POK.h0 {p : PS} (h : POK p) : p.S 0 = 0 → p.u = 0 ∧ ∀ k : Int, 0 ≤ k → k < 2 → p.fl k = 0 := h.2.2.2.2.2.1
theorem POK.hI {p : PS} (h : POK p) : ∀ k : Int, 0 ≤ k → k < 2 → p.fl k = 0 ∨ (p.fl k = 1 ∧ GS (p.I k) ∧ 1 ≤ p.I k 0) := h.2.2.2.2.2.2.1
theorem POK.hr {p : PS} (h : POK p) : 0 ≤ p.tr ∧ p.tr ≤ 16 := h.2.2.2.2.2.2.2
def MI (M : MM) (p : PS) : Prop := (M 239 = p.ln) ∧ (M 240 = p.sz) ∧ (M 241 = p.it) ∧ (M 238 8 = p.tn) ∧ (M 245 = p.tp) ∧ (M 243 = p.S) ∧ (M 238 13 = (if p.S 0 = 0 then 0 else 1)) ∧ (M 238 15 = (p.u : Int)) ∧ (∀ j : Nat, j < 24 → ∀ q : Int, 0 ≤ q → q < 45 → M 246 (45 * (j : Int) + q) = p.U j q) ∧ (∀ k : Int, 0 ≤ k → k < 2 → M 248 (46 * k) = p.fl k) ∧ (∀ k : Int, 0 ≤ k → k < 2 → ∀ q : Int, 0 ≤ q → q < 45 → M 248 (46 * k + 1 + q) = p.I k q) ∧ (M 238 12 = p.lf) ∧ (M 238 4 = p.fd) ∧ (M 238 19 = p.tr) ∧ (M 249 = p.tb)
theorem MI.ln {M : MM} {p : PS} (h : MI M p) : M 239 = p.ln := h.1
theorem MI.sz {M : MM} {p : PS} (h : MI M p) : M 240 = p.sz := h.2.1
theorem MI.it {M : MM} {p : PS} (h : MI M p) : M 241 = p.it := h.2.2.1
theorem MI.tn {M : MM} {p : PS} (h : MI M p) : M 238 8 = p.tn := h.2.2.2.1
theorem MI.tp {M : MM} {p : PS} (h : MI M p) : M 245 = p.tp := h.2.2.2.2.1
theorem MI.S {M : MM} {p : PS} (h : MI M p) : M 243 = p.S := h.2.2.2.2.2.1
theorem MI.is {M : MM} {p : PS} (h : MI M p) : M 238 13 = (if p.S 0 = 0 then 0 else 1) := h.2.2.2.2.2.2.1
theorem MI.u {M : MM} {p : PS} (h : MI M p) : M 238 15 = (p.u : Int) := h.2.2.2.2.2.2.2.1
theorem MI.U {M : MM} {p : PS} (h : MI M p) : ∀ j : Nat, j < 24 → ∀ q : Int, 0 ≤ q → q < 45 → M 246 (45 * (j : Int) + q) = p.U j q := h.2.2.2.2.2.2.2.2.1
theorem MI.fl {M : MM} {p : PS} (h : MI M p) : ∀ k : Int, 0 ≤ k → k < 2 → M 248 (46 * k) = p.fl k := h.2.2.2.2.2.2.2.2.2.1
theorem MI.I {M : MM} {p : PS} (h : MI M p) : ∀ k : Int, 0 ≤ k → k < 2 → ∀ q : Int, 0 ≤ q → q < 45 → M 248 (46 * k + 1 + q) = p.I k q := h.2.2.2.2.2.2.2.2.2.2.1
theorem MI.lf {M : MM} {p : PS} (h : MI M p) : M 238 12 = p.lf := h.2.2.2.2.2.2.2.2.2.2.2.1
theorem MI.fd {M : MM} {p : PS} (h : MI M p) : M 238 4 = p.fd := h.2.2.2.2.2.2.2.2.2.2.2.2.1
theorem MI.tr {M : MM} {p : PS} (h : MI M p) : M 238 19 = p.tr := h.2.2.2.2.2.2.2.2.2.2.2.2.2.1
theorem MI.tb {M : MM} {p : PS} (h : MI M p) : M 249 = p.tb := h.2.2.2.2.2.2.2.2.2.2.2.2.2.2
/-- where the class keeps the sky of act j, of u, when the next one goes to N -/
def atJ (N u j : Nat) : Nat := (N + 24 - u + j) % 24
def CI (M : MM) (p : PS) : Prop := (∀ r : Int, 0 ≤ r → r < 8 → M 2 r = p.ln r) ∧ (∀ r : Int, 0 ≤ r → r < 8 → M 3 r = p.sz r) ∧ (∀ j : Nat, j < 8 → ∀ i : Int, 0 ≤ i → i < 40 → M (5 + j) i = p.it (40 * (j : Int) + i)) ∧ (M 13 1 = p.tn) ∧ (∀ i : Int, 0 ≤ i → i < 100 → M 14 i = p.tp i) ∧ (SV M 23 p.S) ∧ (M 30 0 = (p.u : Int)) ∧ (∃ N : Nat, N < 24 ∧ M 30 3 = (N : Int) ∧ ∀ j, j < p.u → SV M (32 + 7 * atJ N p.u j) (p.U j)) ∧ (∀ k : Nat, k < 2 → (p.fl (k : Int) = 0 → M (224 + 7 * k) 0 = 0) ∧ (p.fl (k : Int) ≠ 0 → SV M (224 + 7 * k) (p.I (k : Int)))) ∧ (M 0 10 = p.lf) ∧ (M 0 11 = p.fd) ∧ (M 222 0 = p.tr) ∧ (∀ i : Int, 0 ≤ i → i < 16 → M 223 i = p.tb i) ∧ (M 16 3 = 0 ∧ ∀ f : Int, 0 ≤ f → f < 16 → M 22 f = 0)
theorem CI.ln {M : MM} {p : PS} (h : CI M p) : ∀ r : Int, 0 ≤ r → r < 8 → M 2 r = p.ln r := h.1
theorem CI.sz {M : MM} {p : PS} (h : CI M p) : ∀ r : Int, 0 ≤ r → r < 8 → M 3 r = p.sz r := h.2.1
theorem CI.it {M : MM} {p : PS} (h : CI M p) : ∀ j : Nat, j < 8 → ∀ i : Int, 0 ≤ i → i < 40 → M (5 + j) i = p.it (40 * (j : Int) + i) := h.2.2.1
theorem CI.tn {M : MM} {p : PS} (h : CI M p) : M 13 1 = p.tn := h.2.2.2.1
theorem CI.tp {M : MM} {p : PS} (h : CI M p) : ∀ i : Int, 0 ≤ i → i < 100 → M 14 i = p.tp i := h.2.2.2.2.1
theorem CI.S {M : MM} {p : PS} (h : CI M p) : SV M 23 p.S := h.2.2.2.2.2.1
theorem CI.u {M : MM} {p : PS} (h : CI M p) : M 30 0 = (p.u : Int) := h.2.2.2.2.2.2.1
theorem CI.U {M : MM} {p : PS} (h : CI M p) : ∃ N : Nat, N < 24 ∧ M 30 3 = (N : Int) ∧ ∀ j, j < p.u → SV M (32 + 7 * atJ N p.u j) (p.U j) := h.2.2.2.2.2.2.2.1
theorem CI.I {M : MM} {p : PS} (h : CI M p) : ∀ k : Nat, k < 2 → (p.fl (k : Int) = 0 → M (224 + 7 * k) 0 = 0) ∧ (p.fl (k : Int) ≠ 0 → SV M (224 + 7 * k) (p.I (k : Int))) := h.2.2.2.2.2.2.2.2.1
theorem CI.lf {M : MM} {p : PS} (h : CI M p) : M 0 10 = p.lf := h.2.2.2.2.2.2.2.2.2.1
theorem CI.fd {M : MM} {p : PS} (h : CI M p) : M 0 11 = p.fd := h.2.2.2.2.2.2.2.2.2.2.1
theorem CI.tr {M : MM} {p : PS} (h : CI M p) : M 222 0 = p.tr := h.2.2.2.2.2.2.2.2.2.2.2.1
theorem CI.tb {M : MM} {p : PS} (h : CI M p) : ∀ i : Int, 0 ≤ i → i < 16 → M 223 i = p.tb i := h.2.2.2.2.2.2.2.2.2.2.2.2.1
theorem CI.dr {M : MM} {p : PS} (h : CI M p) : M 16 3 = 0 ∧ ∀ f : Int, 0 ≤ f → f < 16 → M 22 f = 0 := h.2.2.2.2.2.2.2.2.2.2.2.2.2
/-- the class's run leaves the reference as it was, and the other way round -/
def Hi (M m : MM) : Prop := ∀ i : Nat, 238 ≤ i → m i = M i
def Lo (M m : MM) : Prop := ∀ i : Nat, i < 238 → m i = M i
theorem Hi.refl (M : MM) : Hi M M := fun _ _ => rfl
theorem Lo.refl (M : MM) : Lo M M := fun _ _ => rfl
theorem Hi.trans {M m m2 : MM} (h : Hi M m) (h2 : Hi m m2) : Hi M m2 := fun i hi => (h2 i hi).trans (h i hi)
theorem Lo.trans {M m m2 : MM} (h : Lo M m) (h2 : Lo m m2) : Lo M m2 := fun i hi => (h2 i hi).trans (h i hi)
theorem Hi.up {M m : MM} {b : Nat} {j v : Int} (h : Hi M m) (hb : b < 238) : Hi M (upM m b j v) := fun i hi => by rw [upM_cell (by omega)]; exact h i hi
theorem Lo.up {M m : MM} {b : Nat} {j v : Int} (h : Lo M m) (hb : 238 ≤ b) : Lo M (upM m b j v) := fun i hi => by rw [upM_cell (by omega)]; exact h i hi
theorem Lo.cp {M m : MM} {a b : Nat} {sp dp z : Int} (h : Lo M m) (hb : 238 ≤ b) : Lo M (cpM m a b sp dp z) := fun i hi => by rw [cpM_cell (by omega)]; exact h i hi
theorem FrN.lo {M m : MM} (h : FrN M m) : Lo M m := fun i hi => h i (by omega)
theorem Fr.hi {a : Nat} {M m : MM} (h : Fr a M m) (ha : a + 6 < 238) : Hi M m := fun i hi => h i (by omega)
/-- nothing that lasts has changed -/
def Scr (M m : MM) : Prop := ∀ i : Nat, (i < 202 ∨ 222 ≤ i) → m i = M i
theorem Fr.scr {a : Nat} {M m : MM} (h : Fr a M m) (ha : 202 ≤ a ∧ a + 6 < 222) : Scr M m := fun i hi => h i (by omega)
theorem FrC.scr {M m : MM} (h : FrC M m) : Scr M m := fun i hi => h i (by omega) (by omega)
theorem Scr.refl (M : MM) : Scr M M := fun _ _ => rfl
theorem Scr.hi {M m : MM} (h : Scr M m) : Hi M m := fun i hi => h i (by omega)
theorem CI.same {M m : MM} {p : PS} (h : CI M p) (e : ∀ i : Nat, i < 238 → ¬ (202 ≤ i ∧ i < 222) → m i = M i) : CI m p := by
  refine ⟨?_, ?_, ?_, ?_, ?_, ?_, ?_, ?_, ?_, ?_, ?_, ?_, ?_, ?_⟩
  · intro r a b; exact by rw [e 2 (by omega) (by omega)]; exact h.ln r a b
  · intro r a b; exact by rw [e 3 (by omega) (by omega)]; exact h.sz r a b
  · intro j hj i a b; exact by rw [e (5 + j) (by omega) (by omega)]; exact h.it j hj i a b
  · exact by rw [e 13 (by omega) (by omega)]; exact h.tn
  · intro i a b; exact by rw [e 14 (by omega) (by omega)]; exact h.tp i a b
  · exact h.S.same (fun i a b => e i (by omega) (by omega))
  · exact by rw [e 30 (by omega) (by omega)]; exact h.u
  · skip
    obtain ⟨N, hN, h3, hj⟩ := h.U
    refine ⟨N, hN, by rw [e 30 (by omega) (by omega)]; exact h3, fun j hu => (hj j hu).same (fun i a b => e i ?_ ?_)⟩
    · have : atJ N p.u j < 24 := Nat.mod_lt _ (by decide)
      omega
    · have : atJ N p.u j < 24 := Nat.mod_lt _ (by decide)
      omega
  · intro k hk; exact ⟨fun hf => by rw [e _ (by omega) (by omega)]; exact (h.I k hk).1 hf, fun hf => ((h.I k hk).2 hf).same (fun i a b => e i (by omega) (by omega))⟩
  · exact by rw [e 0 (by omega) (by omega)]; exact h.lf
  · exact by rw [e 0 (by omega) (by omega)]; exact h.fd
  · exact by rw [e 222 (by omega) (by omega)]; exact h.tr
  · intro i a b; exact by rw [e 223 (by omega) (by omega)]; exact h.tb i a b
  · exact by rw [e 16 (by omega) (by omega), e 22 (by omega) (by omega)]; exact h.dr
theorem CI.scr {M m : MM} {p : PS} (h : CI M p) (e : Scr M m) : CI m p := h.same (fun i _ b => e i (by omega))
theorem CI.lo {M m : MM} {p : PS} (h : CI M p) (e : Lo M m) : CI m p := h.same (fun i a _ => e i a)
theorem CI.find {M : MM} {p : PS} {z : Int} (h : CI M p) : CI (upM M 0 11 z) (⟨p.ln, p.sz, p.it, p.tn, p.tp, p.S, p.u, p.U, p.fl, p.I, p.lf, z, p.tr, p.tb⟩ : PS) := by
  refine ⟨?_, ?_, ?_, ?_, ?_, ?_, ?_, ?_, ?_, ?_, ?_, ?_, ?_, ?_⟩
  · intro r a b; exact by rw [upM_cell (by omega)]; exact h.ln r a b
  · intro r a b; exact by rw [upM_cell (by omega)]; exact h.sz r a b
  · intro j hj i a b; exact by rw [upM_cell (by omega)]; exact h.it j hj i a b
  · exact by rw [upM_cell (by omega)]; exact h.tn
  · intro i a b; exact by rw [upM_cell (by omega)]; exact h.tp i a b
  · exact h.S.same (fun i a b => upM_cell (by omega))
  · exact by rw [upM_cell (by omega)]; exact h.u
  · skip
    obtain ⟨N, hN, h3, hj⟩ := h.U
    exact ⟨N, hN, by rw [upM_cell (by omega)]; exact h3, fun j hu => (hj j hu).same (fun i a b => upM_cell (by omega))⟩
  · intro k hk; exact ⟨fun hf => by rw [upM_cell (by omega)]; exact (h.I k hk).1 hf, fun hf => ((h.I k hk).2 hf).same (fun i a b => upM_cell (by omega))⟩
  · exact by rw [upM_ne (by omega)]; exact h.lf
  · exact by rw [upM_same]; rfl
  · exact by rw [upM_cell (by omega)]; exact h.tr
  · intro i a b; exact by rw [upM_cell (by omega)]; exact h.tb i a b
  · exact by rw [upM_cell (by omega), upM_cell (by omega)]; exact h.dr
theorem MI.same {M m : MM} {p : PS} (h : MI M p) (e : ∀ i : Nat, 239 ≤ i → i ≠ 242 → i ≠ 244 → i ≠ 247 → m i = M i) (e2 : ∀ k : Int, k < 9 ∨ 12 ≤ k → m 238 k = M 238 k) : MI m p := by
  refine ⟨?_, ?_, ?_, ?_, ?_, ?_, ?_, ?_, ?_, ?_, ?_, ?_, ?_, ?_, ?_⟩
  · exact by rw [e 239 (by omega) (by omega) (by omega) (by omega)]; exact h.ln
  · exact by rw [e 240 (by omega) (by omega) (by omega) (by omega)]; exact h.sz
  · exact by rw [e 241 (by omega) (by omega) (by omega) (by omega)]; exact h.it
  · exact by rw [e2 _ (by omega)]; exact h.tn
  · exact by rw [e 245 (by omega) (by omega) (by omega) (by omega)]; exact h.tp
  · exact by rw [e 243 (by omega) (by omega) (by omega) (by omega)]; exact h.S
  · exact by rw [e2 _ (by omega)]; exact h.is
  · exact by rw [e2 _ (by omega)]; exact h.u
  · exact by rw [e 246 (by omega) (by omega) (by omega) (by omega)]; exact h.U
  · exact by rw [e 248 (by omega) (by omega) (by omega) (by omega)]; exact h.fl
  · exact by rw [e 248 (by omega) (by omega) (by omega) (by omega)]; exact h.I
  · exact by rw [e2 _ (by omega)]; exact h.lf
  · exact by rw [e2 _ (by omega)]; exact h.fd
  · exact by rw [e2 _ (by omega)]; exact h.tr
  · exact by rw [e 249 (by omega) (by omega) (by omega) (by omega)]; exact h.tb
theorem MI.hi {M m : MM} {p : PS} (h : MI M p) (e : Hi M m) : MI m p := h.same (fun i a _ _ _ => e i (by omega)) (fun k _ => by rw [e 238 (by omega)])
theorem MI.find {M : MM} {p : PS} {z : Int} (h : MI M p) : MI (upM M 238 4 z) (⟨p.ln, p.sz, p.it, p.tn, p.tp, p.S, p.u, p.U, p.fl, p.I, p.lf, z, p.tr, p.tb⟩ : PS) := by
  refine ⟨?_, ?_, ?_, ?_, ?_, ?_, ?_, ?_, ?_, ?_, ?_, ?_, ?_, ?_, ?_⟩
  · exact by rw [upM_cell (by omega)]; exact h.ln
  · exact by rw [upM_cell (by omega)]; exact h.sz
  · exact by rw [upM_cell (by omega)]; exact h.it
  · exact by rw [upM_ne (by omega)]; exact h.tn
  · exact by rw [upM_cell (by omega)]; exact h.tp
  · exact by rw [upM_cell (by omega)]; exact h.S
  · exact by rw [upM_ne (by omega)]; exact h.is
  · exact by rw [upM_ne (by omega)]; exact h.u
  · exact by rw [upM_cell (by omega)]; exact h.U
  · exact by rw [upM_cell (by omega)]; exact h.fl
  · exact by rw [upM_cell (by omega)]; exact h.I
  · exact by rw [upM_ne (by omega)]; exact h.lf
  · exact by rw [upM_same]; rfl
  · exact by rw [upM_ne (by omega)]; exact h.tr
  · exact by rw [upM_cell (by omega)]; exact h.tb
theorem POK.find {p : PS} (h : POK p) (z : Int) : POK (⟨p.ln, p.sz, p.it, p.tn, p.tp, p.S, p.u, p.U, p.fl, p.I, p.lf, z, p.tr, p.tb⟩ : PS) := ⟨h.hl, h.ht, h.hs, h.hu, h.hU, h.h0, h.hI, h.hr⟩
/-- what a call answers and leaves, on each side -/
abbrev KC (M : MM) (r : Int × PS) : Int → MM → Prop := fun z m => z = r.1 ∧ CI m r.2 ∧ Hi M m
abbrev KM (M : MM) (r : Int × PS) : Int → MM → Prop := fun z m => z = r.1 ∧ MI m r.2 ∧ Lo M m
theorem KC.keep {M m : MM} {p : PS} {z : Int} {r : Int × PS} (h : CI M p) (e : Scr M m) (hr : (z, p) = r) : KC M r z m := by subst hr; exact ⟨rfl, h.scr e, e.hi⟩
theorem KC.stay {M : MM} {p : PS} {z : Int} {r : Int × PS} (h : CI M p) (hr : (z, p) = r) : KC M r z M := by subst hr; exact ⟨rfl, h, Hi.refl M⟩
theorem KC.stay' {M : MM} {p : PS} {z z' : Int} {r : Int × PS} (h : CI M p) (hz : z = z') (hr : (z', p) = r) : KC M r z M := by subst hz; exact KC.stay h hr
theorem KM.stay {M : MM} {p : PS} {z : Int} {r : Int × PS} (h : MI M p) (hr : (z, p) = r) : KM M r z M := by subst hr; exact ⟨rfl, h, Lo.refl M⟩
theorem KM.stay' {M : MM} {p : PS} {z z' : Int} {r : Int × PS} (h : MI M p) (hz : z = z') (hr : (z', p) = r) : KM M r z M := by subst hz; exact KM.stay h hr
theorem KC.keep' {M m : MM} {p : PS} {z z' : Int} {r : Int × PS} (h : CI M p) (e : Scr M m) (hz : z = z') (hr : (z', p) = r) : KC M r z m := by subst hz; exact KC.keep h e hr
theorem KC.find {M m : MM} {p : PS} {z w : Int} {r : Int × PS} (h : CI m p) (e : Hi M m) (hr : (z, (⟨p.ln, p.sz, p.it, p.tn, p.tp, p.S, p.u, p.U, p.fl, p.I, p.lf, w, p.tr, p.tb⟩ : PS)) = r) : KC M r z (upM m 0 11 w) := by subst hr; exact ⟨rfl, h.find, e.up (by omega)⟩
theorem KM.find {M m : MM} {p : PS} {z w : Int} {r : Int × PS} (h : MI m p) (e : Lo M m) (hr : (z, (⟨p.ln, p.sz, p.it, p.tn, p.tp, p.S, p.u, p.U, p.fl, p.I, p.lf, w, p.tr, p.tb⟩ : PS)) = r) : KM M r z (upM m 238 4 w) := by subst hr; exact ⟨rfl, h.find, e.up (by omega)⟩
/-! what the pure days leave alone -/
theorem clF_out {S : SS} {c q : Int} (h0 : 0 ≤ c) (h1 : c < 5) (hq : q < 0 ∨ 45 ≤ q) : clF S c q = S q := by
  unfold clF adR
  rw [if_neg (by omega), mvF_at]
  split
  · rfl
  · rw [if_neg (by omega), if_neg (by omega), if_neg (by omega)]
theorem clsF_out {S : SS} {q : Int} (hq : q < 0 ∨ 45 ≤ q) : ∀ n : Nat, n ≤ 5 → clsF S n q = S q
  | 0, _ => rfl
  | n + 1, h => by rw [clsF, clF_out (by omega) (by omega) hq, clsF_out hq n (by omega)]
theorem dyF_out {S : SS} {q : Int} (hn : S 0 ≤ 5) (hq : q < 0 ∨ 45 ≤ q) : dyF S q = S q := by
  unfold dyF
  rw [if_neg (by omega), clsF_out hq _ (by omega)]
theorem OUT_dy {S : SS} (hn : S 0 ≤ 5) (h : OUT S) : OUT (dyF S) := fun q hq => by rw [dyF_out hn hq]; exact h q hq
theorem OUT_dys {S : SS} (hn : S 0 ≤ 5) (h : OUT S) : ∀ n : Nat, OUT (dysF S n)
  | 0 => h
  | n + 1 => OUT_dy (by rw [dysF_low (by omega)]; exact hn) (OUT_dys hn h n)
theorem OUT_up {S : SS} {j v : Int} (h : OUT S) (hj : 0 ≤ j ∧ j < 45) : OUT (upS S j v) := fun q hq => by rw [upS_at, if_neg (by omega)]; exact h q hq
theorem GS.n {S : SS} (h : GS S) : 0 ≤ S 0 ∧ S 0 ≤ 5 := h.2.1.1
theorem GS.d {S : SS} (h : GS S) : 0 ≤ S 3 ∧ S 3 ≤ 999 := ⟨h.2.1.2.2.2.1, h.2.2⟩
theorem GS.ok {S : SS} (h : GS S) : SOK 9990 S := SOK_mono h.2.1 (by have := h.d; omega)
/-- copied back, the numbers are the old ones -/
theorem back_eq {M m : MM} {S T : SS} (hM : M 243 = S) (hS : OUT S) (hT : OUT T) (hm : ∀ q, m 243 q = T q) (ha : m 247 = cpM M 243 247 0 0 45 247) : cpM m 247 243 0 0 45 243 = S := by
  funext q
  unfold cpM
  by_cases h : 0 ≤ q ∧ q < 0 + 45
  · rw [if_pos ⟨rfl, h⟩, ha]
    unfold cpM
    rw [if_pos ⟨rfl, by omega, by omega⟩, hM]
    congr 1
    omega
  · rw [if_neg (fun w => h w.2), hm, hT q (by omega), hS q (by omega)]
