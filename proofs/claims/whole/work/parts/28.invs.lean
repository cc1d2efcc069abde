/-! ===== how one group of what lasts changes ===== -/
theorem CI.rows {M m : MM} {p : PS} {ln' : Int → Int} {sz' : Int → Int} {it' : Int → Int} (h : CI M p) (e : ∀ i : Nat, i < 238 → ¬ (202 ≤ i ∧ i < 222) → ¬ (i = 2 ∨ i = 3 ∨ (5 ≤ i ∧ i ≤ 12)) → m i = M i) (kln : ∀ r : Int, 0 ≤ r → r < 8 → m 2 r = ln' r) (ksz : ∀ r : Int, 0 ≤ r → r < 8 → m 3 r = sz' r) (kit : ∀ j : Nat, j < 8 → ∀ i : Int, 0 ≤ i → i < 40 → m (5 + j) i = it' (40 * (j : Int) + i)) : CI m (⟨ln', sz', it', p.tn, p.tp, p.S, p.u, p.U, p.fl, p.I, p.lf, p.fd, p.tr, p.tb⟩ : PS) := by
  refine ⟨?_, ?_, ?_, ?_, ?_, ?_, ?_, ?_, ?_, ?_, ?_, ?_, ?_, ?_⟩
  · exact kln
  · exact ksz
  · exact kit
  · exact by rw [e 13 (by omega) (by omega) (by omega)]; exact h.tn
  · intro i a b; exact by rw [e 14 (by omega) (by omega) (by omega)]; exact h.tp i a b
  · exact h.S.same (fun i a b => e i (by omega) (by omega) (by omega))
  · exact by rw [e 30 (by omega) (by omega) (by omega)]; exact h.u
  · skip
    obtain ⟨N, hN, h3, hj⟩ := h.U
    refine ⟨N, hN, by rw [e 30 (by omega) (by omega) (by omega)]; exact h3, fun j hu => (hj j hu).same (fun i a b => ?_)⟩
    have : atJ N p.u j < 24 := Nat.mod_lt _ (by decide)
    exact e i (by omega) (by omega) (by omega)
  · intro k hk; exact ⟨fun hf => by rw [e (224 + 7 * k) (by omega) (by omega) (by omega)]; exact (h.I k hk).1 hf, fun hf => ((h.I k hk).2 hf).same (fun i a b => e i (by omega) (by omega) (by omega))⟩
  · exact by rw [e 0 (by omega) (by omega) (by omega)]; exact h.lf
  · exact by rw [e 0 (by omega) (by omega) (by omega)]; exact h.fd
  · exact by rw [e 222 (by omega) (by omega) (by omega)]; exact h.tr
  · intro i a b; exact by rw [e 223 (by omega) (by omega) (by omega)]; exact h.tb i a b
  · exact by rw [e 16 (by omega) (by omega) (by omega), e 22 (by omega) (by omega) (by omega)]; exact h.dr
theorem CI.tape {M m : MM} {p : PS} {tn' : Int} {tp' : Int → Int} (h : CI M p) (e : ∀ i : Nat, i < 238 → ¬ (202 ≤ i ∧ i < 222) → ¬ (i = 13 ∨ i = 14) → m i = M i) (ktn : m 13 1 = tn') (ktp : ∀ i : Int, 0 ≤ i → i < 100 → m 14 i = tp' i) : CI m (⟨p.ln, p.sz, p.it, tn', tp', p.S, p.u, p.U, p.fl, p.I, p.lf, p.fd, p.tr, p.tb⟩ : PS) := by
  refine ⟨?_, ?_, ?_, ?_, ?_, ?_, ?_, ?_, ?_, ?_, ?_, ?_, ?_, ?_⟩
  · intro r a b; exact by rw [e 2 (by omega) (by omega) (by omega)]; exact h.ln r a b
  · intro r a b; exact by rw [e 3 (by omega) (by omega) (by omega)]; exact h.sz r a b
  · intro j hj i a b; exact by rw [e (5 + j) (by omega) (by omega) (by omega)]; exact h.it j hj i a b
  · exact ktn
  · exact ktp
  · exact h.S.same (fun i a b => e i (by omega) (by omega) (by omega))
  · exact by rw [e 30 (by omega) (by omega) (by omega)]; exact h.u
  · skip
    obtain ⟨N, hN, h3, hj⟩ := h.U
    refine ⟨N, hN, by rw [e 30 (by omega) (by omega) (by omega)]; exact h3, fun j hu => (hj j hu).same (fun i a b => ?_)⟩
    have : atJ N p.u j < 24 := Nat.mod_lt _ (by decide)
    exact e i (by omega) (by omega) (by omega)
  · intro k hk; exact ⟨fun hf => by rw [e (224 + 7 * k) (by omega) (by omega) (by omega)]; exact (h.I k hk).1 hf, fun hf => ((h.I k hk).2 hf).same (fun i a b => e i (by omega) (by omega) (by omega))⟩
  · exact by rw [e 0 (by omega) (by omega) (by omega)]; exact h.lf
  · exact by rw [e 0 (by omega) (by omega) (by omega)]; exact h.fd
  · exact by rw [e 222 (by omega) (by omega) (by omega)]; exact h.tr
  · intro i a b; exact by rw [e 223 (by omega) (by omega) (by omega)]; exact h.tb i a b
  · exact by rw [e 16 (by omega) (by omega) (by omega), e 22 (by omega) (by omega) (by omega)]; exact h.dr
theorem CI.sky {M m : MM} {p : PS} {S' : SS} (h : CI M p) (e : ∀ i : Nat, i < 238 → ¬ (202 ≤ i ∧ i < 222) → ¬ (23 ≤ i ∧ i ≤ 29) → m i = M i) (kS : SV m 23 S') : CI m (⟨p.ln, p.sz, p.it, p.tn, p.tp, S', p.u, p.U, p.fl, p.I, p.lf, p.fd, p.tr, p.tb⟩ : PS) := by
  refine ⟨?_, ?_, ?_, ?_, ?_, ?_, ?_, ?_, ?_, ?_, ?_, ?_, ?_, ?_⟩
  · intro r a b; exact by rw [e 2 (by omega) (by omega) (by omega)]; exact h.ln r a b
  · intro r a b; exact by rw [e 3 (by omega) (by omega) (by omega)]; exact h.sz r a b
  · intro j hj i a b; exact by rw [e (5 + j) (by omega) (by omega) (by omega)]; exact h.it j hj i a b
  · exact by rw [e 13 (by omega) (by omega) (by omega)]; exact h.tn
  · intro i a b; exact by rw [e 14 (by omega) (by omega) (by omega)]; exact h.tp i a b
  · exact kS
  · exact by rw [e 30 (by omega) (by omega) (by omega)]; exact h.u
  · skip
    obtain ⟨N, hN, h3, hj⟩ := h.U
    refine ⟨N, hN, by rw [e 30 (by omega) (by omega) (by omega)]; exact h3, fun j hu => (hj j hu).same (fun i a b => ?_)⟩
    have : atJ N p.u j < 24 := Nat.mod_lt _ (by decide)
    exact e i (by omega) (by omega) (by omega)
  · intro k hk; exact ⟨fun hf => by rw [e (224 + 7 * k) (by omega) (by omega) (by omega)]; exact (h.I k hk).1 hf, fun hf => ((h.I k hk).2 hf).same (fun i a b => e i (by omega) (by omega) (by omega))⟩
  · exact by rw [e 0 (by omega) (by omega) (by omega)]; exact h.lf
  · exact by rw [e 0 (by omega) (by omega) (by omega)]; exact h.fd
  · exact by rw [e 222 (by omega) (by omega) (by omega)]; exact h.tr
  · intro i a b; exact by rw [e 223 (by omega) (by omega) (by omega)]; exact h.tb i a b
  · exact by rw [e 16 (by omega) (by omega) (by omega), e 22 (by omega) (by omega) (by omega)]; exact h.dr
theorem CI.acts {M m : MM} {p : PS} {u' : Nat} {U' : Nat → SS} (h : CI M p) (e : ∀ i : Nat, i < 238 → ¬ (202 ≤ i ∧ i < 222) → ¬ (i = 30 ∨ (32 ≤ i ∧ i ≤ 199)) → m i = M i) (ku : m 30 0 = (u' : Int)) (kU : ∃ N : Nat, N < 24 ∧ m 30 3 = (N : Int) ∧ ∀ j, j < u' → SV m (32 + 7 * atJ N u' j) (U' j)) : CI m (⟨p.ln, p.sz, p.it, p.tn, p.tp, p.S, u', U', p.fl, p.I, p.lf, p.fd, p.tr, p.tb⟩ : PS) := by
  refine ⟨?_, ?_, ?_, ?_, ?_, ?_, ?_, ?_, ?_, ?_, ?_, ?_, ?_, ?_⟩
  · intro r a b; exact by rw [e 2 (by omega) (by omega) (by omega)]; exact h.ln r a b
  · intro r a b; exact by rw [e 3 (by omega) (by omega) (by omega)]; exact h.sz r a b
  · intro j hj i a b; exact by rw [e (5 + j) (by omega) (by omega) (by omega)]; exact h.it j hj i a b
  · exact by rw [e 13 (by omega) (by omega) (by omega)]; exact h.tn
  · intro i a b; exact by rw [e 14 (by omega) (by omega) (by omega)]; exact h.tp i a b
  · exact h.S.same (fun i a b => e i (by omega) (by omega) (by omega))
  · exact ku
  · exact kU
  · intro k hk; exact ⟨fun hf => by rw [e (224 + 7 * k) (by omega) (by omega) (by omega)]; exact (h.I k hk).1 hf, fun hf => ((h.I k hk).2 hf).same (fun i a b => e i (by omega) (by omega) (by omega))⟩
  · exact by rw [e 0 (by omega) (by omega) (by omega)]; exact h.lf
  · exact by rw [e 0 (by omega) (by omega) (by omega)]; exact h.fd
  · exact by rw [e 222 (by omega) (by omega) (by omega)]; exact h.tr
  · intro i a b; exact by rw [e 223 (by omega) (by omega) (by omega)]; exact h.tb i a b
  · exact by rw [e 16 (by omega) (by omega) (by omega), e 22 (by omega) (by omega) (by omega)]; exact h.dr
theorem CI.sact {M m : MM} {p : PS} {S' : SS} {u' : Nat} {U' : Nat → SS} (h : CI M p) (e : ∀ i : Nat, i < 238 → ¬ (202 ≤ i ∧ i < 222) → ¬ ((23 ≤ i ∧ i ≤ 30) ∨ (32 ≤ i ∧ i ≤ 199)) → m i = M i) (kS : SV m 23 S') (ku : m 30 0 = (u' : Int)) (kU : ∃ N : Nat, N < 24 ∧ m 30 3 = (N : Int) ∧ ∀ j, j < u' → SV m (32 + 7 * atJ N u' j) (U' j)) : CI m (⟨p.ln, p.sz, p.it, p.tn, p.tp, S', u', U', p.fl, p.I, p.lf, p.fd, p.tr, p.tb⟩ : PS) := by
  refine ⟨?_, ?_, ?_, ?_, ?_, ?_, ?_, ?_, ?_, ?_, ?_, ?_, ?_, ?_⟩
  · intro r a b; exact by rw [e 2 (by omega) (by omega) (by omega)]; exact h.ln r a b
  · intro r a b; exact by rw [e 3 (by omega) (by omega) (by omega)]; exact h.sz r a b
  · intro j hj i a b; exact by rw [e (5 + j) (by omega) (by omega) (by omega)]; exact h.it j hj i a b
  · exact by rw [e 13 (by omega) (by omega) (by omega)]; exact h.tn
  · intro i a b; exact by rw [e 14 (by omega) (by omega) (by omega)]; exact h.tp i a b
  · exact kS
  · exact ku
  · exact kU
  · intro k hk; exact ⟨fun hf => by rw [e (224 + 7 * k) (by omega) (by omega) (by omega)]; exact (h.I k hk).1 hf, fun hf => ((h.I k hk).2 hf).same (fun i a b => e i (by omega) (by omega) (by omega))⟩
  · exact by rw [e 0 (by omega) (by omega) (by omega)]; exact h.lf
  · exact by rw [e 0 (by omega) (by omega) (by omega)]; exact h.fd
  · exact by rw [e 222 (by omega) (by omega) (by omega)]; exact h.tr
  · intro i a b; exact by rw [e 223 (by omega) (by omega) (by omega)]; exact h.tb i a b
  · exact by rw [e 16 (by omega) (by omega) (by omega), e 22 (by omega) (by omega) (by omega)]; exact h.dr
theorem CI.asks {M m : MM} {p : PS} {tr' : Int} {tb' : Int → Int} (h : CI M p) (e : ∀ i : Nat, i < 238 → ¬ (202 ≤ i ∧ i < 222) → ¬ (i = 222 ∨ i = 223) → m i = M i) (ktr : m 222 0 = tr') (ktb : ∀ i : Int, 0 ≤ i → i < 16 → m 223 i = tb' i) : CI m (⟨p.ln, p.sz, p.it, p.tn, p.tp, p.S, p.u, p.U, p.fl, p.I, p.lf, p.fd, tr', tb'⟩ : PS) := by
  refine ⟨?_, ?_, ?_, ?_, ?_, ?_, ?_, ?_, ?_, ?_, ?_, ?_, ?_, ?_⟩
  · intro r a b; exact by rw [e 2 (by omega) (by omega) (by omega)]; exact h.ln r a b
  · intro r a b; exact by rw [e 3 (by omega) (by omega) (by omega)]; exact h.sz r a b
  · intro j hj i a b; exact by rw [e (5 + j) (by omega) (by omega) (by omega)]; exact h.it j hj i a b
  · exact by rw [e 13 (by omega) (by omega) (by omega)]; exact h.tn
  · intro i a b; exact by rw [e 14 (by omega) (by omega) (by omega)]; exact h.tp i a b
  · exact h.S.same (fun i a b => e i (by omega) (by omega) (by omega))
  · exact by rw [e 30 (by omega) (by omega) (by omega)]; exact h.u
  · skip
    obtain ⟨N, hN, h3, hj⟩ := h.U
    refine ⟨N, hN, by rw [e 30 (by omega) (by omega) (by omega)]; exact h3, fun j hu => (hj j hu).same (fun i a b => ?_)⟩
    have : atJ N p.u j < 24 := Nat.mod_lt _ (by decide)
    exact e i (by omega) (by omega) (by omega)
  · intro k hk; exact ⟨fun hf => by rw [e (224 + 7 * k) (by omega) (by omega) (by omega)]; exact (h.I k hk).1 hf, fun hf => ((h.I k hk).2 hf).same (fun i a b => e i (by omega) (by omega) (by omega))⟩
  · exact by rw [e 0 (by omega) (by omega) (by omega)]; exact h.lf
  · exact by rw [e 0 (by omega) (by omega) (by omega)]; exact h.fd
  · exact ktr
  · exact ktb
  · exact by rw [e 16 (by omega) (by omega) (by omega), e 22 (by omega) (by omega) (by omega)]; exact h.dr
theorem CI.imgs {M m : MM} {p : PS} {fl' : Int → Int} {I' : Int → SS} (h : CI M p) (e : ∀ i : Nat, i < 238 → ¬ (202 ≤ i ∧ i < 222) → ¬ (224 ≤ i ∧ i ≤ 237) → m i = M i) (kI : ∀ k : Nat, k < 2 → (fl' (k : Int) = 0 → m (224 + 7 * k) 0 = 0) ∧ (fl' (k : Int) ≠ 0 → SV m (224 + 7 * k) (I' (k : Int)))) : CI m (⟨p.ln, p.sz, p.it, p.tn, p.tp, p.S, p.u, p.U, fl', I', p.lf, p.fd, p.tr, p.tb⟩ : PS) := by
  refine ⟨?_, ?_, ?_, ?_, ?_, ?_, ?_, ?_, ?_, ?_, ?_, ?_, ?_, ?_⟩
  · intro r a b; exact by rw [e 2 (by omega) (by omega) (by omega)]; exact h.ln r a b
  · intro r a b; exact by rw [e 3 (by omega) (by omega) (by omega)]; exact h.sz r a b
  · intro j hj i a b; exact by rw [e (5 + j) (by omega) (by omega) (by omega)]; exact h.it j hj i a b
  · exact by rw [e 13 (by omega) (by omega) (by omega)]; exact h.tn
  · intro i a b; exact by rw [e 14 (by omega) (by omega) (by omega)]; exact h.tp i a b
  · exact h.S.same (fun i a b => e i (by omega) (by omega) (by omega))
  · exact by rw [e 30 (by omega) (by omega) (by omega)]; exact h.u
  · skip
    obtain ⟨N, hN, h3, hj⟩ := h.U
    refine ⟨N, hN, by rw [e 30 (by omega) (by omega) (by omega)]; exact h3, fun j hu => (hj j hu).same (fun i a b => ?_)⟩
    have : atJ N p.u j < 24 := Nat.mod_lt _ (by decide)
    exact e i (by omega) (by omega) (by omega)
  · exact kI
  · exact by rw [e 0 (by omega) (by omega) (by omega)]; exact h.lf
  · exact by rw [e 0 (by omega) (by omega) (by omega)]; exact h.fd
  · exact by rw [e 222 (by omega) (by omega) (by omega)]; exact h.tr
  · intro i a b; exact by rw [e 223 (by omega) (by omega) (by omega)]; exact h.tb i a b
  · exact by rw [e 16 (by omega) (by omega) (by omega), e 22 (by omega) (by omega) (by omega)]; exact h.dr
theorem CI.read {M m : MM} {p : PS}  (h : CI M p) (e : ∀ i : Nat, i < 238 → ¬ (202 ≤ i ∧ i < 222) → ¬ (15 ≤ i ∧ i ≤ 22) → m i = M i) (kdr : m 16 3 = 0 ∧ ∀ f : Int, 0 ≤ f → f < 16 → m 22 f = 0) : CI m p := by
  refine ⟨?_, ?_, ?_, ?_, ?_, ?_, ?_, ?_, ?_, ?_, ?_, ?_, ?_, ?_⟩
  · intro r a b; exact by rw [e 2 (by omega) (by omega) (by omega)]; exact h.ln r a b
  · intro r a b; exact by rw [e 3 (by omega) (by omega) (by omega)]; exact h.sz r a b
  · intro j hj i a b; exact by rw [e (5 + j) (by omega) (by omega) (by omega)]; exact h.it j hj i a b
  · exact by rw [e 13 (by omega) (by omega) (by omega)]; exact h.tn
  · intro i a b; exact by rw [e 14 (by omega) (by omega) (by omega)]; exact h.tp i a b
  · exact h.S.same (fun i a b => e i (by omega) (by omega) (by omega))
  · exact by rw [e 30 (by omega) (by omega) (by omega)]; exact h.u
  · skip
    obtain ⟨N, hN, h3, hj⟩ := h.U
    refine ⟨N, hN, by rw [e 30 (by omega) (by omega) (by omega)]; exact h3, fun j hu => (hj j hu).same (fun i a b => ?_)⟩
    have : atJ N p.u j < 24 := Nat.mod_lt _ (by decide)
    exact e i (by omega) (by omega) (by omega)
  · intro k hk; exact ⟨fun hf => by rw [e (224 + 7 * k) (by omega) (by omega) (by omega)]; exact (h.I k hk).1 hf, fun hf => ((h.I k hk).2 hf).same (fun i a b => e i (by omega) (by omega) (by omega))⟩
  · exact by rw [e 0 (by omega) (by omega) (by omega)]; exact h.lf
  · exact by rw [e 0 (by omega) (by omega) (by omega)]; exact h.fd
  · exact by rw [e 222 (by omega) (by omega) (by omega)]; exact h.tr
  · intro i a b; exact by rw [e 223 (by omega) (by omega) (by omega)]; exact h.tb i a b
  · exact kdr
theorem CI.lff {M : MM} {p : PS} {z : Int} (h : CI M p) : CI (upM M 0 10 z) (⟨p.ln, p.sz, p.it, p.tn, p.tp, p.S, p.u, p.U, p.fl, p.I, z, p.fd, p.tr, p.tb⟩ : PS) := by
  refine ⟨?_, ?_, ?_, ?_, ?_, ?_, ?_, ?_, ?_, ?_, ?_, ?_, ?_, ?_⟩
  · intro r a b; exact by rw [upM_cell (by omega)]; exact h.ln r a b
  · intro r a b; exact by rw [upM_cell (by omega)]; exact h.sz r a b
  · intro j hj i a b; exact by rw [upM_cell (by omega)]; exact h.it j hj i a b
  · exact by rw [upM_cell (by omega)]; exact h.tn
  · intro i a b; exact by rw [upM_cell (by omega)]; exact h.tp i a b
  · exact h.S.same (fun i a b => upM_cell (by omega))
  · exact by rw [upM_cell (by omega)]; exact h.u
  · skip
    obtain ⟨N, hN, h3, hj⟩ := h.U
    refine ⟨N, hN, by rw [upM_cell (by omega)]; exact h3, fun j hu => (hj j hu).same (fun i a b => ?_)⟩
    have : atJ N p.u j < 24 := Nat.mod_lt _ (by decide)
    exact upM_cell (by omega)
  · intro k hk; exact ⟨fun hf => by rw [upM_cell (by omega)]; exact (h.I k hk).1 hf, fun hf => ((h.I k hk).2 hf).same (fun i a b => upM_cell (by omega))⟩
  · exact by rw [upM_same]; rfl
  · exact by rw [upM_ne (by omega)]; exact h.fd
  · exact by rw [upM_cell (by omega)]; exact h.tr
  · intro i a b; exact by rw [upM_cell (by omega)]; exact h.tb i a b
  · exact by rw [upM_cell (by omega), upM_cell (by omega)]; exact h.dr
theorem MI.rows {M m : MM} {p : PS} {ln' : Int → Int} {sz' : Int → Int} {it' : Int → Int} (h : MI M p) (e : ∀ i : Nat, 239 ≤ i → i ≠ 239 → i ≠ 240 → i ≠ 241 → i ≠ 242 → i ≠ 244 → i ≠ 247 → m i = M i) (e2 : ∀ k : Int, (k < 9 ∨ 12 ≤ k) → m 238 k = M 238 k) (kln : m 239 = ln') (ksz : m 240 = sz') (kit : m 241 = it') : MI m (⟨ln', sz', it', p.tn, p.tp, p.S, p.u, p.U, p.fl, p.I, p.lf, p.fd, p.tr, p.tb⟩ : PS) := by
  refine ⟨?_, ?_, ?_, ?_, ?_, ?_, ?_, ?_, ?_, ?_, ?_, ?_, ?_, ?_, ?_⟩
  · exact kln
  · exact ksz
  · exact kit
  · exact by rw [e2 8 (by omega)]; exact h.tn
  · exact by rw [e 245 (by omega) (by omega) (by omega) (by omega) (by omega) (by omega) (by omega)]; exact h.tp
  · exact by rw [e 243 (by omega) (by omega) (by omega) (by omega) (by omega) (by omega) (by omega)]; exact h.S
  · exact by rw [e2 13 (by omega)]; exact h.is
  · exact by rw [e2 15 (by omega)]; exact h.u
  · exact by rw [e 246 (by omega) (by omega) (by omega) (by omega) (by omega) (by omega) (by omega)]; exact h.U
  · exact by rw [e 248 (by omega) (by omega) (by omega) (by omega) (by omega) (by omega) (by omega)]; exact h.fl
  · exact by rw [e 248 (by omega) (by omega) (by omega) (by omega) (by omega) (by omega) (by omega)]; exact h.I
  · exact by rw [e2 12 (by omega)]; exact h.lf
  · exact by rw [e2 4 (by omega)]; exact h.fd
  · exact by rw [e2 19 (by omega)]; exact h.tr
  · exact by rw [e 249 (by omega) (by omega) (by omega) (by omega) (by omega) (by omega) (by omega)]; exact h.tb
theorem MI.tape {M m : MM} {p : PS} {tn' : Int} {tp' : Int → Int} (h : MI M p) (e : ∀ i : Nat, 239 ≤ i → i ≠ 245 → i ≠ 242 → i ≠ 244 → i ≠ 247 → m i = M i) (e2 : ∀ k : Int, (k < 9 ∨ 12 ≤ k) → k ≠ 8 → m 238 k = M 238 k) (ktn : m 238 8 = tn') (ktp : m 245 = tp') : MI m (⟨p.ln, p.sz, p.it, tn', tp', p.S, p.u, p.U, p.fl, p.I, p.lf, p.fd, p.tr, p.tb⟩ : PS) := by
  refine ⟨?_, ?_, ?_, ?_, ?_, ?_, ?_, ?_, ?_, ?_, ?_, ?_, ?_, ?_, ?_⟩
  · exact by rw [e 239 (by omega) (by omega) (by omega) (by omega) (by omega)]; exact h.ln
  · exact by rw [e 240 (by omega) (by omega) (by omega) (by omega) (by omega)]; exact h.sz
  · exact by rw [e 241 (by omega) (by omega) (by omega) (by omega) (by omega)]; exact h.it
  · exact ktn
  · exact ktp
  · exact by rw [e 243 (by omega) (by omega) (by omega) (by omega) (by omega)]; exact h.S
  · exact by rw [e2 13 (by omega) (by omega)]; exact h.is
  · exact by rw [e2 15 (by omega) (by omega)]; exact h.u
  · exact by rw [e 246 (by omega) (by omega) (by omega) (by omega) (by omega)]; exact h.U
  · exact by rw [e 248 (by omega) (by omega) (by omega) (by omega) (by omega)]; exact h.fl
  · exact by rw [e 248 (by omega) (by omega) (by omega) (by omega) (by omega)]; exact h.I
  · exact by rw [e2 12 (by omega) (by omega)]; exact h.lf
  · exact by rw [e2 4 (by omega) (by omega)]; exact h.fd
  · exact by rw [e2 19 (by omega) (by omega)]; exact h.tr
  · exact by rw [e 249 (by omega) (by omega) (by omega) (by omega) (by omega)]; exact h.tb
theorem MI.sky {M m : MM} {p : PS} {S' : SS} (h : MI M p) (e : ∀ i : Nat, 239 ≤ i → i ≠ 243 → i ≠ 242 → i ≠ 244 → i ≠ 247 → m i = M i) (e2 : ∀ k : Int, (k < 9 ∨ 12 ≤ k) → k ≠ 13 → m 238 k = M 238 k) (kS : m 243 = S') (kis : m 238 13 = (if S' 0 = 0 then 0 else 1)) : MI m (⟨p.ln, p.sz, p.it, p.tn, p.tp, S', p.u, p.U, p.fl, p.I, p.lf, p.fd, p.tr, p.tb⟩ : PS) := by
  refine ⟨?_, ?_, ?_, ?_, ?_, ?_, ?_, ?_, ?_, ?_, ?_, ?_, ?_, ?_, ?_⟩
  · exact by rw [e 239 (by omega) (by omega) (by omega) (by omega) (by omega)]; exact h.ln
  · exact by rw [e 240 (by omega) (by omega) (by omega) (by omega) (by omega)]; exact h.sz
  · exact by rw [e 241 (by omega) (by omega) (by omega) (by omega) (by omega)]; exact h.it
  · exact by rw [e2 8 (by omega) (by omega)]; exact h.tn
  · exact by rw [e 245 (by omega) (by omega) (by omega) (by omega) (by omega)]; exact h.tp
  · exact kS
  · exact kis
  · exact by rw [e2 15 (by omega) (by omega)]; exact h.u
  · exact by rw [e 246 (by omega) (by omega) (by omega) (by omega) (by omega)]; exact h.U
  · exact by rw [e 248 (by omega) (by omega) (by omega) (by omega) (by omega)]; exact h.fl
  · exact by rw [e 248 (by omega) (by omega) (by omega) (by omega) (by omega)]; exact h.I
  · exact by rw [e2 12 (by omega) (by omega)]; exact h.lf
  · exact by rw [e2 4 (by omega) (by omega)]; exact h.fd
  · exact by rw [e2 19 (by omega) (by omega)]; exact h.tr
  · exact by rw [e 249 (by omega) (by omega) (by omega) (by omega) (by omega)]; exact h.tb
theorem MI.acts {M m : MM} {p : PS} {u' : Nat} {U' : Nat → SS} (h : MI M p) (e : ∀ i : Nat, 239 ≤ i → i ≠ 246 → i ≠ 242 → i ≠ 244 → i ≠ 247 → m i = M i) (e2 : ∀ k : Int, (k < 9 ∨ 12 ≤ k) → k ≠ 15 → m 238 k = M 238 k) (ku : m 238 15 = (u' : Int)) (kU : ∀ j : Nat, j < 24 → ∀ q : Int, 0 ≤ q → q < 45 → m 246 (45 * (j : Int) + q) = U' j q) : MI m (⟨p.ln, p.sz, p.it, p.tn, p.tp, p.S, u', U', p.fl, p.I, p.lf, p.fd, p.tr, p.tb⟩ : PS) := by
  refine ⟨?_, ?_, ?_, ?_, ?_, ?_, ?_, ?_, ?_, ?_, ?_, ?_, ?_, ?_, ?_⟩
  · exact by rw [e 239 (by omega) (by omega) (by omega) (by omega) (by omega)]; exact h.ln
  · exact by rw [e 240 (by omega) (by omega) (by omega) (by omega) (by omega)]; exact h.sz
  · exact by rw [e 241 (by omega) (by omega) (by omega) (by omega) (by omega)]; exact h.it
  · exact by rw [e2 8 (by omega) (by omega)]; exact h.tn
  · exact by rw [e 245 (by omega) (by omega) (by omega) (by omega) (by omega)]; exact h.tp
  · exact by rw [e 243 (by omega) (by omega) (by omega) (by omega) (by omega)]; exact h.S
  · exact by rw [e2 13 (by omega) (by omega)]; exact h.is
  · exact ku
  · exact kU
  · exact by rw [e 248 (by omega) (by omega) (by omega) (by omega) (by omega)]; exact h.fl
  · exact by rw [e 248 (by omega) (by omega) (by omega) (by omega) (by omega)]; exact h.I
  · exact by rw [e2 12 (by omega) (by omega)]; exact h.lf
  · exact by rw [e2 4 (by omega) (by omega)]; exact h.fd
  · exact by rw [e2 19 (by omega) (by omega)]; exact h.tr
  · exact by rw [e 249 (by omega) (by omega) (by omega) (by omega) (by omega)]; exact h.tb
theorem MI.sact {M m : MM} {p : PS} {S' : SS} {u' : Nat} {U' : Nat → SS} (h : MI M p) (e : ∀ i : Nat, 239 ≤ i → i ≠ 243 → i ≠ 246 → i ≠ 242 → i ≠ 244 → i ≠ 247 → m i = M i) (e2 : ∀ k : Int, (k < 9 ∨ 12 ≤ k) → k ≠ 13 → k ≠ 15 → m 238 k = M 238 k) (kS : m 243 = S') (kis : m 238 13 = (if S' 0 = 0 then 0 else 1)) (ku : m 238 15 = (u' : Int)) (kU : ∀ j : Nat, j < 24 → ∀ q : Int, 0 ≤ q → q < 45 → m 246 (45 * (j : Int) + q) = U' j q) : MI m (⟨p.ln, p.sz, p.it, p.tn, p.tp, S', u', U', p.fl, p.I, p.lf, p.fd, p.tr, p.tb⟩ : PS) := by
  refine ⟨?_, ?_, ?_, ?_, ?_, ?_, ?_, ?_, ?_, ?_, ?_, ?_, ?_, ?_, ?_⟩
  · exact by rw [e 239 (by omega) (by omega) (by omega) (by omega) (by omega) (by omega)]; exact h.ln
  · exact by rw [e 240 (by omega) (by omega) (by omega) (by omega) (by omega) (by omega)]; exact h.sz
  · exact by rw [e 241 (by omega) (by omega) (by omega) (by omega) (by omega) (by omega)]; exact h.it
  · exact by rw [e2 8 (by omega) (by omega) (by omega)]; exact h.tn
  · exact by rw [e 245 (by omega) (by omega) (by omega) (by omega) (by omega) (by omega)]; exact h.tp
  · exact kS
  · exact kis
  · exact ku
  · exact kU
  · exact by rw [e 248 (by omega) (by omega) (by omega) (by omega) (by omega) (by omega)]; exact h.fl
  · exact by rw [e 248 (by omega) (by omega) (by omega) (by omega) (by omega) (by omega)]; exact h.I
  · exact by rw [e2 12 (by omega) (by omega) (by omega)]; exact h.lf
  · exact by rw [e2 4 (by omega) (by omega) (by omega)]; exact h.fd
  · exact by rw [e2 19 (by omega) (by omega) (by omega)]; exact h.tr
  · exact by rw [e 249 (by omega) (by omega) (by omega) (by omega) (by omega) (by omega)]; exact h.tb
theorem MI.asks {M m : MM} {p : PS} {tr' : Int} {tb' : Int → Int} (h : MI M p) (e : ∀ i : Nat, 239 ≤ i → i ≠ 249 → i ≠ 242 → i ≠ 244 → i ≠ 247 → m i = M i) (e2 : ∀ k : Int, (k < 9 ∨ 12 ≤ k) → k ≠ 19 → m 238 k = M 238 k) (ktr : m 238 19 = tr') (ktb : m 249 = tb') : MI m (⟨p.ln, p.sz, p.it, p.tn, p.tp, p.S, p.u, p.U, p.fl, p.I, p.lf, p.fd, tr', tb'⟩ : PS) := by
  refine ⟨?_, ?_, ?_, ?_, ?_, ?_, ?_, ?_, ?_, ?_, ?_, ?_, ?_, ?_, ?_⟩
  · exact by rw [e 239 (by omega) (by omega) (by omega) (by omega) (by omega)]; exact h.ln
  · exact by rw [e 240 (by omega) (by omega) (by omega) (by omega) (by omega)]; exact h.sz
  · exact by rw [e 241 (by omega) (by omega) (by omega) (by omega) (by omega)]; exact h.it
  · exact by rw [e2 8 (by omega) (by omega)]; exact h.tn
  · exact by rw [e 245 (by omega) (by omega) (by omega) (by omega) (by omega)]; exact h.tp
  · exact by rw [e 243 (by omega) (by omega) (by omega) (by omega) (by omega)]; exact h.S
  · exact by rw [e2 13 (by omega) (by omega)]; exact h.is
  · exact by rw [e2 15 (by omega) (by omega)]; exact h.u
  · exact by rw [e 246 (by omega) (by omega) (by omega) (by omega) (by omega)]; exact h.U
  · exact by rw [e 248 (by omega) (by omega) (by omega) (by omega) (by omega)]; exact h.fl
  · exact by rw [e 248 (by omega) (by omega) (by omega) (by omega) (by omega)]; exact h.I
  · exact by rw [e2 12 (by omega) (by omega)]; exact h.lf
  · exact by rw [e2 4 (by omega) (by omega)]; exact h.fd
  · exact ktr
  · exact ktb
theorem MI.imgs {M m : MM} {p : PS} {fl' : Int → Int} {I' : Int → SS} (h : MI M p) (e : ∀ i : Nat, 239 ≤ i → i ≠ 248 → i ≠ 242 → i ≠ 244 → i ≠ 247 → m i = M i) (e2 : ∀ k : Int, (k < 9 ∨ 12 ≤ k) → m 238 k = M 238 k) (kfl : ∀ k : Int, 0 ≤ k → k < 2 → m 248 (46 * k) = fl' k) (kI : ∀ k : Int, 0 ≤ k → k < 2 → ∀ q : Int, 0 ≤ q → q < 45 → m 248 (46 * k + 1 + q) = I' k q) : MI m (⟨p.ln, p.sz, p.it, p.tn, p.tp, p.S, p.u, p.U, fl', I', p.lf, p.fd, p.tr, p.tb⟩ : PS) := by
  refine ⟨?_, ?_, ?_, ?_, ?_, ?_, ?_, ?_, ?_, ?_, ?_, ?_, ?_, ?_, ?_⟩
  · exact by rw [e 239 (by omega) (by omega) (by omega) (by omega) (by omega)]; exact h.ln
  · exact by rw [e 240 (by omega) (by omega) (by omega) (by omega) (by omega)]; exact h.sz
  · exact by rw [e 241 (by omega) (by omega) (by omega) (by omega) (by omega)]; exact h.it
  · exact by rw [e2 8 (by omega)]; exact h.tn
  · exact by rw [e 245 (by omega) (by omega) (by omega) (by omega) (by omega)]; exact h.tp
  · exact by rw [e 243 (by omega) (by omega) (by omega) (by omega) (by omega)]; exact h.S
  · exact by rw [e2 13 (by omega)]; exact h.is
  · exact by rw [e2 15 (by omega)]; exact h.u
  · exact by rw [e 246 (by omega) (by omega) (by omega) (by omega) (by omega)]; exact h.U
  · exact kfl
  · exact kI
  · exact by rw [e2 12 (by omega)]; exact h.lf
  · exact by rw [e2 4 (by omega)]; exact h.fd
  · exact by rw [e2 19 (by omega)]; exact h.tr
  · exact by rw [e 249 (by omega) (by omega) (by omega) (by omega) (by omega)]; exact h.tb
theorem MI.lff {M m : MM} {p : PS} {lf' : Int} (h : MI M p) (e : ∀ i : Nat, 239 ≤ i → i ≠ 242 → i ≠ 244 → i ≠ 247 → m i = M i) (e2 : ∀ k : Int, (k < 9 ∨ 12 ≤ k) → k ≠ 12 → m 238 k = M 238 k) (klf : m 238 12 = lf') : MI m (⟨p.ln, p.sz, p.it, p.tn, p.tp, p.S, p.u, p.U, p.fl, p.I, lf', p.fd, p.tr, p.tb⟩ : PS) := by
  refine ⟨?_, ?_, ?_, ?_, ?_, ?_, ?_, ?_, ?_, ?_, ?_, ?_, ?_, ?_, ?_⟩
  · exact by rw [e 239 (by omega) (by omega) (by omega) (by omega)]; exact h.ln
  · exact by rw [e 240 (by omega) (by omega) (by omega) (by omega)]; exact h.sz
  · exact by rw [e 241 (by omega) (by omega) (by omega) (by omega)]; exact h.it
  · exact by rw [e2 8 (by omega) (by omega)]; exact h.tn
  · exact by rw [e 245 (by omega) (by omega) (by omega) (by omega)]; exact h.tp
  · exact by rw [e 243 (by omega) (by omega) (by omega) (by omega)]; exact h.S
  · exact by rw [e2 13 (by omega) (by omega)]; exact h.is
  · exact by rw [e2 15 (by omega) (by omega)]; exact h.u
  · exact by rw [e 246 (by omega) (by omega) (by omega) (by omega)]; exact h.U
  · exact by rw [e 248 (by omega) (by omega) (by omega) (by omega)]; exact h.fl
  · exact by rw [e 248 (by omega) (by omega) (by omega) (by omega)]; exact h.I
  · exact klf
  · exact by rw [e2 4 (by omega) (by omega)]; exact h.fd
  · exact by rw [e2 19 (by omega) (by omega)]; exact h.tr
  · exact by rw [e 249 (by omega) (by omega) (by omega) (by omega)]; exact h.tb
