/-! ===== the reference: a year by draws ===== -/
theorem OUT_md {T : SS} (h : OUT T) (hT : 1 ≤ T 0) (h5 : T 0 ≤ 5) (x : Int) : OUT (mdF T x) := by
  unfold mdF
  split
  · have a := Int.emod_nonneg x (b := T 0) (by omega)
    have b := Int.emod_lt_of_pos x (b := T 0) (by omega)
    exact OUT_up h (by omega)
  · exact h
theorem OUT_drs {B : Int} {T : SS} (h : OUT T) (hO : SOK B T) (hT : 1 ≤ T 0) (x : Int) : ∀ n : Nat, OUT (drsF T x n)
  | 0 => h
  | n + 1 => by
    obtain ⟨a1, a2, a3⟩ := drsF_all hO x hT n
    have hn := hO.1
    have w0 : upS (drsF T x n) 1 (xsF x (n + 1) % 16) 0 = T 0 := by rw [upS_at, if_neg (by omega)]; exact a2
    exact OUT_dy (by rw [mdF_0 _ _ (by omega)]; omega) (OUT_md (OUT_up (OUT_drs h hO hT x n) (by omega)) (by omega) (by omega) _)
theorem Sh_drs {g S T : SS} (h : Sh g S T) (h1 : 1 ≤ S 0) (h5 : S 0 ≤ 5) {B : Int} (hO : SOK B S) (x : Int) : ∀ n : Nat, Sh g (drsF S x n) (drsF T x n)
  | 0 => h
  | n + 1 => by
    obtain ⟨a1, a2, a3⟩ := drsF_all hO x h1 n
    have w0 : upS (drsF S x n) 1 (xsF x (n + 1) % 16) 0 = S 0 := by rw [upS_at, if_neg (by omega)]; exact a2
    refine Sh_dy (Sh_md (Sh_up (Sh_drs h h1 h5 hO x n) (by omega)) _ (by omega) (by omega)) ?_
    rw [mdF_0 _ _ (by omega)]
    omega
theorem fell_sh {S T : SS} {g : SS} (h : Sh g S T) : fellS S = fellS T + fellS g := by
  unfold fellS
  have : ∀ n : Nat, n ≤ 16 → sumI n (fun f => S (29 + (f : Int))) = sumI n (fun f => T (29 + (f : Int))) + sumI n (fun f => g (29 + (f : Int))) := by
    intro n
    induction n with
    | zero => intro _; rfl
    | succ n ih =>
      intro hn
      rw [sumI, sumI, sumI, ih (by omega), h.2 (29 + (n : Int)) (by omega) (by omega)]
      omega
  exact this 16 (by omega)
theorem alive_sh {S T : SS} {g : SS} (h : Sh g S T) (h5 : S 0 ≤ 5) : aliveF T = aliveF S := by
  unfold aliveF
  rw [h.1 0 (by omega)]
  exact setN_congr (fun c hc => by rw [h.1 (7 + 5 * (c : Int)) (by omega)])
theorem l_X10_drawn {E : EV} {M : MM} {p : PS} {n s w y x : Int} {Q : PP} (hP : POK p) (h1 : 1 ≤ p.S 0) (n0 : 0 ≤ n) (n1 : n ≤ 60) (x0 : 0 ≤ x) (x1 : x < 2147483647)
    (hQ : ∀ (m : MM) (v z : Int) (x8 : Option AV), (∀ q, m 243 q = drsF p.S x n.toNat q) → FrN (cpM M 243 247 0 0 45) m → Wp E mX10_drawn (kd 9) 180 [some (vr 238), some (vi n), some (vi s), some (vi w), some (vi y), some (vl v), none, some (vi z), x8] [] N0 G0 m Q) :
    ∀ (k d : Nat) (z v : Int) (m : MM) (x8 : Option AV), z = (d : Int) → v = xsF x d → d + k = n.toNat → (∀ q, m 243 q = drsF p.S x d q) → FrN (cpM M 243 247 0 0 45) m → (x8 = none ∨ ∃ c, x8 = some (vi c)) → Wp E mX10_drawn (kd 9) 64 [some (vr 238), some (vi n), some (vi s), some (vi w), some (vi y), some (vl v), none, some (vi z), x8] [] N0 G0 m Q := by
  intro k
  have hn := hP.hs.n
  have hd := hP.hs.d
  induction k with
  | zero =>
    intro d z v m x8 hz hv hk hm hF h8
    subst hz
    subst hv
    have hx := xsF_r x0 x1 d
    refine w_iload dX10_drawn_64 rfl ?_
    refine w_iload_n dX10_drawn_66 rfl ?_
    refine w_icmp_ge (tgt := 180) dX10_drawn_67 (by decide) (by omega) (by omega) (fun h67 => ?_) (fun h67 => ?_)
    · exact hQ m _ _ x8 (by rw [show n.toNat = d by omega]; exact hm) hF
    · exact absurd h67 (by omega)
  | succ k ih =>
    intro d z v m x8 hz hv hk hm hF h8
    subst hz
    subst hv
    have hx := xsF_r x0 x1 d
    have hx2 := xsF_r x0 x1 (d + 1)
    obtain ⟨a1, a2, a3⟩ := drsF_all hP.hs.ok x h1 d
    have hsi := a1.2.2.1
    have ex : xsF x d * 16807 % 2147483647 = xsF x (d + 1) := rfl
    have e0 : upS (drsF p.S x d) 1 (xsF x (d + 1) % 16) 0 = p.S 0 := by rw [upS_at, if_neg (by omega)]; exact a2
    have e3 : upS (drsF p.S x d) 1 (xsF x (d + 1) % 16) 3 = p.S 3 + d := by rw [upS_at, if_neg (by omega)]; exact a3
    have hOw := SOK_wind a1 (v := xsF x (d + 1) % 16) (by omega) (by omega)
    have r1 := Int.emod_nonneg (xsF x (d + 1)) (show p.S 0 ≠ 0 by omega)
    have r2 := Int.emod_lt_of_pos (xsF x (d + 1)) (show 0 < p.S 0 by omega)
    have bc := hOw.cl r1 (by rw [e0]; exact r2)
    have bs := hOw.2.2.1
    have tail : ∀ (m2 : MM) (x9 : Option AV), (x9 = none ∨ ∃ c, x9 = some (vi c)) → (∀ q, m2 243 q = mdF (upS (drsF p.S x d) 1 (xsF x (d + 1) % 16)) (xsF x (d + 1)) q) → FrN (cpM M 243 247 0 0 45) m2 → Wp E mX10_drawn (kd 9) 170 [some (vr 238), some (vi n), some (vi s), some (vi w), some (vi y), some (vl (xsF x (d + 1))), none, some (vi (d : Int)), x9] [] N0 G0 m2 Q := by
      intro m2 x9 h9 hm2 hF2
      refine w_aload_n dX10_drawn_170 rfl ?_
      refine cVxv dX10_drawn_171 ok_X10_goesBy lv10_153 (c_X10_goesBy hm2 (SOK_md hOw _ (by omega)) (by omega) (by rw [mdF_3 _ _ (by omega)]; omega)) rfl (congrArg Prod.fst g0_238) (by decide) (by decide) rfl (by decide) (Nat.le_of_ble_eq_true rfl) (fun m171 p171 => ?_)
      refine w_iinc dX10_drawn_174 rfl (by decide) ?_
      refine w_goto (tgt := 64) dX10_drawn_177 (by decide) ?_
      exact ih (d + 1) _ _ _ _ (by omega) rfl (by omega) p171.1 (hF2.trans p171.2) h9
    have tA : xsF x (d + 1) % 9 ≠ 0 → ∀ q, upS (drsF p.S x d) 1 (xsF x (d + 1) % 16) q = mdF (upS (drsF p.S x d) 1 (xsF x (d + 1) % 16)) (xsF x (d + 1)) q := fun h q => by
      unfold mdF
      rw [if_neg h]
    have tB : xsF x (d + 1) % 9 = 0 → ∀ u : Int, u = (if 99 < upS (drsF p.S x d) 1 (xsF x (d + 1) % 16) (7 + 5 * (xsF x (d + 1) % p.S 0)) + upS (drsF p.S x d) 1 (xsF x (d + 1) % 16) 2 then 99 else upS (drsF p.S x d) 1 (xsF x (d + 1) % 16) (7 + 5 * (xsF x (d + 1) % p.S 0)) + upS (drsF p.S x d) 1 (xsF x (d + 1) % 16) 2) → ∀ q, upS (upS (drsF p.S x d) 1 (xsF x (d + 1) % 16)) (7 + 5 * (xsF x (d + 1) % p.S 0)) u q = mdF (upS (drsF p.S x d) 1 (xsF x (d + 1) % 16)) (xsF x (d + 1)) q := fun h u hu q => by
      unfold mdF
      rw [if_pos h, e0, hu]
    refine w_iload dX10_drawn_64 rfl ?_
    refine w_iload_n dX10_drawn_66 rfl ?_
    refine w_icmp_ge (tgt := 180) dX10_drawn_67 (by decide) (by omega) (by omega) (fun h67 => ?_) (fun h67 => ?_)
    · exact absurd h67 (by omega)
    · refine w_lload dX10_drawn_70 rfl ?_
      refine w_ldc2 dX10_drawn_72 cl10_220 ?_
      refine w_lmul dX10_drawn_75 ?_
      refine w_ldc2 dX10_drawn_76 cl10_222 ?_
      refine w_lrem dX10_drawn_79 (by omega) (by omega) (by omega) (by omega) ?_
      refine w_lstore dX10_drawn_80 (by decide) ?_
      refine w_aload_n dX10_drawn_82 rfl ?_
      refine w_getR (r := 243) dX10_drawn_83 fl10_22 g0_238 (by decide) rfl ?_
      refine w_iconst dX10_drawn_86 ?_
      refine w_lload dX10_drawn_87 rfl ?_
      refine w_ldc2 dX10_drawn_89 cl10_224 ?_
      refine w_lrem dX10_drawn_92 (by omega) (by omega) (by omega) (by omega) ?_
      refine w_l2i dX10_drawn_93 ?_
      refine r_ist dX10_drawn_94 g0_243 (by decide) (by omega) (by omega) (by omega) (by decide) ?_
      rw [ex]
      refine wgen (fun m2 => (∀ q, m2 243 q = upS (drsF p.S x d) 1 (xsF x (d + 1) % 16) q) ∧ FrN (cpM M 243 247 0 0 45) m2) ⟨set_st (P := fun _ => True) hm, hF.up⟩ (fun m2 hm2 => ?_)
      obtain ⟨hm2, hF2⟩ := hm2
      have kn : m2 243 0 = p.S 0 := by rw [hm2, e0]
      have kw : m2 243 (7 + 5 * (xsF x (d + 1) % p.S 0)) = upS (drsF p.S x d) 1 (xsF x (d + 1) % 16) (7 + 5 * (xsF x (d + 1) % p.S 0)) := hm2 _
      have ks : m2 243 2 = upS (drsF p.S x d) 1 (xsF x (d + 1) % 16) 2 := hm2 _
      refine w_lload dX10_drawn_95 rfl ?_
      refine w_ldc2 dX10_drawn_97 cl10_159 ?_
      refine w_lrem dX10_drawn_100 (by omega) (by omega) (by omega) (by omega) ?_
      refine w_lconst0 dX10_drawn_101 ?_
      refine w_lcmp dX10_drawn_102 (by omega) (by omega) ?_
      refine w_ifL_ne (tgt := 170) dX10_drawn_103 (by decide) (fun h103 => ?_) (fun h103 => ?_)
      · first | exact tail _ _ h8 (fun q => by rw [hm2]; exact tA h103 q) hF2 | exact tail _ _ (Or.inr ⟨_, rfl⟩) (fun q => by rw [set_st (P := fun _ => True) hm2]; exact tB h103 _ (by rw [if_pos (by omega)]) q) hF2.up | exact tail _ _ (Or.inr ⟨_, rfl⟩) (fun q => by rw [set_st (P := fun _ => True) hm2]; exact tB h103 _ (by rw [if_neg (by omega), kw, ks]) q) hF2.up
      · refine w_iconst dX10_drawn_106 ?_
        refine w_iconst dX10_drawn_107 ?_
        refine w_lload dX10_drawn_108 rfl ?_
        refine w_aload_n dX10_drawn_110 rfl ?_
        refine w_getR (r := 243) dX10_drawn_111 fl10_22 g0_238 (by decide) rfl ?_
        refine w_iconst dX10_drawn_114 ?_
        refine r_ild dX10_drawn_115 g0_243 (by decide) (by omega) (by omega) (by decide) (fun r115 => ?_)
        refine w_i2l dX10_drawn_116 (by omega) ?_
        refine w_lrem dX10_drawn_117 (by omega) (by omega) (by omega) (by omega) ?_
        refine w_l2i dX10_drawn_118 ?_
        rw [kn]
        refine w_imul dX10_drawn_119 ?_
        refine w_iadd dX10_drawn_120 ?_
        refine w_iconst dX10_drawn_121 ?_
        refine w_iadd dX10_drawn_122 ?_
        refine w_istore dX10_drawn_123 (by decide) ?_
        refine w_aload_n dX10_drawn_125 rfl ?_
        refine w_getR (r := 243) dX10_drawn_126 fl10_22 g0_238 (by decide) rfl ?_
        refine w_iload dX10_drawn_129 rfl ?_
        refine w_aload_n dX10_drawn_131 rfl ?_
        refine w_getR (r := 243) dX10_drawn_132 fl10_22 g0_238 (by decide) rfl ?_
        refine w_iload dX10_drawn_135 rfl ?_
        refine r_ildq (q := 7 + 5 * (xsF x (d + 1) % p.S 0)) dX10_drawn_137 g0_243 (by decide) (by omega) (by omega) (by omega) (by decide) (fun r137 => ?_)
        refine w_aload_n dX10_drawn_138 rfl ?_
        refine w_getR (r := 243) dX10_drawn_139 fl10_22 g0_238 (by decide) rfl ?_
        refine w_iconst dX10_drawn_142 ?_
        refine r_ild dX10_drawn_143 g0_243 (by decide) (by omega) (by omega) (by decide) (fun r143 => ?_)
        refine w_iadd dX10_drawn_144 ?_
        refine w_bipush dX10_drawn_145 (by decide +kernel) ?_
        refine w_icmp_le (tgt := 155) dX10_drawn_147 (by decide) (by omega) (by omega) (fun h147 => ?_) (fun h147 => ?_)
        · refine w_aload_n dX10_drawn_155 rfl ?_
          refine w_getR (r := 243) dX10_drawn_156 fl10_22 g0_238 (by decide) rfl ?_
          refine w_iload dX10_drawn_159 rfl ?_
          refine r_ildq (q := 7 + 5 * (xsF x (d + 1) % p.S 0)) dX10_drawn_161 g0_243 (by decide) (by omega) (by omega) (by omega) (by decide) (fun r161 => ?_)
          refine w_aload_n dX10_drawn_162 rfl ?_
          refine w_getR (r := 243) dX10_drawn_163 fl10_22 g0_238 (by decide) rfl ?_
          refine w_iconst dX10_drawn_166 ?_
          refine r_ild dX10_drawn_167 g0_243 (by decide) (by omega) (by omega) (by decide) (fun r167 => ?_)
          refine w_iadd dX10_drawn_168 ?_
          refine r_istq (q := 7 + 5 * (xsF x (d + 1) % p.S 0)) dX10_drawn_169 g0_243 (by decide) (by omega) (by omega) (by omega) (by omega) (by decide) ?_
          first | exact tail _ _ h8 (fun q => by rw [hm2]; exact tA h103 q) hF2 | exact tail _ _ (Or.inr ⟨_, rfl⟩) (fun q => by rw [set_st (P := fun _ => True) hm2]; exact tB h103 _ (by rw [if_pos (by omega)]) q) hF2.up | exact tail _ _ (Or.inr ⟨_, rfl⟩) (fun q => by rw [set_st (P := fun _ => True) hm2]; exact tB h103 _ (by rw [if_neg (by omega), kw, ks]) q) hF2.up
        · refine w_bipush dX10_drawn_150 (by decide +kernel) ?_
          refine w_goto (tgt := 169) dX10_drawn_152 (by decide) ?_
          refine r_istq (q := 7 + 5 * (xsF x (d + 1) % p.S 0)) dX10_drawn_169 g0_243 (by decide) (by omega) (by omega) (by omega) (by omega) (by decide) ?_
          first | exact tail _ _ h8 (fun q => by rw [hm2]; exact tA h103 q) hF2 | exact tail _ _ (Or.inr ⟨_, rfl⟩) (fun q => by rw [set_st (P := fun _ => True) hm2]; exact tB h103 _ (by rw [if_pos (by omega)]) q) hF2.up | exact tail _ _ (Or.inr ⟨_, rfl⟩) (fun q => by rw [set_st (P := fun _ => True) hm2]; exact tB h103 _ (by rw [if_neg (by omega), kw, ks]) q) hF2.up
theorem c_X10_drawn {E : EV} {M : MM} {p : PS} {n x w : Int} (hI : MI M p) (hP : POK p) (hn9 : R32 n) (hx : R32 x) (hw : R32 w) : Cx E mX10_drawn 9 [vr 238, vi n, vi x, vi w] M (KM M (drawR p n x w)) := by
  refine Ct.of [some (vr 238), some (vi n), some (vi x), some (vi w), none, none, none, none, none] rfl rfl rfl (Nat.le_of_ble_eq_true rfl) ?_
  have hs := hI.sn
  have hn := hP.hs.n
  have hd := hP.hs.d
  have hO : SOK 9990 (cpM M 243 247 0 0 45 243) := by rw [cpM_cell (by omega), hI.S]; exact hP.hs.ok
  have ef : fellS (cpM M 243 247 0 0 45 243) = fellS p.S := by rw [cpM_cell (by omega), hI.S]
  have fin : 1 ≤ p.S 0 → 0 ≤ n → n ≤ 60 → 1 ≤ x → x ≤ 999999 → (w = 0 ∨ w = 1) → ∀ (m : MM) (v z y : Int) (x8 : Option AV), y = fellS p.S → (∀ q, m 243 q = drsF p.S x n.toNat q) → FrN (cpM M 243 247 0 0 45) m → Wp E mX10_drawn (kd 9) 180 [some (vr 238), some (vi n), some (vi x), some (vi w), some (vi y), some (vl v), none, some (vi z), x8] [] N0 G0 m (Px (KM M (drawR p n x w))) := by
    intro h1 n0 n1 x0 x1 hw2 m v z y x8 hy hm hF
    subst hy
    have hA := drsF_all hP.hs.ok x (by omega) n.toNat
    have sh := Sh_drs (Sh_zr p.S) (by omega) hn.2 hP.hs.ok x n.toNat
    have em : m 243 = drsF p.S x n.toNat := funext hm
    have f1 := fell_sh sh
    have f2 := alive_sh sh (by rw [hA.2.1]; exact hn.2)
    have r1 := fellS_r hA.1
    have r2 := fellS_r hP.hs.ok
    have r3 := aliveF_r hA.1
    have oT := OUT_drs (B := 9990) hP.hs.1 hP.hs.ok (by omega) x n.toNat
    have c1 : Cm E mX10_fell 0 [vr 238] m (fellS (drsF p.S x n.toNat)) m := by
      have := c_X10_fell (E := E) (M := m) (B := 9990 + 10 * (n.toNat : Int)) (by rw [em]; exact hA.1) (by omega)
      rw [em] at this
      exact this
    have c2 : Cm E mX10_notGone 2 [vr 238] m ((aliveF (drsF p.S x n.toNat) : Nat) : Int) m := by
      have := c_X10_notGone (E := E) (M := m) (B := 9990 + 10 * (n.toNat : Int)) (by rw [em]; exact hA.1)
      rw [em] at this
      exact this
    refine w_aload_n dX10_drawn_180 rfl ?_
    refine cVm dX10_drawn_181 ok_X10_fell lv10_147 c1 rfl (congrArg Prod.fst g0_238) (by decide) (by decide) rfl (by decide) (Nat.le_of_ble_eq_true rfl) (fun r181 => ?_)
    refine w_iload dX10_drawn_184 rfl ?_
    refine w_isub dX10_drawn_186 ?_
    refine w_istore dX10_drawn_187 (by decide) ?_
    refine w_aload_n dX10_drawn_189 rfl ?_
    refine cVm dX10_drawn_190 ok_X10_notGone lv10_208 c2 rfl (congrArg Prod.fst g0_238) (by decide) (by decide) rfl (by decide) (Nat.le_of_ble_eq_true rfl) (fun r190 => ?_)
    refine w_istore dX10_drawn_193 (by decide) ?_
    refine w_aload_n dX10_drawn_195 rfl ?_
    refine cVv dX10_drawn_196 ok_X10_backs lv10_178 c_X10_backs rfl (congrArg Prod.fst g0_238) (by decide) (by decide) rfl (by decide) (Nat.le_of_ble_eq_true rfl) ?_
    refine w_iload_n dX10_drawn_199 rfl ?_
    refine w_if_ne (tgt := 208) dX10_drawn_200 (by decide) (by omega) (fun h200 => ?_) (fun h200 => ?_)
    · refine w_iload dX10_drawn_208 rfl ?_
      refine w_iret dX10_drawn_210 rfl (by omega) ?_ ⟨Nat.le_refl _, Nat.le_refl _⟩
      first | (refine q_x (KM.back hI hP hF oT hm (show _ = fellS (drsF (zr p.S) x n.toNat) by omega) ?_); unfold drawR; ((repeat (first | rw [if_pos (by omega)] | rw [if_neg (by omega)])) <;> rfl)) | (refine q_x (KM.back hI hP hF oT hm (show _ = ((aliveF (drsF (zr p.S) x n.toNat) : Nat) : Int) by omega) ?_); unfold drawR; ((repeat (first | rw [if_pos (by omega)] | rw [if_neg (by omega)])) <;> rfl))
    · refine w_iload dX10_drawn_203 rfl ?_
      refine w_goto (tgt := 210) dX10_drawn_205 (by decide) ?_
      refine w_iret dX10_drawn_210 rfl (by omega) ?_ ⟨Nat.le_refl _, Nat.le_refl _⟩
      first | (refine q_x (KM.back hI hP hF oT hm (show _ = fellS (drsF (zr p.S) x n.toNat) by omega) ?_); unfold drawR; ((repeat (first | rw [if_pos (by omega)] | rw [if_neg (by omega)])) <;> rfl)) | (refine q_x (KM.back hI hP hF oT hm (show _ = ((aliveF (drsF (zr p.S) x n.toNat) : Nat) : Int) by omega) ?_); unfold drawR; ((repeat (first | rw [if_pos (by omega)] | rw [if_neg (by omega)])) <;> rfl))
  refine w_aload_n dX10_drawn_0 rfl ?_
  refine r_getI (q := 13) dX10_drawn_1 fl10_117 g0_238 (by decide) rfl (by decide) rfl (fun r1 => ?_)
  refine w_if_ne (tgt := 10) dX10_drawn_4 (by decide) (by omega) (fun h4 => ?_) (fun h4 => ?_)
  · refine w_iload_n dX10_drawn_10 rfl ?_
    refine w_i2l dX10_drawn_11 (by omega) ?_
    refine w_lconst0 dX10_drawn_12 ?_
    refine w_ldc2 dX10_drawn_13 cl10_169 ?_
    refine cSm dX10_drawn_16 ok_X10_in (Or.inl ls10_50) (c_X10_in (by omega) (by omega) (by omega)) rfl  rfl (by decide) (Nat.le_of_ble_eq_true rfl) (fun r16 => ?_)
    refine w_ifB_eq (tgt := 44) dX10_drawn_19 (by decide) (fun h19 => ?_) (fun h19 => ?_)
    · (first | replace h19 := of_decide_eq_true h19 | replace h19 := of_decide_eq_false h19 | skip)
      refine w_ldc dX10_drawn_44 co10_60 ?_
      refine w_iret dX10_drawn_46 rfl (by omega) ?_ ⟨Nat.le_refl _, Nat.le_refl _⟩
      exact (q_x (KM.stay hI (by unfold drawR; ((repeat (first | rw [if_pos (by omega)] | rw [if_neg (by omega)])) <;> rfl))))
    · (first | replace h19 := of_decide_eq_true h19 | replace h19 := of_decide_eq_false h19 | skip)
      refine w_iload_n dX10_drawn_22 rfl ?_
      refine w_i2l dX10_drawn_23 (by omega) ?_
      refine w_lconst1 dX10_drawn_24 ?_
      refine w_ldc2 dX10_drawn_25 cl10_218 ?_
      refine cSm dX10_drawn_28 ok_X10_in (Or.inl ls10_50) (c_X10_in (by omega) (by omega) (by omega)) rfl  rfl (by decide) (Nat.le_of_ble_eq_true rfl) (fun r28 => ?_)
      refine w_ifB_eq (tgt := 44) dX10_drawn_31 (by decide) (fun h31 => ?_) (fun h31 => ?_)
      · (first | replace h31 := of_decide_eq_true h31 | replace h31 := of_decide_eq_false h31 | skip)
        refine w_ldc dX10_drawn_44 co10_60 ?_
        refine w_iret dX10_drawn_46 rfl (by omega) ?_ ⟨Nat.le_refl _, Nat.le_refl _⟩
        exact (q_x (KM.stay hI (by unfold drawR; ((repeat (first | rw [if_pos (by omega)] | rw [if_neg (by omega)])) <;> rfl))))
      · (first | replace h31 := of_decide_eq_true h31 | replace h31 := of_decide_eq_false h31 | skip)
        refine w_iload_n dX10_drawn_34 rfl ?_
        refine w_i2l dX10_drawn_35 (by omega) ?_
        refine w_lconst0 dX10_drawn_36 ?_
        refine w_lconst1 dX10_drawn_37 ?_
        refine cSm dX10_drawn_38 ok_X10_in (Or.inl ls10_50) (c_X10_in (by omega) (by omega) (by omega)) rfl  rfl (by decide) (Nat.le_of_ble_eq_true rfl) (fun r38 => ?_)
        refine w_ifB_ne (tgt := 47) dX10_drawn_41 (by decide) (fun h41 => ?_) (fun h41 => ?_)
        · (first | replace h41 := of_decide_eq_true h41 | replace h41 := of_decide_eq_false h41 | skip)
          refine w_aload_n dX10_drawn_47 rfl ?_
          refine cVv dX10_drawn_48 ok_X10_asides lv10_171 c_X10_asides rfl (congrArg Prod.fst g0_238) (by decide) (by decide) rfl (by decide) (Nat.le_of_ble_eq_true rfl) ?_
          refine w_aload_n dX10_drawn_51 rfl ?_
          refine cVm dX10_drawn_52 ok_X10_fell lv10_147 (c_X10_fell hO (by omega)) rfl (congrArg Prod.fst g0_238) (by decide) (by decide) rfl (by decide) (Nat.le_of_ble_eq_true rfl) (fun r52 => ?_)
          refine w_istore dX10_drawn_55 (by decide) ?_
          refine w_iload_n dX10_drawn_57 rfl ?_
          refine w_i2l dX10_drawn_58 (by omega) ?_
          refine w_lstore dX10_drawn_59 (by decide) ?_
          refine w_iconst dX10_drawn_61 ?_
          refine w_istore dX10_drawn_62 (by decide) ?_
          exact l_X10_drawn (x := x) hP (by omega) (by omega) (by omega) (by omega) (by omega) (fun m v z x8 hm hF => fin (by omega) (by omega) (by omega) (by omega) (by omega) (by omega) m v z _ x8 ef hm hF) n.toNat 0 _ _ _ _ rfl rfl (by omega) (fun q => by rw [FrN.as, hI.S]; rfl) (fun i _ => rfl) (Or.inl rfl)
        · (first | replace h41 := of_decide_eq_true h41 | replace h41 := of_decide_eq_false h41 | skip)
          refine w_ldc dX10_drawn_44 co10_60 ?_
          refine w_iret dX10_drawn_46 rfl (by omega) ?_ ⟨Nat.le_refl _, Nat.le_refl _⟩
          exact (q_x (KM.stay hI (by unfold drawR; ((repeat (first | rw [if_pos (by omega)] | rw [if_neg (by omega)])) <;> rfl))))
  · refine w_ldc dX10_drawn_7 co10_144 ?_
    refine w_iret dX10_drawn_9 rfl (by omega) ?_ ⟨Nat.le_refl _, Nat.le_refl _⟩
    exact (q_x (KM.stay hI (by unfold drawR; ((repeat (first | rw [if_pos (by omega)] | rw [if_neg (by omega)])) <;> rfl))))
