/-! ===== the constructors (written by ctor.py) ===== -/
theorem nf0 : ∀ j, j < NN 0 → ([-1, -3, -3, -1] : List Int)[j]? = some (if tyT 0 j = .int ∨ tyT 0 j = .boolean then -1 else if tyT 0 j = .long then -2 else -3) ∧ defaultValue (tyT 0 j) = (if tyT 0 j = .int ∨ tyT 0 j = .boolean then .int (i32 0) else if tyT 0 j = .long then .long (i64 0) else .null) := by decide +kernel
theorem nf1 : ∀ j, j < NN 1 → ([-1, -3, -3] : List Int)[j]? = some (if tyT 1 j = .int ∨ tyT 1 j = .boolean then -1 else if tyT 1 j = .long then -2 else -3) ∧ defaultValue (tyT 1 j) = (if tyT 1 j = .int ∨ tyT 1 j = .boolean then .int (i32 0) else if tyT 1 j = .long then .long (i64 0) else .null) := by decide +kernel
theorem nf2 : ∀ j, j < NN 2 → ([-2, -2, -3] : List Int)[j]? = some (if tyT 2 j = .int ∨ tyT 2 j = .boolean then -1 else if tyT 2 j = .long then -2 else -3) ∧ defaultValue (tyT 2 j) = (if tyT 2 j = .int ∨ tyT 2 j = .boolean then .int (i32 0) else if tyT 2 j = .long then .long (i64 0) else .null) := by decide +kernel
theorem nf3 : ∀ j, j < NN 3 → ([-3, -3, -3] : List Int)[j]? = some (if tyT 3 j = .int ∨ tyT 3 j = .boolean then -1 else if tyT 3 j = .long then -2 else -3) ∧ defaultValue (tyT 3 j) = (if tyT 3 j = .int ∨ tyT 3 j = .boolean then .int (i32 0) else if tyT 3 j = .long then .long (i64 0) else .null) := by decide +kernel
theorem nf4 : ∀ j, j < NN 4 → ([-3, -1, -3, -1] : List Int)[j]? = some (if tyT 4 j = .int ∨ tyT 4 j = .boolean then -1 else if tyT 4 j = .long then -2 else -3) ∧ defaultValue (tyT 4 j) = (if tyT 4 j = .int ∨ tyT 4 j = .boolean then .int (i32 0) else if tyT 4 j = .long then .long (i64 0) else .null) := by decide +kernel
theorem nf5 : ∀ j, j < NN 5 → ([-3, -3, -3] : List Int)[j]? = some (if tyT 5 j = .int ∨ tyT 5 j = .boolean then -1 else if tyT 5 j = .long then -2 else -3) ∧ defaultValue (tyT 5 j) = (if tyT 5 j = .int ∨ tyT 5 j = .boolean then .int (i32 0) else if tyT 5 j = .long then .long (i64 0) else .null) := by decide +kernel
theorem nf6 : ∀ j, j < NN 6 → ([-1, -1, -1, -1, -3, -3, -3, -3, -3, -3] : List Int)[j]? = some (if tyT 6 j = .int ∨ tyT 6 j = .boolean then -1 else if tyT 6 j = .long then -2 else -3) ∧ defaultValue (tyT 6 j) = (if tyT 6 j = .int ∨ tyT 6 j = .boolean then .int (i32 0) else if tyT 6 j = .long then .long (i64 0) else .null) := by decide +kernel
theorem nf7 : ∀ j, j < NN 7 → ([-3, -1] : List Int)[j]? = some (if tyT 7 j = .int ∨ tyT 7 j = .boolean then -1 else if tyT 7 j = .long then -2 else -3) ∧ defaultValue (tyT 7 j) = (if tyT 7 j = .int ∨ tyT 7 j = .boolean then .int (i32 0) else if tyT 7 j = .long then .long (i64 0) else .null) := by decide +kernel
theorem nf8 : ∀ j, j < NN 8 → ([-1, -3, -3, -3, -3, -3, -1] : List Int)[j]? = some (if tyT 8 j = .int ∨ tyT 8 j = .boolean then -1 else if tyT 8 j = .long then -2 else -3) ∧ defaultValue (tyT 8 j) = (if tyT 8 j = .int ∨ tyT 8 j = .boolean then .int (i32 0) else if tyT 8 j = .long then .long (i64 0) else .null) := by decide +kernel
theorem nf9 : ∀ j, j < NN 9 → ([-3, -3, -3, -3, -3, -3, -3, -3, -3, -3, -1, -1] : List Int)[j]? = some (if tyT 9 j = .int ∨ tyT 9 j = .boolean then -1 else if tyT 9 j = .long then -2 else -3) ∧ defaultValue (tyT 9 j) = (if tyT 9 j = .int ∨ tyT 9 j = .boolean then .int (i32 0) else if tyT 9 j = .long then .long (i64 0) else .null) := by decide +kernel
theorem nf10 : ∀ j, j < NN 10 → ([-3, -3, -3, -3, -1, -3, -3, -3, -1, -1, -1, -1, -1, -1, -3, -1, -3, -3, -3, -1] : List Int)[j]? = some (if tyT 10 j = .int ∨ tyT 10 j = .boolean then -1 else if tyT 10 j = .long then -2 else -3) ∧ defaultValue (tyT 10 j) = (if tyT 10 j = .int ∨ tyT 10 j = .boolean then .int (i32 0) else if tyT 10 j = .long then .long (i64 0) else .null) := by decide +kernel
theorem hz1 {n : Nat} (h : n ≠ 2) : ∀ q, mLn 2 8 Mz n q = 0 := fun q => by rw [mLn_cell h]; rfl
theorem k_rng {l : List (Nat × Nat × List Int)} {n N : Nat} {x : Nat × List Int} (h : ∀ j, j < N → GO l (n + 1 + j) = x) : ∀ i, n < i → i ≤ n + N → GO l i = x := fun i h1 h2 => by
  have := h (i - n - 1) (by omega)
  rwa [show n + 1 + (i - n - 1) = i by omega] at this
theorem GO_ne {l : List (Nat × Nat × List Int)} {a i : Nat} {x : Nat × List Int} (h : i ≠ a) : GO ((a, x) :: l) i = GO l i := if_neg h

theorem c_X6_init {E : EV} {M : MM} {l : List (Nat × Nat × List Int)} {a n : Nat} (ha : a < n) (hn : n + 6 ≤ N0) (g : ∀ j, j < 6 → GO l (n + j) = (0, [if j = 5 then 16 else 5])) (gA : GO l a = (6 + 4, [-1, -1, -1, -1, (n : Int), ((n + 1 : Nat) : Int), ((n + 2 : Nat) : Int), ((n + 3 : Nat) : Int), ((n + 4 : Nat) : Int), ((n + 5 : Nat) : Int)])) (hM : ∀ i, n ≤ i → i < n + 6 → ∀ q, M i q = 0) : Ct E mX6_init 1 6 41 [vr a] n (GO ((a, (6 + 4, [-1, -1, -1, -1, -3, -3, -3, -3, -3, -3])) :: l)) M (Pk (n + 6) (GO l) M) := by
  refine Ct.of [some (vr a)] rfl rfl rfl (Nat.le_of_ble_eq_true rfl) ?_
  refine w_aload_n dX6_init_0 rfl ?_
  refine w_objInit dX6_init_1 li6_3 obj1 obj2 (by decide) (by decide) ?_
  refine w_aload_n dX6_init_4 rfl ?_
  refine w_iconst dX6_init_5 ?_
  refine k_newI (n := n) (n1 := n + 1) (c1 := 1) (s1 := 5) dX6_init_6 (by decide) (by decide) (by omega) rfl rfl rfl (by decide) ((GO_ne (by omega)).trans (g 0 (by decide))) (hM _ (by omega) (by omega)) ?_
  refine k_put (ty := .array .int) dX6_init_8 fl6_9 (by omega) (Nat.le_of_ble_eq_true rfl) (by decide +kernel) (by decide +kernel) (by decide +kernel) ⟨by decide +kernel, by decide +kernel, fun _ => rfl, fun _ => rfl⟩ (by decide +kernel) ?_
  refine w_aload_n dX6_init_11 rfl ?_
  refine w_iconst dX6_init_12 ?_
  refine k_newI (n := n + 1) (n1 := n + 2) (c1 := 2) (s1 := 10) dX6_init_13 (by decide) (by decide) (by omega) rfl rfl rfl (by decide) ((GO_ne (by omega)).trans (g 1 (by decide))) (hM _ (by omega) (by omega)) ?_
  refine k_put (ty := .array .int) dX6_init_15 fl6_15 (by omega) (Nat.le_of_ble_eq_true rfl) (by decide +kernel) (by decide +kernel) (by decide +kernel) ⟨by decide +kernel, by decide +kernel, fun _ => rfl, fun _ => rfl⟩ (by decide +kernel) ?_
  refine w_aload_n dX6_init_18 rfl ?_
  refine w_iconst dX6_init_19 ?_
  refine k_newI (n := n + 2) (n1 := n + 3) (c1 := 3) (s1 := 15) dX6_init_20 (by decide) (by decide) (by omega) rfl rfl rfl (by decide) ((GO_ne (by omega)).trans (g 2 (by decide))) (hM _ (by omega) (by omega)) ?_
  refine k_put (ty := .array .int) dX6_init_22 fl6_18 (by omega) (Nat.le_of_ble_eq_true rfl) (by decide +kernel) (by decide +kernel) (by decide +kernel) ⟨by decide +kernel, by decide +kernel, fun _ => rfl, fun _ => rfl⟩ (by decide +kernel) ?_
  refine w_aload_n dX6_init_25 rfl ?_
  refine w_iconst dX6_init_26 ?_
  refine k_newI (n := n + 3) (n1 := n + 4) (c1 := 4) (s1 := 20) dX6_init_27 (by decide) (by decide) (by omega) rfl rfl rfl (by decide) ((GO_ne (by omega)).trans (g 3 (by decide))) (hM _ (by omega) (by omega)) ?_
  refine k_put (ty := .array .int) dX6_init_29 fl6_21 (by omega) (Nat.le_of_ble_eq_true rfl) (by decide +kernel) (by decide +kernel) (by decide +kernel) ⟨by decide +kernel, by decide +kernel, fun _ => rfl, fun _ => rfl⟩ (by decide +kernel) ?_
  refine w_aload_n dX6_init_32 rfl ?_
  refine w_iconst dX6_init_33 ?_
  refine k_newI (n := n + 4) (n1 := n + 5) (c1 := 5) (s1 := 25) dX6_init_34 (by decide) (by decide) (by omega) rfl rfl rfl (by decide) ((GO_ne (by omega)).trans (g 4 (by decide))) (hM _ (by omega) (by omega)) ?_
  refine k_put (ty := .array .int) dX6_init_36 fl6_24 (by omega) (Nat.le_of_ble_eq_true rfl) (by decide +kernel) (by decide +kernel) (by decide +kernel) ⟨by decide +kernel, by decide +kernel, fun _ => rfl, fun _ => rfl⟩ (by decide +kernel) ?_
  refine w_aload_n dX6_init_39 rfl ?_
  refine w_bipush dX6_init_40 (by decide +kernel) ?_
  refine k_newI (n := n + 5) (n1 := n + 6) (c1 := 6) (s1 := 41) dX6_init_42 (by decide) (by decide) (by omega) rfl rfl rfl (by decide) ((GO_ne (by omega)).trans (g 5 (by decide))) (hM _ (by omega) (by omega)) ?_
  refine k_put (ty := .array .int) dX6_init_44 fl6_27 (by omega) (Nat.le_of_ble_eq_true rfl) (by decide +kernel) (by decide +kernel) (by decide +kernel) ⟨by decide +kernel, by decide +kernel, fun _ => rfl, fun _ => rfl⟩ (by decide +kernel) ?_
  refine k_done gA ?_
  exact k_ret dX6_init_47 rfl (by decide)
set_option maxRecDepth 100000 in
theorem c_X5_init {E : EV} : Ct E mX5_init 1 11 344 [vr 1] 2 (GO [(1, (5 + 4, [-3, -3, -3])), (0, (9 + 4, [-3, -3, -3, -3, -3, -3, -3, -3, -3, -3, -1, -1]))]) Mz (Pk 13 (GO [(0, (9 + 4, [-3, -3, -3, -3, -3, -3, -3, -3, -3, -3, -1, -1]))]) (mLn 2 8 Mz)) := by
  refine Ct.of [some (vr 1), none] rfl rfl rfl (Nat.le_of_ble_eq_true rfl) ?_
  refine w_aload_n dX5_init_0 rfl ?_
  refine w_objInit dX5_init_1 li5_1 obj1 obj2 (by decide) (by decide) ?_
  refine w_aload_n dX5_init_4 rfl ?_
  refine w_bipush dX5_init_5 (by decide +kernel) ?_
  refine k_newI (n1 := 3) (c1 := 1) (s1 := 8) dX5_init_7 (by decide) (by decide) (by decide) rfl rfl rfl (by decide) (by decide +kernel) (fun _ => rfl) ?_
  refine k_put (ty := (.array .int)) dX5_init_9 fl5_9 (by decide) (by decide) (by decide +kernel) (by decide +kernel) (by decide +kernel) ⟨by decide +kernel, by decide +kernel, fun _ => rfl, fun _ => rfl⟩ (by decide +kernel) ?_
  refine w_aload_n dX5_init_12 rfl ?_
  refine w_bipush dX5_init_13 (by decide +kernel) ?_
  refine k_newI (n1 := 4) (c1 := 2) (s1 := 16) dX5_init_15 (by decide) (by decide) (by decide) rfl rfl rfl (by decide) (by decide +kernel) (fun _ => rfl) ?_
  refine k_put (ty := (.array .int)) dX5_init_17 fl5_13 (by decide) (by decide) (by decide +kernel) (by decide +kernel) (by decide +kernel) ⟨by decide +kernel, by decide +kernel, fun _ => rfl, fun _ => rfl⟩ (by decide +kernel) ?_
  refine w_aload_n dX5_init_20 rfl ?_
  refine w_bipush dX5_init_21 (by decide +kernel) ?_
  refine w_bipush dX5_init_23 (by decide +kernel) ?_
  refine k_multi (n1 := 13) (c1 := 11) (s1 := 344) dX5_init_25 cn5_16 (by decide) (by decide) (by decide) (by decide) (by decide) rfl rfl rfl (by decide) (by decide +kernel) (show ∀ i, 4 < i → i ≤ 4 + 8 → _ from fun i h1 h2 => k_rng (n := 4) (N := 8) (by decide +kernel) i h1 h2) (fun _ _ _ _ => rfl) ?_
  refine k_put (ty := (.array (.array .int))) dX5_init_29 fl5_18 (by decide) (by decide) (by decide +kernel) (by decide +kernel) (by decide +kernel) ⟨by decide +kernel, by decide +kernel, fun _ => rfl, fun _ => rfl⟩ (by decide +kernel) ?_
  refine k_done (by decide +kernel) ?_
  refine w_iconst dX5_init_32 ?_
  refine w_istore_n dX5_init_33 (by decide) ?_
  refine w_iload_n dX5_init_34 rfl ?_
  refine w_bipush dX5_init_35 (by decide +kernel) ?_
  refine w_icmp_ge (tgt := 53) dX5_init_37 (by decide) (by decide) (by decide) (fun h => absurd h (by decide)) (fun _ => ?_)
  refine w_aload_n dX5_init_40 rfl ?_
  refine w_getR (fs := [2, 3, 4]) (r := 2) dX5_init_41 fl5_9 (by decide +kernel) (by decide) rfl ?_
  refine w_iload_n dX5_init_44 rfl ?_
  refine w_iconst dX5_init_45 ?_
  refine k_L0 (a := 2) ?_
  refine k_iastL (fs := [8]) dX5_init_46 (by decide +kernel) (by decide) (by decide) (by decide) (by decide) ?_
  refine w_iinc dX5_init_47 rfl (by decide) ?_
  refine w_goto (tgt := 34) dX5_init_50 (by decide) ?_
  refine w_iload_n dX5_init_34 rfl ?_
  refine w_bipush dX5_init_35 (by decide +kernel) ?_
  refine w_icmp_ge (tgt := 53) dX5_init_37 (by decide) (by decide) (by decide) (fun h => absurd h (by decide)) (fun _ => ?_)
  refine w_aload_n dX5_init_40 rfl ?_
  refine w_getR (fs := [2, 3, 4]) (r := 2) dX5_init_41 fl5_9 (by decide +kernel) (by decide) rfl ?_
  refine w_iload_n dX5_init_44 rfl ?_
  refine w_iconst dX5_init_45 ?_
  refine k_iastL (fs := [8]) dX5_init_46 (by decide +kernel) (by decide) (by decide) (by decide) (by decide) ?_
  refine w_iinc dX5_init_47 rfl (by decide) ?_
  refine w_goto (tgt := 34) dX5_init_50 (by decide) ?_
  refine w_iload_n dX5_init_34 rfl ?_
  refine w_bipush dX5_init_35 (by decide +kernel) ?_
  refine w_icmp_ge (tgt := 53) dX5_init_37 (by decide) (by decide) (by decide) (fun h => absurd h (by decide)) (fun _ => ?_)
  refine w_aload_n dX5_init_40 rfl ?_
  refine w_getR (fs := [2, 3, 4]) (r := 2) dX5_init_41 fl5_9 (by decide +kernel) (by decide) rfl ?_
  refine w_iload_n dX5_init_44 rfl ?_
  refine w_iconst dX5_init_45 ?_
  refine k_iastL (fs := [8]) dX5_init_46 (by decide +kernel) (by decide) (by decide) (by decide) (by decide) ?_
  refine w_iinc dX5_init_47 rfl (by decide) ?_
  refine w_goto (tgt := 34) dX5_init_50 (by decide) ?_
  refine w_iload_n dX5_init_34 rfl ?_
  refine w_bipush dX5_init_35 (by decide +kernel) ?_
  refine w_icmp_ge (tgt := 53) dX5_init_37 (by decide) (by decide) (by decide) (fun h => absurd h (by decide)) (fun _ => ?_)
  refine w_aload_n dX5_init_40 rfl ?_
  refine w_getR (fs := [2, 3, 4]) (r := 2) dX5_init_41 fl5_9 (by decide +kernel) (by decide) rfl ?_
  refine w_iload_n dX5_init_44 rfl ?_
  refine w_iconst dX5_init_45 ?_
  refine k_iastL (fs := [8]) dX5_init_46 (by decide +kernel) (by decide) (by decide) (by decide) (by decide) ?_
  refine w_iinc dX5_init_47 rfl (by decide) ?_
  refine w_goto (tgt := 34) dX5_init_50 (by decide) ?_
  refine w_iload_n dX5_init_34 rfl ?_
  refine w_bipush dX5_init_35 (by decide +kernel) ?_
  refine w_icmp_ge (tgt := 53) dX5_init_37 (by decide) (by decide) (by decide) (fun h => absurd h (by decide)) (fun _ => ?_)
  refine w_aload_n dX5_init_40 rfl ?_
  refine w_getR (fs := [2, 3, 4]) (r := 2) dX5_init_41 fl5_9 (by decide +kernel) (by decide) rfl ?_
  refine w_iload_n dX5_init_44 rfl ?_
  refine w_iconst dX5_init_45 ?_
  refine k_iastL (fs := [8]) dX5_init_46 (by decide +kernel) (by decide) (by decide) (by decide) (by decide) ?_
  refine w_iinc dX5_init_47 rfl (by decide) ?_
  refine w_goto (tgt := 34) dX5_init_50 (by decide) ?_
  refine w_iload_n dX5_init_34 rfl ?_
  refine w_bipush dX5_init_35 (by decide +kernel) ?_
  refine w_icmp_ge (tgt := 53) dX5_init_37 (by decide) (by decide) (by decide) (fun h => absurd h (by decide)) (fun _ => ?_)
  refine w_aload_n dX5_init_40 rfl ?_
  refine w_getR (fs := [2, 3, 4]) (r := 2) dX5_init_41 fl5_9 (by decide +kernel) (by decide) rfl ?_
  refine w_iload_n dX5_init_44 rfl ?_
  refine w_iconst dX5_init_45 ?_
  refine k_iastL (fs := [8]) dX5_init_46 (by decide +kernel) (by decide) (by decide) (by decide) (by decide) ?_
  refine w_iinc dX5_init_47 rfl (by decide) ?_
  refine w_goto (tgt := 34) dX5_init_50 (by decide) ?_
  refine w_iload_n dX5_init_34 rfl ?_
  refine w_bipush dX5_init_35 (by decide +kernel) ?_
  refine w_icmp_ge (tgt := 53) dX5_init_37 (by decide) (by decide) (by decide) (fun h => absurd h (by decide)) (fun _ => ?_)
  refine w_aload_n dX5_init_40 rfl ?_
  refine w_getR (fs := [2, 3, 4]) (r := 2) dX5_init_41 fl5_9 (by decide +kernel) (by decide) rfl ?_
  refine w_iload_n dX5_init_44 rfl ?_
  refine w_iconst dX5_init_45 ?_
  refine k_iastL (fs := [8]) dX5_init_46 (by decide +kernel) (by decide) (by decide) (by decide) (by decide) ?_
  refine w_iinc dX5_init_47 rfl (by decide) ?_
  refine w_goto (tgt := 34) dX5_init_50 (by decide) ?_
  refine w_iload_n dX5_init_34 rfl ?_
  refine w_bipush dX5_init_35 (by decide +kernel) ?_
  refine w_icmp_ge (tgt := 53) dX5_init_37 (by decide) (by decide) (by decide) (fun h => absurd h (by decide)) (fun _ => ?_)
  refine w_aload_n dX5_init_40 rfl ?_
  refine w_getR (fs := [2, 3, 4]) (r := 2) dX5_init_41 fl5_9 (by decide +kernel) (by decide) rfl ?_
  refine w_iload_n dX5_init_44 rfl ?_
  refine w_iconst dX5_init_45 ?_
  refine k_iastL (fs := [8]) dX5_init_46 (by decide +kernel) (by decide) (by decide) (by decide) (by decide) ?_
  refine w_iinc dX5_init_47 rfl (by decide) ?_
  refine w_goto (tgt := 34) dX5_init_50 (by decide) ?_
  refine w_iload_n dX5_init_34 rfl ?_
  refine w_bipush dX5_init_35 (by decide +kernel) ?_
  refine w_icmp_ge (tgt := 53) dX5_init_37 (by decide) (by decide) (by decide) (fun _ => ?_) (fun h => absurd (by decide) h)
  exact k_ret dX5_init_53 rfl (by decide)
set_option maxRecDepth 100000 in
theorem c_X7_init {E : EV} : Ct E mX7_init 1 1 100 [vr 13] 14 (GO [(13, (7 + 4, [-3, -1])), (0, (9 + 4, [1, -3, -3, -3, -3, -3, -3, -3, -3, -3, -1, -1]))]) (mLn 2 8 Mz) (Pk 15 (GO [(0, (9 + 4, [1, -3, -3, -3, -3, -3, -3, -3, -3, -3, -1, -1]))]) (mLn 2 8 Mz)) := by
  refine Ct.of [some (vr 13)] rfl rfl rfl (Nat.le_of_ble_eq_true rfl) ?_
  refine w_aload_n dX7_init_0 rfl ?_
  refine w_objInit dX7_init_1 li7_1 obj1 obj2 (by decide) (by decide) ?_
  refine w_aload_n dX7_init_4 rfl ?_
  refine w_bipush dX7_init_5 (by decide +kernel) ?_
  refine k_newI (n1 := 15) (c1 := 1) (s1 := 100) dX7_init_7 (by decide) (by decide) (by decide) rfl rfl rfl (by decide) (by decide +kernel) (hz1 (by decide)) ?_
  refine k_put (ty := (.array .int)) dX7_init_9 fl7_9 (by decide) (by decide) (by decide +kernel) (by decide +kernel) (by decide +kernel) ⟨by decide +kernel, by decide +kernel, fun _ => rfl, fun _ => rfl⟩ (by decide +kernel) ?_
  refine k_done (by decide +kernel) ?_
  exact k_ret dX7_init_12 rfl (by decide)
set_option maxRecDepth 100000 in
theorem c_X4_init {E : EV} : Ct E mX4_init 2 7 51 [vr 15, vr 13] 16 (GO [(15, (4 + 4, [-3, -1, -3, -1])), (0, (9 + 4, [1, 13, -3, -3, -3, -3, -3, -3, -3, -3, -1, -1]))]) (mLn 2 8 Mz) (Pk 23 (GO [(0, (9 + 4, [1, 13, -3, -3, -3, -3, -3, -3, -3, -3, -1, -1]))]) (mLn 2 8 Mz)) := by
  refine Ct.of [some (vr 15), some (vr 13)] rfl rfl rfl (Nat.le_of_ble_eq_true rfl) ?_
  refine w_aload_n dX4_init_0 rfl ?_
  refine w_objInit dX4_init_1 li4_3 obj1 obj2 (by decide) (by decide) ?_
  refine w_aload_n dX4_init_4 rfl ?_
  refine k_new (ci := 6) (fs := [-1, -1, -1, -1, -3, -3, -3, -3, -3, -3]) (n1 := 17) (c1 := 1) (s1 := 10) dX4_init_5 (by decide) cn4_9 inst6 ini6 nf6 (by decide) rfl rfl rfl (by decide) (hz1 (by decide)) ?_
  refine w_dup dX4_init_8 rfl ?_
  refine k_init (n1 := 23) (c1 := 7) (s1 := 51) dX4_init_9 ok_X6_init (Or.inr lj4_11) (c_X6_init (a := 16) (n := 17) (l := [(15, (4 + 4, [-3, -1, -3, -1])), (0, (9 + 4, [1, 13, -3, -3, -3, -3, -3, -3, -3, -3, -1, -1]))]) (M := (mLn 2 8 Mz)) (by decide) (by decide) (by decide +kernel) (by decide +kernel) (fun i h1 h2 => hz1 (by omega))) rfl rfl (by decide) rfl rfl (by decide) (by decide) ?_
  refine k_put (ty := (.object "SignedClouds$Sky")) dX4_init_12 fl4_12 (by decide) (by decide) (by decide +kernel) (by decide +kernel) (by decide +kernel) ⟨by decide +kernel, by decide +kernel, fun _ => rfl, fun _ => rfl⟩ (by decide +kernel) ?_
  refine w_aload_n dX4_init_15 rfl ?_
  refine w_aload_n dX4_init_16 rfl ?_
  refine k_put (ty := (.object "SignedClouds$Tape")) dX4_init_17 fl4_18 (by decide) (by decide) (by decide +kernel) (by decide +kernel) (by decide +kernel) ⟨by decide +kernel, by decide +kernel, fun _ => rfl, fun _ => rfl⟩ (by decide +kernel) ?_
  refine k_done (by decide +kernel) ?_
  exact k_ret dX4_init_20 rfl (by decide)
set_option maxRecDepth 100000 in
theorem c_X0_init {E : EV} : Ct E mX0_init 2 169 1248 [vr 30, vr 23] 31 (GO [(30, (0 + 4, [-1, -3, -3, -1])), (0, (9 + 4, [1, 13, 15, 23, -3, -3, -3, -3, -3, -3, -1, -1]))]) (mLn 2 8 Mz) (Pk 200 (GO [(0, (9 + 4, [1, 13, 15, 23, -3, -3, -3, -3, -3, -3, -1, -1]))]) (mLn 2 8 Mz)) := by
  refine Ct.of [some (vr 30), some (vr 23), none] rfl rfl rfl (Nat.le_of_ble_eq_true rfl) ?_
  refine w_aload_n dX0_init_0 rfl ?_
  refine w_objInit dX0_init_1 li0_1 obj1 obj2 (by decide) (by decide) ?_
  refine w_aload_n dX0_init_4 rfl ?_
  refine w_bipush dX0_init_5 (by decide +kernel) ?_
  refine k_anew (fs := [-3, -3, -3, -3, -3, -3, -3, -3, -3, -3, -3, -3, -3, -3, -3, -3, -3, -3, -3, -3, -3, -3, -3, -3]) (n1 := 32) (c1 := 1) (s1 := 24) dX0_init_7 cn0_9 (by decide) (by decide) rfl (by decide) rfl rfl rfl (by decide) (hz1 (by decide)) ?_
  refine k_put2 (ty := (.array (.object "SignedClouds$Sky"))) dX0_init_10 (by decide) fl0_11 (by decide) (by decide) (by decide +kernel) (by decide +kernel) (by decide +kernel) ⟨by decide +kernel, by decide +kernel, fun _ => rfl, fun _ => rfl⟩ (by decide +kernel) ?_
  refine w_aload_n dX0_init_13 rfl ?_
  refine w_aload_n dX0_init_14 rfl ?_
  refine k_put2 (ty := (.object "SignedClouds$Sky")) dX0_init_15 (by decide) fl0_15 (by decide) (by decide) (by decide +kernel) (by decide +kernel) (by decide +kernel) ⟨by decide +kernel, by decide +kernel, fun _ => rfl, fun _ => rfl⟩ (by decide +kernel) ?_
  refine k_done2 (by decide +kernel) ?_
  refine w_iconst dX0_init_18 ?_
  refine w_istore_n dX0_init_19 (by decide) ?_
  refine w_iload_n dX0_init_20 rfl ?_
  refine w_bipush dX0_init_21 (by decide +kernel) ?_
  refine w_icmp_ge (tgt := 45) dX0_init_23 (by decide) (by decide) (by decide) (fun h => absurd h (by decide)) (fun _ => ?_)
  refine w_aload_n dX0_init_26 rfl ?_
  refine w_getR (fs := [-1, 23, 31, -1]) (r := 31) dX0_init_27 fl0_11 (by decide +kernel) (by decide) rfl ?_
  refine w_iload_n dX0_init_30 rfl ?_
  refine k_new (ci := 6) (fs := [-1, -1, -1, -1, -3, -3, -3, -3, -3, -3]) (n1 := 33) (c1 := 2) (s1 := 34) dX0_init_31 (by decide) cn0_9 inst6 ini6 nf6 (by decide) rfl rfl rfl (by decide) (hz1 (by decide)) ?_
  refine w_dup dX0_init_34 rfl ?_
  refine k_init (n1 := 39) (c1 := 8) (s1 := 75) dX0_init_35 ok_X6_init (Or.inr lj0_19) (c_X6_init (a := 32) (n := 33) (l := [(31, (2, [-3, -3, -3, -3, -3, -3, -3, -3, -3, -3, -3, -3, -3, -3, -3, -3, -3, -3, -3, -3, -3, -3, -3, -3])), (0, (9 + 4, [1, 13, 15, 23, -3, -3, -3, -3, -3, -3, -1, -1]))]) (M := (mLn 2 8 Mz)) (by decide) (by decide) (by decide +kernel) (by decide +kernel) (fun i h1 h2 => hz1 (by omega))) rfl rfl (by decide) rfl rfl (by decide) (by decide) ?_
  refine k_aast (gs := [-1, -1, -1, -1, 33, 34, 35, 36, 37, 38]) dX0_init_38 (by decide) (by decide) (by decide +kernel) (by decide) (by decide) (by decide) ?_
  refine w_iinc dX0_init_39 rfl (by decide) ?_
  refine w_goto (tgt := 20) dX0_init_42 (by decide) ?_
  refine w_iload_n dX0_init_20 rfl ?_
  refine w_bipush dX0_init_21 (by decide +kernel) ?_
  refine w_icmp_ge (tgt := 45) dX0_init_23 (by decide) (by decide) (by decide) (fun h => absurd h (by decide)) (fun _ => ?_)
  refine w_aload_n dX0_init_26 rfl ?_
  refine w_getR (fs := [-1, 23, 31, -1]) (r := 31) dX0_init_27 fl0_11 (by decide +kernel) (by decide) rfl ?_
  refine w_iload_n dX0_init_30 rfl ?_
  refine k_new (ci := 6) (fs := [-1, -1, -1, -1, -3, -3, -3, -3, -3, -3]) (n1 := 40) (c1 := 9) (s1 := 85) dX0_init_31 (by decide) cn0_9 inst6 ini6 nf6 (by decide) rfl rfl rfl (by decide) (hz1 (by decide)) ?_
  refine w_dup dX0_init_34 rfl ?_
  refine k_init (n1 := 46) (c1 := 15) (s1 := 126) dX0_init_35 ok_X6_init (Or.inr lj0_19) (c_X6_init (a := 39) (n := 40) (l := [(31, (2, [32, -3, -3, -3, -3, -3, -3, -3, -3, -3, -3, -3, -3, -3, -3, -3, -3, -3, -3, -3, -3, -3, -3, -3])), (0, (9 + 4, [1, 13, 15, 23, -3, -3, -3, -3, -3, -3, -1, -1]))]) (M := (mLn 2 8 Mz)) (by decide) (by decide) (by decide +kernel) (by decide +kernel) (fun i h1 h2 => hz1 (by omega))) rfl rfl (by decide) rfl rfl (by decide) (by decide) ?_
  refine k_aast (gs := [-1, -1, -1, -1, 40, 41, 42, 43, 44, 45]) dX0_init_38 (by decide) (by decide) (by decide +kernel) (by decide) (by decide) (by decide) ?_
  refine w_iinc dX0_init_39 rfl (by decide) ?_
  refine w_goto (tgt := 20) dX0_init_42 (by decide) ?_
  refine w_iload_n dX0_init_20 rfl ?_
  refine w_bipush dX0_init_21 (by decide +kernel) ?_
  refine w_icmp_ge (tgt := 45) dX0_init_23 (by decide) (by decide) (by decide) (fun h => absurd h (by decide)) (fun _ => ?_)
  refine w_aload_n dX0_init_26 rfl ?_
  refine w_getR (fs := [-1, 23, 31, -1]) (r := 31) dX0_init_27 fl0_11 (by decide +kernel) (by decide) rfl ?_
  refine w_iload_n dX0_init_30 rfl ?_
  refine k_new (ci := 6) (fs := [-1, -1, -1, -1, -3, -3, -3, -3, -3, -3]) (n1 := 47) (c1 := 16) (s1 := 136) dX0_init_31 (by decide) cn0_9 inst6 ini6 nf6 (by decide) rfl rfl rfl (by decide) (hz1 (by decide)) ?_
  refine w_dup dX0_init_34 rfl ?_
  refine k_init (n1 := 53) (c1 := 22) (s1 := 177) dX0_init_35 ok_X6_init (Or.inr lj0_19) (c_X6_init (a := 46) (n := 47) (l := [(31, (2, [32, 39, -3, -3, -3, -3, -3, -3, -3, -3, -3, -3, -3, -3, -3, -3, -3, -3, -3, -3, -3, -3, -3, -3])), (0, (9 + 4, [1, 13, 15, 23, -3, -3, -3, -3, -3, -3, -1, -1]))]) (M := (mLn 2 8 Mz)) (by decide) (by decide) (by decide +kernel) (by decide +kernel) (fun i h1 h2 => hz1 (by omega))) rfl rfl (by decide) rfl rfl (by decide) (by decide) ?_
  refine k_aast (gs := [-1, -1, -1, -1, 47, 48, 49, 50, 51, 52]) dX0_init_38 (by decide) (by decide) (by decide +kernel) (by decide) (by decide) (by decide) ?_
  refine w_iinc dX0_init_39 rfl (by decide) ?_
  refine w_goto (tgt := 20) dX0_init_42 (by decide) ?_
  refine w_iload_n dX0_init_20 rfl ?_
  refine w_bipush dX0_init_21 (by decide +kernel) ?_
  refine w_icmp_ge (tgt := 45) dX0_init_23 (by decide) (by decide) (by decide) (fun h => absurd h (by decide)) (fun _ => ?_)
  refine w_aload_n dX0_init_26 rfl ?_
  refine w_getR (fs := [-1, 23, 31, -1]) (r := 31) dX0_init_27 fl0_11 (by decide +kernel) (by decide) rfl ?_
  refine w_iload_n dX0_init_30 rfl ?_
  refine k_new (ci := 6) (fs := [-1, -1, -1, -1, -3, -3, -3, -3, -3, -3]) (n1 := 54) (c1 := 23) (s1 := 187) dX0_init_31 (by decide) cn0_9 inst6 ini6 nf6 (by decide) rfl rfl rfl (by decide) (hz1 (by decide)) ?_
  refine w_dup dX0_init_34 rfl ?_
  refine k_init (n1 := 60) (c1 := 29) (s1 := 228) dX0_init_35 ok_X6_init (Or.inr lj0_19) (c_X6_init (a := 53) (n := 54) (l := [(31, (2, [32, 39, 46, -3, -3, -3, -3, -3, -3, -3, -3, -3, -3, -3, -3, -3, -3, -3, -3, -3, -3, -3, -3, -3])), (0, (9 + 4, [1, 13, 15, 23, -3, -3, -3, -3, -3, -3, -1, -1]))]) (M := (mLn 2 8 Mz)) (by decide) (by decide) (by decide +kernel) (by decide +kernel) (fun i h1 h2 => hz1 (by omega))) rfl rfl (by decide) rfl rfl (by decide) (by decide) ?_
  refine k_aast (gs := [-1, -1, -1, -1, 54, 55, 56, 57, 58, 59]) dX0_init_38 (by decide) (by decide) (by decide +kernel) (by decide) (by decide) (by decide) ?_
  refine w_iinc dX0_init_39 rfl (by decide) ?_
  refine w_goto (tgt := 20) dX0_init_42 (by decide) ?_
  refine w_iload_n dX0_init_20 rfl ?_
  refine w_bipush dX0_init_21 (by decide +kernel) ?_
  refine w_icmp_ge (tgt := 45) dX0_init_23 (by decide) (by decide) (by decide) (fun h => absurd h (by decide)) (fun _ => ?_)
  refine w_aload_n dX0_init_26 rfl ?_
  refine w_getR (fs := [-1, 23, 31, -1]) (r := 31) dX0_init_27 fl0_11 (by decide +kernel) (by decide) rfl ?_
  refine w_iload_n dX0_init_30 rfl ?_
  refine k_new (ci := 6) (fs := [-1, -1, -1, -1, -3, -3, -3, -3, -3, -3]) (n1 := 61) (c1 := 30) (s1 := 238) dX0_init_31 (by decide) cn0_9 inst6 ini6 nf6 (by decide) rfl rfl rfl (by decide) (hz1 (by decide)) ?_
  refine w_dup dX0_init_34 rfl ?_
  refine k_init (n1 := 67) (c1 := 36) (s1 := 279) dX0_init_35 ok_X6_init (Or.inr lj0_19) (c_X6_init (a := 60) (n := 61) (l := [(31, (2, [32, 39, 46, 53, -3, -3, -3, -3, -3, -3, -3, -3, -3, -3, -3, -3, -3, -3, -3, -3, -3, -3, -3, -3])), (0, (9 + 4, [1, 13, 15, 23, -3, -3, -3, -3, -3, -3, -1, -1]))]) (M := (mLn 2 8 Mz)) (by decide) (by decide) (by decide +kernel) (by decide +kernel) (fun i h1 h2 => hz1 (by omega))) rfl rfl (by decide) rfl rfl (by decide) (by decide) ?_
  refine k_aast (gs := [-1, -1, -1, -1, 61, 62, 63, 64, 65, 66]) dX0_init_38 (by decide) (by decide) (by decide +kernel) (by decide) (by decide) (by decide) ?_
  refine w_iinc dX0_init_39 rfl (by decide) ?_
  refine w_goto (tgt := 20) dX0_init_42 (by decide) ?_
  refine w_iload_n dX0_init_20 rfl ?_
  refine w_bipush dX0_init_21 (by decide +kernel) ?_
  refine w_icmp_ge (tgt := 45) dX0_init_23 (by decide) (by decide) (by decide) (fun h => absurd h (by decide)) (fun _ => ?_)
  refine w_aload_n dX0_init_26 rfl ?_
  refine w_getR (fs := [-1, 23, 31, -1]) (r := 31) dX0_init_27 fl0_11 (by decide +kernel) (by decide) rfl ?_
  refine w_iload_n dX0_init_30 rfl ?_
  refine k_new (ci := 6) (fs := [-1, -1, -1, -1, -3, -3, -3, -3, -3, -3]) (n1 := 68) (c1 := 37) (s1 := 289) dX0_init_31 (by decide) cn0_9 inst6 ini6 nf6 (by decide) rfl rfl rfl (by decide) (hz1 (by decide)) ?_
  refine w_dup dX0_init_34 rfl ?_
  refine k_init (n1 := 74) (c1 := 43) (s1 := 330) dX0_init_35 ok_X6_init (Or.inr lj0_19) (c_X6_init (a := 67) (n := 68) (l := [(31, (2, [32, 39, 46, 53, 60, -3, -3, -3, -3, -3, -3, -3, -3, -3, -3, -3, -3, -3, -3, -3, -3, -3, -3, -3])), (0, (9 + 4, [1, 13, 15, 23, -3, -3, -3, -3, -3, -3, -1, -1]))]) (M := (mLn 2 8 Mz)) (by decide) (by decide) (by decide +kernel) (by decide +kernel) (fun i h1 h2 => hz1 (by omega))) rfl rfl (by decide) rfl rfl (by decide) (by decide) ?_
  refine k_aast (gs := [-1, -1, -1, -1, 68, 69, 70, 71, 72, 73]) dX0_init_38 (by decide) (by decide) (by decide +kernel) (by decide) (by decide) (by decide) ?_
  refine w_iinc dX0_init_39 rfl (by decide) ?_
  refine w_goto (tgt := 20) dX0_init_42 (by decide) ?_
  refine w_iload_n dX0_init_20 rfl ?_
  refine w_bipush dX0_init_21 (by decide +kernel) ?_
  refine w_icmp_ge (tgt := 45) dX0_init_23 (by decide) (by decide) (by decide) (fun h => absurd h (by decide)) (fun _ => ?_)
  refine w_aload_n dX0_init_26 rfl ?_
  refine w_getR (fs := [-1, 23, 31, -1]) (r := 31) dX0_init_27 fl0_11 (by decide +kernel) (by decide) rfl ?_
  refine w_iload_n dX0_init_30 rfl ?_
  refine k_new (ci := 6) (fs := [-1, -1, -1, -1, -3, -3, -3, -3, -3, -3]) (n1 := 75) (c1 := 44) (s1 := 340) dX0_init_31 (by decide) cn0_9 inst6 ini6 nf6 (by decide) rfl rfl rfl (by decide) (hz1 (by decide)) ?_
  refine w_dup dX0_init_34 rfl ?_
  refine k_init (n1 := 81) (c1 := 50) (s1 := 381) dX0_init_35 ok_X6_init (Or.inr lj0_19) (c_X6_init (a := 74) (n := 75) (l := [(31, (2, [32, 39, 46, 53, 60, 67, -3, -3, -3, -3, -3, -3, -3, -3, -3, -3, -3, -3, -3, -3, -3, -3, -3, -3])), (0, (9 + 4, [1, 13, 15, 23, -3, -3, -3, -3, -3, -3, -1, -1]))]) (M := (mLn 2 8 Mz)) (by decide) (by decide) (by decide +kernel) (by decide +kernel) (fun i h1 h2 => hz1 (by omega))) rfl rfl (by decide) rfl rfl (by decide) (by decide) ?_
  refine k_aast (gs := [-1, -1, -1, -1, 75, 76, 77, 78, 79, 80]) dX0_init_38 (by decide) (by decide) (by decide +kernel) (by decide) (by decide) (by decide) ?_
  refine w_iinc dX0_init_39 rfl (by decide) ?_
  refine w_goto (tgt := 20) dX0_init_42 (by decide) ?_
  refine w_iload_n dX0_init_20 rfl ?_
  refine w_bipush dX0_init_21 (by decide +kernel) ?_
  refine w_icmp_ge (tgt := 45) dX0_init_23 (by decide) (by decide) (by decide) (fun h => absurd h (by decide)) (fun _ => ?_)
  refine w_aload_n dX0_init_26 rfl ?_
  refine w_getR (fs := [-1, 23, 31, -1]) (r := 31) dX0_init_27 fl0_11 (by decide +kernel) (by decide) rfl ?_
  refine w_iload_n dX0_init_30 rfl ?_
  refine k_new (ci := 6) (fs := [-1, -1, -1, -1, -3, -3, -3, -3, -3, -3]) (n1 := 82) (c1 := 51) (s1 := 391) dX0_init_31 (by decide) cn0_9 inst6 ini6 nf6 (by decide) rfl rfl rfl (by decide) (hz1 (by decide)) ?_
  refine w_dup dX0_init_34 rfl ?_
  refine k_init (n1 := 88) (c1 := 57) (s1 := 432) dX0_init_35 ok_X6_init (Or.inr lj0_19) (c_X6_init (a := 81) (n := 82) (l := [(31, (2, [32, 39, 46, 53, 60, 67, 74, -3, -3, -3, -3, -3, -3, -3, -3, -3, -3, -3, -3, -3, -3, -3, -3, -3])), (0, (9 + 4, [1, 13, 15, 23, -3, -3, -3, -3, -3, -3, -1, -1]))]) (M := (mLn 2 8 Mz)) (by decide) (by decide) (by decide +kernel) (by decide +kernel) (fun i h1 h2 => hz1 (by omega))) rfl rfl (by decide) rfl rfl (by decide) (by decide) ?_
  refine k_aast (gs := [-1, -1, -1, -1, 82, 83, 84, 85, 86, 87]) dX0_init_38 (by decide) (by decide) (by decide +kernel) (by decide) (by decide) (by decide) ?_
  refine w_iinc dX0_init_39 rfl (by decide) ?_
  refine w_goto (tgt := 20) dX0_init_42 (by decide) ?_
  refine w_iload_n dX0_init_20 rfl ?_
  refine w_bipush dX0_init_21 (by decide +kernel) ?_
  refine w_icmp_ge (tgt := 45) dX0_init_23 (by decide) (by decide) (by decide) (fun h => absurd h (by decide)) (fun _ => ?_)
  refine w_aload_n dX0_init_26 rfl ?_
  refine w_getR (fs := [-1, 23, 31, -1]) (r := 31) dX0_init_27 fl0_11 (by decide +kernel) (by decide) rfl ?_
  refine w_iload_n dX0_init_30 rfl ?_
  refine k_new (ci := 6) (fs := [-1, -1, -1, -1, -3, -3, -3, -3, -3, -3]) (n1 := 89) (c1 := 58) (s1 := 442) dX0_init_31 (by decide) cn0_9 inst6 ini6 nf6 (by decide) rfl rfl rfl (by decide) (hz1 (by decide)) ?_
  refine w_dup dX0_init_34 rfl ?_
  refine k_init (n1 := 95) (c1 := 64) (s1 := 483) dX0_init_35 ok_X6_init (Or.inr lj0_19) (c_X6_init (a := 88) (n := 89) (l := [(31, (2, [32, 39, 46, 53, 60, 67, 74, 81, -3, -3, -3, -3, -3, -3, -3, -3, -3, -3, -3, -3, -3, -3, -3, -3])), (0, (9 + 4, [1, 13, 15, 23, -3, -3, -3, -3, -3, -3, -1, -1]))]) (M := (mLn 2 8 Mz)) (by decide) (by decide) (by decide +kernel) (by decide +kernel) (fun i h1 h2 => hz1 (by omega))) rfl rfl (by decide) rfl rfl (by decide) (by decide) ?_
  refine k_aast (gs := [-1, -1, -1, -1, 89, 90, 91, 92, 93, 94]) dX0_init_38 (by decide) (by decide) (by decide +kernel) (by decide) (by decide) (by decide) ?_
  refine w_iinc dX0_init_39 rfl (by decide) ?_
  refine w_goto (tgt := 20) dX0_init_42 (by decide) ?_
  refine w_iload_n dX0_init_20 rfl ?_
  refine w_bipush dX0_init_21 (by decide +kernel) ?_
  refine w_icmp_ge (tgt := 45) dX0_init_23 (by decide) (by decide) (by decide) (fun h => absurd h (by decide)) (fun _ => ?_)
  refine w_aload_n dX0_init_26 rfl ?_
  refine w_getR (fs := [-1, 23, 31, -1]) (r := 31) dX0_init_27 fl0_11 (by decide +kernel) (by decide) rfl ?_
  refine w_iload_n dX0_init_30 rfl ?_
  refine k_new (ci := 6) (fs := [-1, -1, -1, -1, -3, -3, -3, -3, -3, -3]) (n1 := 96) (c1 := 65) (s1 := 493) dX0_init_31 (by decide) cn0_9 inst6 ini6 nf6 (by decide) rfl rfl rfl (by decide) (hz1 (by decide)) ?_
  refine w_dup dX0_init_34 rfl ?_
  refine k_init (n1 := 102) (c1 := 71) (s1 := 534) dX0_init_35 ok_X6_init (Or.inr lj0_19) (c_X6_init (a := 95) (n := 96) (l := [(31, (2, [32, 39, 46, 53, 60, 67, 74, 81, 88, -3, -3, -3, -3, -3, -3, -3, -3, -3, -3, -3, -3, -3, -3, -3])), (0, (9 + 4, [1, 13, 15, 23, -3, -3, -3, -3, -3, -3, -1, -1]))]) (M := (mLn 2 8 Mz)) (by decide) (by decide) (by decide +kernel) (by decide +kernel) (fun i h1 h2 => hz1 (by omega))) rfl rfl (by decide) rfl rfl (by decide) (by decide) ?_
  refine k_aast (gs := [-1, -1, -1, -1, 96, 97, 98, 99, 100, 101]) dX0_init_38 (by decide) (by decide) (by decide +kernel) (by decide) (by decide) (by decide) ?_
  refine w_iinc dX0_init_39 rfl (by decide) ?_
  refine w_goto (tgt := 20) dX0_init_42 (by decide) ?_
  refine w_iload_n dX0_init_20 rfl ?_
  refine w_bipush dX0_init_21 (by decide +kernel) ?_
  refine w_icmp_ge (tgt := 45) dX0_init_23 (by decide) (by decide) (by decide) (fun h => absurd h (by decide)) (fun _ => ?_)
  refine w_aload_n dX0_init_26 rfl ?_
  refine w_getR (fs := [-1, 23, 31, -1]) (r := 31) dX0_init_27 fl0_11 (by decide +kernel) (by decide) rfl ?_
  refine w_iload_n dX0_init_30 rfl ?_
  refine k_new (ci := 6) (fs := [-1, -1, -1, -1, -3, -3, -3, -3, -3, -3]) (n1 := 103) (c1 := 72) (s1 := 544) dX0_init_31 (by decide) cn0_9 inst6 ini6 nf6 (by decide) rfl rfl rfl (by decide) (hz1 (by decide)) ?_
  refine w_dup dX0_init_34 rfl ?_
  refine k_init (n1 := 109) (c1 := 78) (s1 := 585) dX0_init_35 ok_X6_init (Or.inr lj0_19) (c_X6_init (a := 102) (n := 103) (l := [(31, (2, [32, 39, 46, 53, 60, 67, 74, 81, 88, 95, -3, -3, -3, -3, -3, -3, -3, -3, -3, -3, -3, -3, -3, -3])), (0, (9 + 4, [1, 13, 15, 23, -3, -3, -3, -3, -3, -3, -1, -1]))]) (M := (mLn 2 8 Mz)) (by decide) (by decide) (by decide +kernel) (by decide +kernel) (fun i h1 h2 => hz1 (by omega))) rfl rfl (by decide) rfl rfl (by decide) (by decide) ?_
  refine k_aast (gs := [-1, -1, -1, -1, 103, 104, 105, 106, 107, 108]) dX0_init_38 (by decide) (by decide) (by decide +kernel) (by decide) (by decide) (by decide) ?_
  refine w_iinc dX0_init_39 rfl (by decide) ?_
  refine w_goto (tgt := 20) dX0_init_42 (by decide) ?_
  refine w_iload_n dX0_init_20 rfl ?_
  refine w_bipush dX0_init_21 (by decide +kernel) ?_
  refine w_icmp_ge (tgt := 45) dX0_init_23 (by decide) (by decide) (by decide) (fun h => absurd h (by decide)) (fun _ => ?_)
  refine w_aload_n dX0_init_26 rfl ?_
  refine w_getR (fs := [-1, 23, 31, -1]) (r := 31) dX0_init_27 fl0_11 (by decide +kernel) (by decide) rfl ?_
  refine w_iload_n dX0_init_30 rfl ?_
  refine k_new (ci := 6) (fs := [-1, -1, -1, -1, -3, -3, -3, -3, -3, -3]) (n1 := 110) (c1 := 79) (s1 := 595) dX0_init_31 (by decide) cn0_9 inst6 ini6 nf6 (by decide) rfl rfl rfl (by decide) (hz1 (by decide)) ?_
  refine w_dup dX0_init_34 rfl ?_
  refine k_init (n1 := 116) (c1 := 85) (s1 := 636) dX0_init_35 ok_X6_init (Or.inr lj0_19) (c_X6_init (a := 109) (n := 110) (l := [(31, (2, [32, 39, 46, 53, 60, 67, 74, 81, 88, 95, 102, -3, -3, -3, -3, -3, -3, -3, -3, -3, -3, -3, -3, -3])), (0, (9 + 4, [1, 13, 15, 23, -3, -3, -3, -3, -3, -3, -1, -1]))]) (M := (mLn 2 8 Mz)) (by decide) (by decide) (by decide +kernel) (by decide +kernel) (fun i h1 h2 => hz1 (by omega))) rfl rfl (by decide) rfl rfl (by decide) (by decide) ?_
  refine k_aast (gs := [-1, -1, -1, -1, 110, 111, 112, 113, 114, 115]) dX0_init_38 (by decide) (by decide) (by decide +kernel) (by decide) (by decide) (by decide) ?_
  refine w_iinc dX0_init_39 rfl (by decide) ?_
  refine w_goto (tgt := 20) dX0_init_42 (by decide) ?_
  refine w_iload_n dX0_init_20 rfl ?_
  refine w_bipush dX0_init_21 (by decide +kernel) ?_
  refine w_icmp_ge (tgt := 45) dX0_init_23 (by decide) (by decide) (by decide) (fun h => absurd h (by decide)) (fun _ => ?_)
  refine w_aload_n dX0_init_26 rfl ?_
  refine w_getR (fs := [-1, 23, 31, -1]) (r := 31) dX0_init_27 fl0_11 (by decide +kernel) (by decide) rfl ?_
  refine w_iload_n dX0_init_30 rfl ?_
  refine k_new (ci := 6) (fs := [-1, -1, -1, -1, -3, -3, -3, -3, -3, -3]) (n1 := 117) (c1 := 86) (s1 := 646) dX0_init_31 (by decide) cn0_9 inst6 ini6 nf6 (by decide) rfl rfl rfl (by decide) (hz1 (by decide)) ?_
  refine w_dup dX0_init_34 rfl ?_
  refine k_init (n1 := 123) (c1 := 92) (s1 := 687) dX0_init_35 ok_X6_init (Or.inr lj0_19) (c_X6_init (a := 116) (n := 117) (l := [(31, (2, [32, 39, 46, 53, 60, 67, 74, 81, 88, 95, 102, 109, -3, -3, -3, -3, -3, -3, -3, -3, -3, -3, -3, -3])), (0, (9 + 4, [1, 13, 15, 23, -3, -3, -3, -3, -3, -3, -1, -1]))]) (M := (mLn 2 8 Mz)) (by decide) (by decide) (by decide +kernel) (by decide +kernel) (fun i h1 h2 => hz1 (by omega))) rfl rfl (by decide) rfl rfl (by decide) (by decide) ?_
  refine k_aast (gs := [-1, -1, -1, -1, 117, 118, 119, 120, 121, 122]) dX0_init_38 (by decide) (by decide) (by decide +kernel) (by decide) (by decide) (by decide) ?_
  refine w_iinc dX0_init_39 rfl (by decide) ?_
  refine w_goto (tgt := 20) dX0_init_42 (by decide) ?_
  refine w_iload_n dX0_init_20 rfl ?_
  refine w_bipush dX0_init_21 (by decide +kernel) ?_
  refine w_icmp_ge (tgt := 45) dX0_init_23 (by decide) (by decide) (by decide) (fun h => absurd h (by decide)) (fun _ => ?_)
  refine w_aload_n dX0_init_26 rfl ?_
  refine w_getR (fs := [-1, 23, 31, -1]) (r := 31) dX0_init_27 fl0_11 (by decide +kernel) (by decide) rfl ?_
  refine w_iload_n dX0_init_30 rfl ?_
  refine k_new (ci := 6) (fs := [-1, -1, -1, -1, -3, -3, -3, -3, -3, -3]) (n1 := 124) (c1 := 93) (s1 := 697) dX0_init_31 (by decide) cn0_9 inst6 ini6 nf6 (by decide) rfl rfl rfl (by decide) (hz1 (by decide)) ?_
  refine w_dup dX0_init_34 rfl ?_
  refine k_init (n1 := 130) (c1 := 99) (s1 := 738) dX0_init_35 ok_X6_init (Or.inr lj0_19) (c_X6_init (a := 123) (n := 124) (l := [(31, (2, [32, 39, 46, 53, 60, 67, 74, 81, 88, 95, 102, 109, 116, -3, -3, -3, -3, -3, -3, -3, -3, -3, -3, -3])), (0, (9 + 4, [1, 13, 15, 23, -3, -3, -3, -3, -3, -3, -1, -1]))]) (M := (mLn 2 8 Mz)) (by decide) (by decide) (by decide +kernel) (by decide +kernel) (fun i h1 h2 => hz1 (by omega))) rfl rfl (by decide) rfl rfl (by decide) (by decide) ?_
  refine k_aast (gs := [-1, -1, -1, -1, 124, 125, 126, 127, 128, 129]) dX0_init_38 (by decide) (by decide) (by decide +kernel) (by decide) (by decide) (by decide) ?_
  refine w_iinc dX0_init_39 rfl (by decide) ?_
  refine w_goto (tgt := 20) dX0_init_42 (by decide) ?_
  refine w_iload_n dX0_init_20 rfl ?_
  refine w_bipush dX0_init_21 (by decide +kernel) ?_
  refine w_icmp_ge (tgt := 45) dX0_init_23 (by decide) (by decide) (by decide) (fun h => absurd h (by decide)) (fun _ => ?_)
  refine w_aload_n dX0_init_26 rfl ?_
  refine w_getR (fs := [-1, 23, 31, -1]) (r := 31) dX0_init_27 fl0_11 (by decide +kernel) (by decide) rfl ?_
  refine w_iload_n dX0_init_30 rfl ?_
  refine k_new (ci := 6) (fs := [-1, -1, -1, -1, -3, -3, -3, -3, -3, -3]) (n1 := 131) (c1 := 100) (s1 := 748) dX0_init_31 (by decide) cn0_9 inst6 ini6 nf6 (by decide) rfl rfl rfl (by decide) (hz1 (by decide)) ?_
  refine w_dup dX0_init_34 rfl ?_
  refine k_init (n1 := 137) (c1 := 106) (s1 := 789) dX0_init_35 ok_X6_init (Or.inr lj0_19) (c_X6_init (a := 130) (n := 131) (l := [(31, (2, [32, 39, 46, 53, 60, 67, 74, 81, 88, 95, 102, 109, 116, 123, -3, -3, -3, -3, -3, -3, -3, -3, -3, -3])), (0, (9 + 4, [1, 13, 15, 23, -3, -3, -3, -3, -3, -3, -1, -1]))]) (M := (mLn 2 8 Mz)) (by decide) (by decide) (by decide +kernel) (by decide +kernel) (fun i h1 h2 => hz1 (by omega))) rfl rfl (by decide) rfl rfl (by decide) (by decide) ?_
  refine k_aast (gs := [-1, -1, -1, -1, 131, 132, 133, 134, 135, 136]) dX0_init_38 (by decide) (by decide) (by decide +kernel) (by decide) (by decide) (by decide) ?_
  refine w_iinc dX0_init_39 rfl (by decide) ?_
  refine w_goto (tgt := 20) dX0_init_42 (by decide) ?_
  refine w_iload_n dX0_init_20 rfl ?_
  refine w_bipush dX0_init_21 (by decide +kernel) ?_
  refine w_icmp_ge (tgt := 45) dX0_init_23 (by decide) (by decide) (by decide) (fun h => absurd h (by decide)) (fun _ => ?_)
  refine w_aload_n dX0_init_26 rfl ?_
  refine w_getR (fs := [-1, 23, 31, -1]) (r := 31) dX0_init_27 fl0_11 (by decide +kernel) (by decide) rfl ?_
  refine w_iload_n dX0_init_30 rfl ?_
  refine k_new (ci := 6) (fs := [-1, -1, -1, -1, -3, -3, -3, -3, -3, -3]) (n1 := 138) (c1 := 107) (s1 := 799) dX0_init_31 (by decide) cn0_9 inst6 ini6 nf6 (by decide) rfl rfl rfl (by decide) (hz1 (by decide)) ?_
  refine w_dup dX0_init_34 rfl ?_
  refine k_init (n1 := 144) (c1 := 113) (s1 := 840) dX0_init_35 ok_X6_init (Or.inr lj0_19) (c_X6_init (a := 137) (n := 138) (l := [(31, (2, [32, 39, 46, 53, 60, 67, 74, 81, 88, 95, 102, 109, 116, 123, 130, -3, -3, -3, -3, -3, -3, -3, -3, -3])), (0, (9 + 4, [1, 13, 15, 23, -3, -3, -3, -3, -3, -3, -1, -1]))]) (M := (mLn 2 8 Mz)) (by decide) (by decide) (by decide +kernel) (by decide +kernel) (fun i h1 h2 => hz1 (by omega))) rfl rfl (by decide) rfl rfl (by decide) (by decide) ?_
  refine k_aast (gs := [-1, -1, -1, -1, 138, 139, 140, 141, 142, 143]) dX0_init_38 (by decide) (by decide) (by decide +kernel) (by decide) (by decide) (by decide) ?_
  refine w_iinc dX0_init_39 rfl (by decide) ?_
  refine w_goto (tgt := 20) dX0_init_42 (by decide) ?_
  refine w_iload_n dX0_init_20 rfl ?_
  refine w_bipush dX0_init_21 (by decide +kernel) ?_
  refine w_icmp_ge (tgt := 45) dX0_init_23 (by decide) (by decide) (by decide) (fun h => absurd h (by decide)) (fun _ => ?_)
  refine w_aload_n dX0_init_26 rfl ?_
  refine w_getR (fs := [-1, 23, 31, -1]) (r := 31) dX0_init_27 fl0_11 (by decide +kernel) (by decide) rfl ?_
  refine w_iload_n dX0_init_30 rfl ?_
  refine k_new (ci := 6) (fs := [-1, -1, -1, -1, -3, -3, -3, -3, -3, -3]) (n1 := 145) (c1 := 114) (s1 := 850) dX0_init_31 (by decide) cn0_9 inst6 ini6 nf6 (by decide) rfl rfl rfl (by decide) (hz1 (by decide)) ?_
  refine w_dup dX0_init_34 rfl ?_
  refine k_init (n1 := 151) (c1 := 120) (s1 := 891) dX0_init_35 ok_X6_init (Or.inr lj0_19) (c_X6_init (a := 144) (n := 145) (l := [(31, (2, [32, 39, 46, 53, 60, 67, 74, 81, 88, 95, 102, 109, 116, 123, 130, 137, -3, -3, -3, -3, -3, -3, -3, -3])), (0, (9 + 4, [1, 13, 15, 23, -3, -3, -3, -3, -3, -3, -1, -1]))]) (M := (mLn 2 8 Mz)) (by decide) (by decide) (by decide +kernel) (by decide +kernel) (fun i h1 h2 => hz1 (by omega))) rfl rfl (by decide) rfl rfl (by decide) (by decide) ?_
  refine k_aast (gs := [-1, -1, -1, -1, 145, 146, 147, 148, 149, 150]) dX0_init_38 (by decide) (by decide) (by decide +kernel) (by decide) (by decide) (by decide) ?_
  refine w_iinc dX0_init_39 rfl (by decide) ?_
  refine w_goto (tgt := 20) dX0_init_42 (by decide) ?_
  refine w_iload_n dX0_init_20 rfl ?_
  refine w_bipush dX0_init_21 (by decide +kernel) ?_
  refine w_icmp_ge (tgt := 45) dX0_init_23 (by decide) (by decide) (by decide) (fun h => absurd h (by decide)) (fun _ => ?_)
  refine w_aload_n dX0_init_26 rfl ?_
  refine w_getR (fs := [-1, 23, 31, -1]) (r := 31) dX0_init_27 fl0_11 (by decide +kernel) (by decide) rfl ?_
  refine w_iload_n dX0_init_30 rfl ?_
  refine k_new (ci := 6) (fs := [-1, -1, -1, -1, -3, -3, -3, -3, -3, -3]) (n1 := 152) (c1 := 121) (s1 := 901) dX0_init_31 (by decide) cn0_9 inst6 ini6 nf6 (by decide) rfl rfl rfl (by decide) (hz1 (by decide)) ?_
  refine w_dup dX0_init_34 rfl ?_
  refine k_init (n1 := 158) (c1 := 127) (s1 := 942) dX0_init_35 ok_X6_init (Or.inr lj0_19) (c_X6_init (a := 151) (n := 152) (l := [(31, (2, [32, 39, 46, 53, 60, 67, 74, 81, 88, 95, 102, 109, 116, 123, 130, 137, 144, -3, -3, -3, -3, -3, -3, -3])), (0, (9 + 4, [1, 13, 15, 23, -3, -3, -3, -3, -3, -3, -1, -1]))]) (M := (mLn 2 8 Mz)) (by decide) (by decide) (by decide +kernel) (by decide +kernel) (fun i h1 h2 => hz1 (by omega))) rfl rfl (by decide) rfl rfl (by decide) (by decide) ?_
  refine k_aast (gs := [-1, -1, -1, -1, 152, 153, 154, 155, 156, 157]) dX0_init_38 (by decide) (by decide) (by decide +kernel) (by decide) (by decide) (by decide) ?_
  refine w_iinc dX0_init_39 rfl (by decide) ?_
  refine w_goto (tgt := 20) dX0_init_42 (by decide) ?_
  refine w_iload_n dX0_init_20 rfl ?_
  refine w_bipush dX0_init_21 (by decide +kernel) ?_
  refine w_icmp_ge (tgt := 45) dX0_init_23 (by decide) (by decide) (by decide) (fun h => absurd h (by decide)) (fun _ => ?_)
  refine w_aload_n dX0_init_26 rfl ?_
  refine w_getR (fs := [-1, 23, 31, -1]) (r := 31) dX0_init_27 fl0_11 (by decide +kernel) (by decide) rfl ?_
  refine w_iload_n dX0_init_30 rfl ?_
  refine k_new (ci := 6) (fs := [-1, -1, -1, -1, -3, -3, -3, -3, -3, -3]) (n1 := 159) (c1 := 128) (s1 := 952) dX0_init_31 (by decide) cn0_9 inst6 ini6 nf6 (by decide) rfl rfl rfl (by decide) (hz1 (by decide)) ?_
  refine w_dup dX0_init_34 rfl ?_
  refine k_init (n1 := 165) (c1 := 134) (s1 := 993) dX0_init_35 ok_X6_init (Or.inr lj0_19) (c_X6_init (a := 158) (n := 159) (l := [(31, (2, [32, 39, 46, 53, 60, 67, 74, 81, 88, 95, 102, 109, 116, 123, 130, 137, 144, 151, -3, -3, -3, -3, -3, -3])), (0, (9 + 4, [1, 13, 15, 23, -3, -3, -3, -3, -3, -3, -1, -1]))]) (M := (mLn 2 8 Mz)) (by decide) (by decide) (by decide +kernel) (by decide +kernel) (fun i h1 h2 => hz1 (by omega))) rfl rfl (by decide) rfl rfl (by decide) (by decide) ?_
  refine k_aast (gs := [-1, -1, -1, -1, 159, 160, 161, 162, 163, 164]) dX0_init_38 (by decide) (by decide) (by decide +kernel) (by decide) (by decide) (by decide) ?_
  refine w_iinc dX0_init_39 rfl (by decide) ?_
  refine w_goto (tgt := 20) dX0_init_42 (by decide) ?_
  refine w_iload_n dX0_init_20 rfl ?_
  refine w_bipush dX0_init_21 (by decide +kernel) ?_
  refine w_icmp_ge (tgt := 45) dX0_init_23 (by decide) (by decide) (by decide) (fun h => absurd h (by decide)) (fun _ => ?_)
  refine w_aload_n dX0_init_26 rfl ?_
  refine w_getR (fs := [-1, 23, 31, -1]) (r := 31) dX0_init_27 fl0_11 (by decide +kernel) (by decide) rfl ?_
  refine w_iload_n dX0_init_30 rfl ?_
  refine k_new (ci := 6) (fs := [-1, -1, -1, -1, -3, -3, -3, -3, -3, -3]) (n1 := 166) (c1 := 135) (s1 := 1003) dX0_init_31 (by decide) cn0_9 inst6 ini6 nf6 (by decide) rfl rfl rfl (by decide) (hz1 (by decide)) ?_
  refine w_dup dX0_init_34 rfl ?_
  refine k_init (n1 := 172) (c1 := 141) (s1 := 1044) dX0_init_35 ok_X6_init (Or.inr lj0_19) (c_X6_init (a := 165) (n := 166) (l := [(31, (2, [32, 39, 46, 53, 60, 67, 74, 81, 88, 95, 102, 109, 116, 123, 130, 137, 144, 151, 158, -3, -3, -3, -3, -3])), (0, (9 + 4, [1, 13, 15, 23, -3, -3, -3, -3, -3, -3, -1, -1]))]) (M := (mLn 2 8 Mz)) (by decide) (by decide) (by decide +kernel) (by decide +kernel) (fun i h1 h2 => hz1 (by omega))) rfl rfl (by decide) rfl rfl (by decide) (by decide) ?_
  refine k_aast (gs := [-1, -1, -1, -1, 166, 167, 168, 169, 170, 171]) dX0_init_38 (by decide) (by decide) (by decide +kernel) (by decide) (by decide) (by decide) ?_
  refine w_iinc dX0_init_39 rfl (by decide) ?_
  refine w_goto (tgt := 20) dX0_init_42 (by decide) ?_
  refine w_iload_n dX0_init_20 rfl ?_
  refine w_bipush dX0_init_21 (by decide +kernel) ?_
  refine w_icmp_ge (tgt := 45) dX0_init_23 (by decide) (by decide) (by decide) (fun h => absurd h (by decide)) (fun _ => ?_)
  refine w_aload_n dX0_init_26 rfl ?_
  refine w_getR (fs := [-1, 23, 31, -1]) (r := 31) dX0_init_27 fl0_11 (by decide +kernel) (by decide) rfl ?_
  refine w_iload_n dX0_init_30 rfl ?_
  refine k_new (ci := 6) (fs := [-1, -1, -1, -1, -3, -3, -3, -3, -3, -3]) (n1 := 173) (c1 := 142) (s1 := 1054) dX0_init_31 (by decide) cn0_9 inst6 ini6 nf6 (by decide) rfl rfl rfl (by decide) (hz1 (by decide)) ?_
  refine w_dup dX0_init_34 rfl ?_
  refine k_init (n1 := 179) (c1 := 148) (s1 := 1095) dX0_init_35 ok_X6_init (Or.inr lj0_19) (c_X6_init (a := 172) (n := 173) (l := [(31, (2, [32, 39, 46, 53, 60, 67, 74, 81, 88, 95, 102, 109, 116, 123, 130, 137, 144, 151, 158, 165, -3, -3, -3, -3])), (0, (9 + 4, [1, 13, 15, 23, -3, -3, -3, -3, -3, -3, -1, -1]))]) (M := (mLn 2 8 Mz)) (by decide) (by decide) (by decide +kernel) (by decide +kernel) (fun i h1 h2 => hz1 (by omega))) rfl rfl (by decide) rfl rfl (by decide) (by decide) ?_
  refine k_aast (gs := [-1, -1, -1, -1, 173, 174, 175, 176, 177, 178]) dX0_init_38 (by decide) (by decide) (by decide +kernel) (by decide) (by decide) (by decide) ?_
  refine w_iinc dX0_init_39 rfl (by decide) ?_
  refine w_goto (tgt := 20) dX0_init_42 (by decide) ?_
  refine w_iload_n dX0_init_20 rfl ?_
  refine w_bipush dX0_init_21 (by decide +kernel) ?_
  refine w_icmp_ge (tgt := 45) dX0_init_23 (by decide) (by decide) (by decide) (fun h => absurd h (by decide)) (fun _ => ?_)
  refine w_aload_n dX0_init_26 rfl ?_
  refine w_getR (fs := [-1, 23, 31, -1]) (r := 31) dX0_init_27 fl0_11 (by decide +kernel) (by decide) rfl ?_
  refine w_iload_n dX0_init_30 rfl ?_
  refine k_new (ci := 6) (fs := [-1, -1, -1, -1, -3, -3, -3, -3, -3, -3]) (n1 := 180) (c1 := 149) (s1 := 1105) dX0_init_31 (by decide) cn0_9 inst6 ini6 nf6 (by decide) rfl rfl rfl (by decide) (hz1 (by decide)) ?_
  refine w_dup dX0_init_34 rfl ?_
  refine k_init (n1 := 186) (c1 := 155) (s1 := 1146) dX0_init_35 ok_X6_init (Or.inr lj0_19) (c_X6_init (a := 179) (n := 180) (l := [(31, (2, [32, 39, 46, 53, 60, 67, 74, 81, 88, 95, 102, 109, 116, 123, 130, 137, 144, 151, 158, 165, 172, -3, -3, -3])), (0, (9 + 4, [1, 13, 15, 23, -3, -3, -3, -3, -3, -3, -1, -1]))]) (M := (mLn 2 8 Mz)) (by decide) (by decide) (by decide +kernel) (by decide +kernel) (fun i h1 h2 => hz1 (by omega))) rfl rfl (by decide) rfl rfl (by decide) (by decide) ?_
  refine k_aast (gs := [-1, -1, -1, -1, 180, 181, 182, 183, 184, 185]) dX0_init_38 (by decide) (by decide) (by decide +kernel) (by decide) (by decide) (by decide) ?_
  refine w_iinc dX0_init_39 rfl (by decide) ?_
  refine w_goto (tgt := 20) dX0_init_42 (by decide) ?_
  refine w_iload_n dX0_init_20 rfl ?_
  refine w_bipush dX0_init_21 (by decide +kernel) ?_
  refine w_icmp_ge (tgt := 45) dX0_init_23 (by decide) (by decide) (by decide) (fun h => absurd h (by decide)) (fun _ => ?_)
  refine w_aload_n dX0_init_26 rfl ?_
  refine w_getR (fs := [-1, 23, 31, -1]) (r := 31) dX0_init_27 fl0_11 (by decide +kernel) (by decide) rfl ?_
  refine w_iload_n dX0_init_30 rfl ?_
  refine k_new (ci := 6) (fs := [-1, -1, -1, -1, -3, -3, -3, -3, -3, -3]) (n1 := 187) (c1 := 156) (s1 := 1156) dX0_init_31 (by decide) cn0_9 inst6 ini6 nf6 (by decide) rfl rfl rfl (by decide) (hz1 (by decide)) ?_
  refine w_dup dX0_init_34 rfl ?_
  refine k_init (n1 := 193) (c1 := 162) (s1 := 1197) dX0_init_35 ok_X6_init (Or.inr lj0_19) (c_X6_init (a := 186) (n := 187) (l := [(31, (2, [32, 39, 46, 53, 60, 67, 74, 81, 88, 95, 102, 109, 116, 123, 130, 137, 144, 151, 158, 165, 172, 179, -3, -3])), (0, (9 + 4, [1, 13, 15, 23, -3, -3, -3, -3, -3, -3, -1, -1]))]) (M := (mLn 2 8 Mz)) (by decide) (by decide) (by decide +kernel) (by decide +kernel) (fun i h1 h2 => hz1 (by omega))) rfl rfl (by decide) rfl rfl (by decide) (by decide) ?_
  refine k_aast (gs := [-1, -1, -1, -1, 187, 188, 189, 190, 191, 192]) dX0_init_38 (by decide) (by decide) (by decide +kernel) (by decide) (by decide) (by decide) ?_
  refine w_iinc dX0_init_39 rfl (by decide) ?_
  refine w_goto (tgt := 20) dX0_init_42 (by decide) ?_
  refine w_iload_n dX0_init_20 rfl ?_
  refine w_bipush dX0_init_21 (by decide +kernel) ?_
  refine w_icmp_ge (tgt := 45) dX0_init_23 (by decide) (by decide) (by decide) (fun h => absurd h (by decide)) (fun _ => ?_)
  refine w_aload_n dX0_init_26 rfl ?_
  refine w_getR (fs := [-1, 23, 31, -1]) (r := 31) dX0_init_27 fl0_11 (by decide +kernel) (by decide) rfl ?_
  refine w_iload_n dX0_init_30 rfl ?_
  refine k_new (ci := 6) (fs := [-1, -1, -1, -1, -3, -3, -3, -3, -3, -3]) (n1 := 194) (c1 := 163) (s1 := 1207) dX0_init_31 (by decide) cn0_9 inst6 ini6 nf6 (by decide) rfl rfl rfl (by decide) (hz1 (by decide)) ?_
  refine w_dup dX0_init_34 rfl ?_
  refine k_init (n1 := 200) (c1 := 169) (s1 := 1248) dX0_init_35 ok_X6_init (Or.inr lj0_19) (c_X6_init (a := 193) (n := 194) (l := [(31, (2, [32, 39, 46, 53, 60, 67, 74, 81, 88, 95, 102, 109, 116, 123, 130, 137, 144, 151, 158, 165, 172, 179, 186, -3])), (0, (9 + 4, [1, 13, 15, 23, -3, -3, -3, -3, -3, -3, -1, -1]))]) (M := (mLn 2 8 Mz)) (by decide) (by decide) (by decide +kernel) (by decide +kernel) (fun i h1 h2 => hz1 (by omega))) rfl rfl (by decide) rfl rfl (by decide) (by decide) ?_
  refine k_aast (gs := [-1, -1, -1, -1, 194, 195, 196, 197, 198, 199]) dX0_init_38 (by decide) (by decide) (by decide +kernel) (by decide) (by decide) (by decide) ?_
  refine k_done (by decide +kernel) ?_
  refine w_iinc dX0_init_39 rfl (by decide) ?_
  refine w_goto (tgt := 20) dX0_init_42 (by decide) ?_
  refine w_iload_n dX0_init_20 rfl ?_
  refine w_bipush dX0_init_21 (by decide +kernel) ?_
  refine w_icmp_ge (tgt := 45) dX0_init_23 (by decide) (by decide) (by decide) (fun _ => ?_) (fun h => absurd (by decide) h)
  exact k_ret dX0_init_45 rfl (by decide)
set_option maxRecDepth 100000 in
theorem c_X3_init {E : EV} : Ct E mX3_init 2 7 51 [vr 201, vr 23, vr 1] 202 (GO [(201, (3 + 4, [-3, -3, -3])), (200, (2, [-3, -3])), (0, (9 + 4, [1, 13, 15, 23, 30, 200, -3, -3, -3, -3, -1, -1]))]) (mLn 2 8 Mz) (Pk 209 (GO [(200, (2, [-3, -3])), (0, (9 + 4, [1, 13, 15, 23, 30, 200, -3, -3, -3, -3, -1, -1]))]) (mLn 2 8 Mz)) := by
  refine Ct.of [some (vr 201), some (vr 23), some (vr 1)] rfl rfl rfl (Nat.le_of_ble_eq_true rfl) ?_
  refine w_aload_n dX3_init_0 rfl ?_
  refine w_objInit dX3_init_1 li3_3 obj1 obj2 (by decide) (by decide) ?_
  refine w_aload_n dX3_init_4 rfl ?_
  refine k_new (ci := 6) (fs := [-1, -1, -1, -1, -3, -3, -3, -3, -3, -3]) (n1 := 203) (c1 := 1) (s1 := 10) dX3_init_5 (by decide) cn3_9 inst6 ini6 nf6 (by decide) rfl rfl rfl (by decide) (hz1 (by decide)) ?_
  refine w_dup dX3_init_8 rfl ?_
  refine k_init (n1 := 209) (c1 := 7) (s1 := 51) dX3_init_9 ok_X6_init (Or.inr lj3_11) (c_X6_init (a := 202) (n := 203) (l := [(201, (3 + 4, [-3, -3, -3])), (200, (2, [-3, -3])), (0, (9 + 4, [1, 13, 15, 23, 30, 200, -3, -3, -3, -3, -1, -1]))]) (M := (mLn 2 8 Mz)) (by decide) (by decide) (by decide +kernel) (by decide +kernel) (fun i h1 h2 => hz1 (by omega))) rfl rfl (by decide) rfl rfl (by decide) (by decide) ?_
  refine k_put (ty := (.object "SignedClouds$Sky")) dX3_init_12 fl3_12 (by decide) (by decide) (by decide +kernel) (by decide +kernel) (by decide +kernel) ⟨by decide +kernel, by decide +kernel, fun _ => rfl, fun _ => rfl⟩ (by decide +kernel) ?_
  refine w_aload_n dX3_init_15 rfl ?_
  refine w_aload_n dX3_init_16 rfl ?_
  refine k_put (ty := (.object "SignedClouds$Sky")) dX3_init_17 fl3_18 (by decide) (by decide) (by decide +kernel) (by decide +kernel) (by decide +kernel) ⟨by decide +kernel, by decide +kernel, fun _ => rfl, fun _ => rfl⟩ (by decide +kernel) ?_
  refine w_aload_n dX3_init_20 rfl ?_
  refine w_aload_n dX3_init_21 rfl ?_
  refine k_put (ty := (.object "SignedClouds$Rows")) dX3_init_22 fl3_21 (by decide) (by decide) (by decide +kernel) (by decide +kernel) (by decide +kernel) ⟨by decide +kernel, by decide +kernel, fun _ => rfl, fun _ => rfl⟩ (by decide +kernel) ?_
  refine k_done (by decide +kernel) ?_
  exact k_ret dX3_init_25 rfl (by decide)
set_option maxRecDepth 100000 in
theorem c_X8_init {E : EV} : Ct E mX8_init 2 10 66 [vr 209, vr 23] 210 (GO [(209, (8 + 4, [-1, -3, -3, -3, -3, -3, -1])), (200, (2, [-3, -3])), (0, (9 + 4, [1, 13, 15, 23, 30, 200, 201, -3, -3, -3, -1, -1]))]) (mLn 2 8 Mz) (Pk 220 (GO [(200, (2, [-3, -3])), (0, (9 + 4, [1, 13, 15, 23, 30, 200, 201, -3, -3, -3, -1, -1]))]) (mLn 2 8 Mz)) := by
  refine Ct.of [some (vr 209), some (vr 23)] rfl rfl rfl (Nat.le_of_ble_eq_true rfl) ?_
  refine w_aload_n dX8_init_0 rfl ?_
  refine w_objInit dX8_init_1 li8_3 obj1 obj2 (by decide) (by decide) ?_
  refine w_aload_n dX8_init_4 rfl ?_
  refine w_iconst dX8_init_5 ?_
  refine k_newI (n1 := 211) (c1 := 1) (s1 := 5) dX8_init_6 (by decide) (by decide) (by decide) rfl rfl rfl (by decide) (by decide +kernel) (hz1 (by decide)) ?_
  refine k_put (ty := (.array .int)) dX8_init_8 fl8_9 (by decide) (by decide) (by decide +kernel) (by decide +kernel) (by decide +kernel) ⟨by decide +kernel, by decide +kernel, fun _ => rfl, fun _ => rfl⟩ (by decide +kernel) ?_
  refine w_aload_n dX8_init_11 rfl ?_
  refine k_new (ci := 6) (fs := [-1, -1, -1, -1, -3, -3, -3, -3, -3, -3]) (n1 := 212) (c1 := 2) (s1 := 15) dX8_init_12 (by decide) cn8_15 inst6 ini6 nf6 (by decide) rfl rfl rfl (by decide) (hz1 (by decide)) ?_
  refine w_dup dX8_init_15 rfl ?_
  refine k_init (n1 := 218) (c1 := 8) (s1 := 56) dX8_init_16 ok_X6_init (Or.inr lj8_17) (c_X6_init (a := 211) (n := 212) (l := [(209, (8 + 4, [-1, 210, -3, -3, -3, -3, -1])), (200, (2, [-3, -3])), (0, (9 + 4, [1, 13, 15, 23, 30, 200, 201, -3, -3, -3, -1, -1]))]) (M := (mLn 2 8 Mz)) (by decide) (by decide) (by decide +kernel) (by decide +kernel) (fun i h1 h2 => hz1 (by omega))) rfl rfl (by decide) rfl rfl (by decide) (by decide) ?_
  refine k_put (ty := (.object "SignedClouds$Sky")) dX8_init_19 fl8_18 (by decide) (by decide) (by decide +kernel) (by decide +kernel) (by decide +kernel) ⟨by decide +kernel, by decide +kernel, fun _ => rfl, fun _ => rfl⟩ (by decide +kernel) ?_
  refine w_aload_n dX8_init_22 rfl ?_
  refine w_iconst dX8_init_23 ?_
  refine k_newI (n1 := 219) (c1 := 9) (s1 := 61) dX8_init_24 (by decide) (by decide) (by decide) rfl rfl rfl (by decide) (by decide +kernel) (hz1 (by decide)) ?_
  refine k_put (ty := (.array .int)) dX8_init_26 fl8_22 (by decide) (by decide) (by decide +kernel) (by decide +kernel) (by decide +kernel) ⟨by decide +kernel, by decide +kernel, fun _ => rfl, fun _ => rfl⟩ (by decide +kernel) ?_
  refine w_aload_n dX8_init_29 rfl ?_
  refine w_iconst dX8_init_30 ?_
  refine k_newI (n1 := 220) (c1 := 10) (s1 := 66) dX8_init_31 (by decide) (by decide) (by decide) rfl rfl rfl (by decide) (by decide +kernel) (hz1 (by decide)) ?_
  refine k_put (ty := (.array .int)) dX8_init_33 fl8_25 (by decide) (by decide) (by decide +kernel) (by decide +kernel) (by decide +kernel) ⟨by decide +kernel, by decide +kernel, fun _ => rfl, fun _ => rfl⟩ (by decide +kernel) ?_
  refine w_aload_n dX8_init_36 rfl ?_
  refine w_aload_n dX8_init_37 rfl ?_
  refine k_put (ty := (.object "SignedClouds$Sky")) dX8_init_38 fl8_28 (by decide) (by decide) (by decide +kernel) (by decide +kernel) (by decide +kernel) ⟨by decide +kernel, by decide +kernel, fun _ => rfl, fun _ => rfl⟩ (by decide +kernel) ?_
  refine k_done (by decide +kernel) ?_
  exact k_ret dX8_init_41 rfl (by decide)
set_option maxRecDepth 100000 in
theorem c_X2_init {E : EV} : Ct E mX2_init 1 1 6 [vr 220] 221 (GO [(220, (2 + 4, [-2, -2, -3])), (200, (2, [-3, -3])), (0, (9 + 4, [1, 13, 15, 23, 30, 200, 201, 209, -3, -3, -1, -1]))]) (mLn 2 8 Mz) (Pk 222 (GO [(200, (2, [-3, -3])), (0, (9 + 4, [1, 13, 15, 23, 30, 200, 201, 209, -3, -3, -1, -1]))]) (mLn 2 8 Mz)) := by
  refine Ct.of [some (vr 220)] rfl rfl rfl (Nat.le_of_ble_eq_true rfl) ?_
  refine w_aload_n dX2_init_0 rfl ?_
  refine w_objInit dX2_init_1 li2_3 obj1 obj2 (by decide) (by decide) ?_
  refine w_aload_n dX2_init_4 rfl ?_
  refine w_bipush dX2_init_5 (by decide +kernel) ?_
  refine k_newL (n1 := 222) (c1 := 1) (s1 := 6) dX2_init_7 (by decide) (by decide) (by decide) rfl rfl rfl (by decide) (by decide +kernel) (hz1 (by decide)) ?_
  refine k_put (ty := (.array .long)) dX2_init_9 fl2_9 (by decide) (by decide) (by decide +kernel) (by decide +kernel) (by decide +kernel) ⟨by decide +kernel, by decide +kernel, fun _ => rfl, fun _ => rfl⟩ (by decide +kernel) ?_
  refine k_done (by decide +kernel) ?_
  exact k_ret dX2_init_12 rfl (by decide)
set_option maxRecDepth 100000 in
theorem c_X1_init {E : EV} : Ct E mX1_init 1 1 16 [vr 222, vr 23] 223 (GO [(222, (1 + 4, [-1, -3, -3])), (200, (2, [-3, -3])), (0, (9 + 4, [1, 13, 15, 23, 30, 200, 201, 209, 220, -3, -1, -1]))]) (mLn 2 8 Mz) (Pk 224 (GO [(200, (2, [-3, -3])), (0, (9 + 4, [1, 13, 15, 23, 30, 200, 201, 209, 220, -3, -1, -1]))]) (mLn 2 8 Mz)) := by
  refine Ct.of [some (vr 222), some (vr 23)] rfl rfl rfl (Nat.le_of_ble_eq_true rfl) ?_
  refine w_aload_n dX1_init_0 rfl ?_
  refine w_objInit dX1_init_1 li1_3 obj1 obj2 (by decide) (by decide) ?_
  refine w_aload_n dX1_init_4 rfl ?_
  refine w_bipush dX1_init_5 (by decide +kernel) ?_
  refine k_newI (n1 := 224) (c1 := 1) (s1 := 16) dX1_init_7 (by decide) (by decide) (by decide) rfl rfl rfl (by decide) (by decide +kernel) (hz1 (by decide)) ?_
  refine k_put (ty := (.array .int)) dX1_init_9 fl1_11 (by decide) (by decide) (by decide +kernel) (by decide +kernel) (by decide +kernel) ⟨by decide +kernel, by decide +kernel, fun _ => rfl, fun _ => rfl⟩ (by decide +kernel) ?_
  refine w_aload_n dX1_init_12 rfl ?_
  refine w_aload_n dX1_init_13 rfl ?_
  refine k_put (ty := (.object "SignedClouds$Sky")) dX1_init_14 fl1_15 (by decide) (by decide) (by decide +kernel) (by decide +kernel) (by decide +kernel) ⟨by decide +kernel, by decide +kernel, fun _ => rfl, fun _ => rfl⟩ (by decide +kernel) ?_
  refine k_done (by decide +kernel) ?_
  exact k_ret dX1_init_17 rfl (by decide)
set_option maxRecDepth 100000 in
theorem c_X9_init {E : EV} : Ct E mX9_init 3 237 2066 [vr 0] 1 (GO [(0, (9 + 4, [-3, -3, -3, -3, -3, -3, -3, -3, -3, -3, -1, -1]))]) Mz (Pk 238 (GO []) (mLn 2 8 Mz)) := by
  refine Ct.of [some (vr 0), none] rfl rfl rfl (Nat.le_of_ble_eq_true rfl) ?_
  refine w_aload_n dX9_init_0 rfl ?_
  refine w_objInit dX9_init_1 li9_1 obj1 obj2 (by decide) (by decide) ?_
  refine w_aload_n dX9_init_4 rfl ?_
  refine k_new (ci := 5) (fs := [-3, -3, -3]) (n1 := 2) (c1 := 1) (s1 := 3) dX9_init_5 (by decide) cn9_7 inst5 ini5 nf5 (by decide) rfl rfl rfl (by decide) (fun _ => rfl) ?_
  refine w_dup dX9_init_8 rfl ?_
  refine k_init (n1 := 13) (c1 := 12) (s1 := 347) dX9_init_9 ok_X5_init (Or.inl li9_9) c_X5_init rfl rfl (by decide) rfl rfl (by decide) (by decide) ?_
  refine k_put (ty := (.object "SignedClouds$Rows")) dX9_init_12 fl9_10 (by decide) (by decide) (by decide +kernel) (by decide +kernel) (by decide +kernel) ⟨by decide +kernel, by decide +kernel, fun _ => rfl, fun _ => rfl⟩ (by decide +kernel) ?_
  refine w_aload_n dX9_init_15 rfl ?_
  refine k_new (ci := 7) (fs := [-3, -1]) (n1 := 14) (c1 := 13) (s1 := 349) dX9_init_16 (by decide) cn9_16 inst7 ini7 nf7 (by decide) rfl rfl rfl (by decide) (hz1 (by decide)) ?_
  refine w_dup dX9_init_19 rfl ?_
  refine k_init (n1 := 15) (c1 := 14) (s1 := 449) dX9_init_20 ok_X7_init (Or.inr lj9_18) c_X7_init rfl rfl (by decide) rfl rfl (by decide) (by decide) ?_
  refine k_put (ty := (.object "SignedClouds$Tape")) dX9_init_23 fl9_19 (by decide) (by decide) (by decide +kernel) (by decide +kernel) (by decide +kernel) ⟨by decide +kernel, by decide +kernel, fun _ => rfl, fun _ => rfl⟩ (by decide +kernel) ?_
  refine w_aload_n dX9_init_26 rfl ?_
  refine k_new (ci := 4) (fs := [-3, -1, -3, -1]) (n1 := 16) (c1 := 15) (s1 := 453) dX9_init_27 (by decide) cn9_23 inst4 ini4 nf4 (by decide) rfl rfl rfl (by decide) (hz1 (by decide)) ?_
  refine w_dup dX9_init_30 rfl ?_
  refine w_aload_n dX9_init_31 rfl ?_
  refine w_getR (fs := [1, 13, -3, -3, -3, -3, -3, -3, -3, -3, -1, -1]) (r := 13) dX9_init_32 fl9_19 (by decide +kernel) (by decide) rfl ?_
  refine k_init (n1 := 23) (c1 := 22) (s1 := 504) dX9_init_35 ok_X4_init (Or.inl li9_25) c_X4_init rfl rfl (by decide) rfl rfl (by decide) (by decide) ?_
  refine k_put (ty := (.object "SignedClouds$Reader")) dX9_init_38 fl9_28 (by decide) (by decide) (by decide +kernel) (by decide +kernel) (by decide +kernel) ⟨by decide +kernel, by decide +kernel, fun _ => rfl, fun _ => rfl⟩ (by decide +kernel) ?_
  refine w_aload_n dX9_init_41 rfl ?_
  refine k_new (ci := 6) (fs := [-1, -1, -1, -1, -3, -3, -3, -3, -3, -3]) (n1 := 24) (c1 := 23) (s1 := 514) dX9_init_42 (by decide) cn9_32 inst6 ini6 nf6 (by decide) rfl rfl rfl (by decide) (hz1 (by decide)) ?_
  refine w_dup dX9_init_45 rfl ?_
  refine k_init (n1 := 30) (c1 := 29) (s1 := 555) dX9_init_46 ok_X6_init (Or.inr lj9_34) (c_X6_init (a := 23) (n := 24) (l := [(0, (9 + 4, [1, 13, 15, -3, -3, -3, -3, -3, -3, -3, -1, -1]))]) (M := (mLn 2 8 Mz)) (by decide) (by decide) (by decide +kernel) (by decide +kernel) (fun i h1 h2 => hz1 (by omega))) rfl rfl (by decide) rfl rfl (by decide) (by decide) ?_
  refine k_put (ty := (.object "SignedClouds$Sky")) dX9_init_49 fl9_35 (by decide) (by decide) (by decide +kernel) (by decide +kernel) (by decide +kernel) ⟨by decide +kernel, by decide +kernel, fun _ => rfl, fun _ => rfl⟩ (by decide +kernel) ?_
  refine w_aload_n dX9_init_52 rfl ?_
  refine k_new (ci := 0) (fs := [-1, -3, -3, -1]) (n1 := 31) (c1 := 30) (s1 := 559) dX9_init_53 (by decide) cn9_39 inst0 ini0 nf0 (by decide) rfl rfl rfl (by decide) (hz1 (by decide)) ?_
  refine w_dup dX9_init_56 rfl ?_
  refine w_aload_n dX9_init_57 rfl ?_
  refine w_getR (fs := [1, 13, 15, 23, -3, -3, -3, -3, -3, -3, -1, -1]) (r := 23) dX9_init_58 fl9_35 (by decide +kernel) (by decide) rfl ?_
  refine k_init (n1 := 200) (c1 := 199) (s1 := 1807) dX9_init_61 ok_X0_init (Or.inl li9_41) c_X0_init rfl rfl (by decide) rfl rfl (by decide) (by decide) ?_
  refine k_put (ty := (.object "SignedClouds$Acts")) dX9_init_64 fl9_44 (by decide) (by decide) (by decide +kernel) (by decide +kernel) (by decide +kernel) ⟨by decide +kernel, by decide +kernel, fun _ => rfl, fun _ => rfl⟩ (by decide +kernel) ?_
  refine w_aload_n dX9_init_67 rfl ?_
  refine w_iconst dX9_init_68 ?_
  refine k_anew (fs := [-3, -3]) (n1 := 201) (c1 := 200) (s1 := 1809) dX9_init_69 cn9_32 (by decide) (by decide) rfl (by decide) rfl rfl rfl (by decide) (hz1 (by decide)) ?_
  refine k_put2 (ty := (.array (.object "SignedClouds$Sky"))) dX9_init_72 (by decide) fl9_48 (by decide) (by decide) (by decide +kernel) (by decide +kernel) (by decide +kernel) ⟨by decide +kernel, by decide +kernel, fun _ => rfl, fun _ => rfl⟩ (by decide +kernel) ?_
  refine w_aload_n dX9_init_75 rfl ?_
  refine k_new (ci := 3) (fs := [-3, -3, -3]) (n1 := 202) (c1 := 201) (s1 := 1812) dX9_init_76 (by decide) cn9_52 inst3 ini3 nf3 (by decide) rfl rfl rfl (by decide) (hz1 (by decide)) ?_
  refine w_dup dX9_init_79 rfl ?_
  refine w_aload_n dX9_init_80 rfl ?_
  refine w_getR (fs := [1, 13, 15, 23, 30, 200, -3, -3, -3, -3, -1, -1]) (r := 23) dX9_init_81 fl9_35 (by decide +kernel) (by decide) rfl ?_
  refine w_aload_n dX9_init_84 rfl ?_
  refine w_getR (fs := [1, 13, 15, 23, 30, 200, -3, -3, -3, -3, -1, -1]) (r := 1) dX9_init_85 fl9_10 (by decide +kernel) (by decide) rfl ?_
  refine k_init (n1 := 209) (c1 := 208) (s1 := 1863) dX9_init_88 ok_X3_init (Or.inl li9_54) c_X3_init rfl rfl (by decide) rfl rfl (by decide) (by decide) ?_
  refine k_put2 (ty := (.object "SignedClouds$Foreteller")) dX9_init_91 (by decide) fl9_57 (by decide) (by decide) (by decide +kernel) (by decide +kernel) (by decide +kernel) ⟨by decide +kernel, by decide +kernel, fun _ => rfl, fun _ => rfl⟩ (by decide +kernel) ?_
  refine w_aload_n dX9_init_94 rfl ?_
  refine k_new (ci := 8) (fs := [-1, -3, -3, -3, -3, -3, -1]) (n1 := 210) (c1 := 209) (s1 := 1870) dX9_init_95 (by decide) cn9_61 inst8 ini8 nf8 (by decide) rfl rfl rfl (by decide) (hz1 (by decide)) ?_
  refine w_dup dX9_init_98 rfl ?_
  refine w_aload_n dX9_init_99 rfl ?_
  refine w_getR (fs := [1, 13, 15, 23, 30, 200, 201, -3, -3, -3, -1, -1]) (r := 23) dX9_init_100 fl9_35 (by decide +kernel) (by decide) rfl ?_
  refine k_init (n1 := 220) (c1 := 219) (s1 := 1936) dX9_init_103 ok_X8_init (Or.inl li9_63) c_X8_init rfl rfl (by decide) rfl rfl (by decide) (by decide) ?_
  refine k_put2 (ty := (.object "SignedClouds$Towing")) dX9_init_106 (by decide) fl9_64 (by decide) (by decide) (by decide +kernel) (by decide +kernel) (by decide +kernel) ⟨by decide +kernel, by decide +kernel, fun _ => rfl, fun _ => rfl⟩ (by decide +kernel) ?_
  refine w_aload_n dX9_init_109 rfl ?_
  refine k_new (ci := 2) (fs := [-2, -2, -3]) (n1 := 221) (c1 := 220) (s1 := 1939) dX9_init_110 (by decide) cn9_68 inst2 ini2 nf2 (by decide) rfl rfl rfl (by decide) (hz1 (by decide)) ?_
  refine w_dup dX9_init_113 rfl ?_
  refine k_init (n1 := 222) (c1 := 221) (s1 := 1945) dX9_init_114 ok_X2_init (Or.inr lj9_70) c_X2_init rfl rfl (by decide) rfl rfl (by decide) (by decide) ?_
  refine k_put2 (ty := (.object "SignedClouds$Chances")) dX9_init_117 (by decide) fl9_71 (by decide) (by decide) (by decide +kernel) (by decide +kernel) (by decide +kernel) ⟨by decide +kernel, by decide +kernel, fun _ => rfl, fun _ => rfl⟩ (by decide +kernel) ?_
  refine w_aload_n dX9_init_120 rfl ?_
  refine k_new (ci := 1) (fs := [-1, -3, -3]) (n1 := 223) (c1 := 222) (s1 := 1948) dX9_init_121 (by decide) cn9_75 inst1 ini1 nf1 (by decide) rfl rfl rfl (by decide) (hz1 (by decide)) ?_
  refine w_dup dX9_init_124 rfl ?_
  refine w_aload_n dX9_init_125 rfl ?_
  refine w_getR (fs := [1, 13, 15, 23, 30, 200, 201, 209, 220, -3, -1, -1]) (r := 23) dX9_init_126 fl9_35 (by decide +kernel) (by decide) rfl ?_
  refine k_init (n1 := 224) (c1 := 223) (s1 := 1964) dX9_init_129 ok_X1_init (Or.inl li9_77) c_X1_init rfl rfl (by decide) rfl rfl (by decide) (by decide) ?_
  refine k_put2 (ty := (.object "SignedClouds$Asks")) dX9_init_132 (by decide) fl9_78 (by decide) (by decide) (by decide +kernel) (by decide +kernel) (by decide +kernel) ⟨by decide +kernel, by decide +kernel, fun _ => rfl, fun _ => rfl⟩ (by decide +kernel) ?_
  refine k_done2 (by decide +kernel) ?_
  refine w_iconst dX9_init_135 ?_
  refine w_istore_n dX9_init_136 (by decide) ?_
  refine w_iload_n dX9_init_137 rfl ?_
  refine w_iconst dX9_init_138 ?_
  refine w_icmp_gt (tgt := 161) dX9_init_139 (by decide) (by decide) (by decide) (fun h => absurd h (by decide)) (fun _ => ?_)
  refine w_aload_n dX9_init_142 rfl ?_
  refine w_getR (fs := [1, 13, 15, 23, 30, 200, 201, 209, 220, 222, -1, -1]) (r := 200) dX9_init_143 fl9_48 (by decide +kernel) (by decide) rfl ?_
  refine w_iload_n dX9_init_146 rfl ?_
  refine k_new (ci := 6) (fs := [-1, -1, -1, -1, -3, -3, -3, -3, -3, -3]) (n1 := 225) (c1 := 224) (s1 := 1974) dX9_init_147 (by decide) cn9_32 inst6 ini6 nf6 (by decide) rfl rfl rfl (by decide) (hz1 (by decide)) ?_
  refine w_dup dX9_init_150 rfl ?_
  refine k_init (n1 := 231) (c1 := 230) (s1 := 2015) dX9_init_151 ok_X6_init (Or.inr lj9_34) (c_X6_init (a := 224) (n := 225) (l := [(200, (2, [-3, -3]))]) (M := (mLn 2 8 Mz)) (by decide) (by decide) (by decide +kernel) (by decide +kernel) (fun i h1 h2 => hz1 (by omega))) rfl rfl (by decide) rfl rfl (by decide) (by decide) ?_
  refine k_aast (gs := [-1, -1, -1, -1, 225, 226, 227, 228, 229, 230]) dX9_init_154 (by decide) (by decide) (by decide +kernel) (by decide) (by decide) (by decide) ?_
  refine w_iinc dX9_init_155 rfl (by decide) ?_
  refine w_goto (tgt := 137) dX9_init_158 (by decide) ?_
  refine w_iload_n dX9_init_137 rfl ?_
  refine w_iconst dX9_init_138 ?_
  refine w_icmp_gt (tgt := 161) dX9_init_139 (by decide) (by decide) (by decide) (fun h => absurd h (by decide)) (fun _ => ?_)
  refine w_aload_n dX9_init_142 rfl ?_
  refine w_getR (fs := [1, 13, 15, 23, 30, 200, 201, 209, 220, 222, -1, -1]) (r := 200) dX9_init_143 fl9_48 (by decide +kernel) (by decide) rfl ?_
  refine w_iload_n dX9_init_146 rfl ?_
  refine k_new (ci := 6) (fs := [-1, -1, -1, -1, -3, -3, -3, -3, -3, -3]) (n1 := 232) (c1 := 231) (s1 := 2025) dX9_init_147 (by decide) cn9_32 inst6 ini6 nf6 (by decide) rfl rfl rfl (by decide) (hz1 (by decide)) ?_
  refine w_dup dX9_init_150 rfl ?_
  refine k_init (n1 := 238) (c1 := 237) (s1 := 2066) dX9_init_151 ok_X6_init (Or.inr lj9_34) (c_X6_init (a := 231) (n := 232) (l := [(200, (2, [224, -3]))]) (M := (mLn 2 8 Mz)) (by decide) (by decide) (by decide +kernel) (by decide +kernel) (fun i h1 h2 => hz1 (by omega))) rfl rfl (by decide) rfl rfl (by decide) (by decide) ?_
  refine k_aast (gs := [-1, -1, -1, -1, 232, 233, 234, 235, 236, 237]) dX9_init_154 (by decide) (by decide) (by decide +kernel) (by decide) (by decide) (by decide) ?_
  refine k_done (by decide +kernel) ?_
  refine w_iinc dX9_init_155 rfl (by decide) ?_
  refine w_goto (tgt := 137) dX9_init_158 (by decide) ?_
  refine w_iload_n dX9_init_137 rfl ?_
  refine w_iconst dX9_init_138 ?_
  refine w_icmp_gt (tgt := 161) dX9_init_139 (by decide) (by decide) (by decide) (fun _ => ?_) (fun h => absurd (by decide) h)
  exact k_ret dX9_init_161 rfl (by decide)
set_option maxRecDepth 100000 in
theorem c_X10_init {E : EV} : Ct E mX10_init 1 11 1799 [vr 238] 239 (GO [(238, (10 + 4, [-3, -3, -3, -3, -1, -3, -3, -3, -1, -1, -1, -1, -1, -1, -3, -1, -3, -3, -3, -1]))]) (mLn 2 8 Mz) (Pk 250 (GO []) (mLn 239 8 (mLn 2 8 Mz))) := by
  refine Ct.of [some (vr 238), none] rfl rfl rfl (Nat.le_of_ble_eq_true rfl) ?_
  refine w_aload_n dX10_init_0 rfl ?_
  refine w_objInit dX10_init_1 li10_1 obj1 obj2 (by decide) (by decide) ?_
  refine w_aload_n dX10_init_4 rfl ?_
  refine w_bipush dX10_init_5 (by decide +kernel) ?_
  refine k_newI (n1 := 240) (c1 := 1) (s1 := 8) dX10_init_7 (by decide) (by decide) (by decide) rfl rfl rfl (by decide) (by decide +kernel) (hz1 (by decide)) ?_
  refine k_put (ty := (.array .int)) dX10_init_9 fl10_7 (by decide) (by decide) (by decide +kernel) (by decide +kernel) (by decide +kernel) ⟨by decide +kernel, by decide +kernel, fun _ => rfl, fun _ => rfl⟩ (by decide +kernel) ?_
  refine w_aload_n dX10_init_12 rfl ?_
  refine w_bipush dX10_init_13 (by decide +kernel) ?_
  refine k_newI (n1 := 241) (c1 := 2) (s1 := 16) dX10_init_15 (by decide) (by decide) (by decide) rfl rfl rfl (by decide) (by decide +kernel) (hz1 (by decide)) ?_
  refine k_put (ty := (.array .int)) dX10_init_17 fl10_13 (by decide) (by decide) (by decide +kernel) (by decide +kernel) (by decide +kernel) ⟨by decide +kernel, by decide +kernel, fun _ => rfl, fun _ => rfl⟩ (by decide +kernel) ?_
  refine w_aload_n dX10_init_20 rfl ?_
  refine w_sipush dX10_init_21 (by decide +kernel) ?_
  refine k_newI (n1 := 242) (c1 := 3) (s1 := 336) dX10_init_24 (by decide) (by decide) (by decide) rfl rfl rfl (by decide) (by decide +kernel) (hz1 (by decide)) ?_
  refine k_put (ty := (.array .int)) dX10_init_26 fl10_16 (by decide) (by decide) (by decide +kernel) (by decide +kernel) (by decide +kernel) ⟨by decide +kernel, by decide +kernel, fun _ => rfl, fun _ => rfl⟩ (by decide +kernel) ?_
  refine w_aload_n dX10_init_29 rfl ?_
  refine w_bipush dX10_init_30 (by decide +kernel) ?_
  refine k_newI (n1 := 243) (c1 := 4) (s1 := 376) dX10_init_32 (by decide) (by decide) (by decide) rfl rfl rfl (by decide) (by decide +kernel) (hz1 (by decide)) ?_
  refine k_put (ty := (.array .int)) dX10_init_34 fl10_19 (by decide) (by decide) (by decide +kernel) (by decide +kernel) (by decide +kernel) ⟨by decide +kernel, by decide +kernel, fun _ => rfl, fun _ => rfl⟩ (by decide +kernel) ?_
  refine w_aload_n dX10_init_37 rfl ?_
  refine w_bipush dX10_init_38 (by decide +kernel) ?_
  refine k_newI (n1 := 244) (c1 := 5) (s1 := 421) dX10_init_40 (by decide) (by decide) (by decide) rfl rfl rfl (by decide) (by decide +kernel) (hz1 (by decide)) ?_
  refine k_put (ty := (.array .int)) dX10_init_42 fl10_22 (by decide) (by decide) (by decide +kernel) (by decide +kernel) (by decide +kernel) ⟨by decide +kernel, by decide +kernel, fun _ => rfl, fun _ => rfl⟩ (by decide +kernel) ?_
  refine w_aload_n dX10_init_45 rfl ?_
  refine w_bipush dX10_init_46 (by decide +kernel) ?_
  refine k_newI (n1 := 245) (c1 := 6) (s1 := 466) dX10_init_48 (by decide) (by decide) (by decide) rfl rfl rfl (by decide) (by decide +kernel) (hz1 (by decide)) ?_
  refine k_put (ty := (.array .int)) dX10_init_50 fl10_25 (by decide) (by decide) (by decide +kernel) (by decide +kernel) (by decide +kernel) ⟨by decide +kernel, by decide +kernel, fun _ => rfl, fun _ => rfl⟩ (by decide +kernel) ?_
  refine w_aload_n dX10_init_53 rfl ?_
  refine w_bipush dX10_init_54 (by decide +kernel) ?_
  refine k_newI (n1 := 246) (c1 := 7) (s1 := 566) dX10_init_56 (by decide) (by decide) (by decide) rfl rfl rfl (by decide) (by decide +kernel) (hz1 (by decide)) ?_
  refine k_put (ty := (.array .int)) dX10_init_58 fl10_28 (by decide) (by decide) (by decide +kernel) (by decide +kernel) (by decide +kernel) ⟨by decide +kernel, by decide +kernel, fun _ => rfl, fun _ => rfl⟩ (by decide +kernel) ?_
  refine w_aload_n dX10_init_61 rfl ?_
  refine w_sipush dX10_init_62 (by decide +kernel) ?_
  refine k_newI (n1 := 247) (c1 := 8) (s1 := 1646) dX10_init_65 (by decide) (by decide) (by decide) rfl rfl rfl (by decide) (by decide +kernel) (hz1 (by decide)) ?_
  refine k_put (ty := (.array .int)) dX10_init_67 fl10_31 (by decide) (by decide) (by decide +kernel) (by decide +kernel) (by decide +kernel) ⟨by decide +kernel, by decide +kernel, fun _ => rfl, fun _ => rfl⟩ (by decide +kernel) ?_
  refine w_aload_n dX10_init_70 rfl ?_
  refine w_bipush dX10_init_71 (by decide +kernel) ?_
  refine k_newI (n1 := 248) (c1 := 9) (s1 := 1691) dX10_init_73 (by decide) (by decide) (by decide) rfl rfl rfl (by decide) (by decide +kernel) (hz1 (by decide)) ?_
  refine k_put (ty := (.array .int)) dX10_init_75 fl10_34 (by decide) (by decide) (by decide +kernel) (by decide +kernel) (by decide +kernel) ⟨by decide +kernel, by decide +kernel, fun _ => rfl, fun _ => rfl⟩ (by decide +kernel) ?_
  refine w_aload_n dX10_init_78 rfl ?_
  refine w_bipush dX10_init_79 (by decide +kernel) ?_
  refine k_newI (n1 := 249) (c1 := 10) (s1 := 1783) dX10_init_81 (by decide) (by decide) (by decide) rfl rfl rfl (by decide) (by decide +kernel) (hz1 (by decide)) ?_
  refine k_put (ty := (.array .int)) dX10_init_83 fl10_37 (by decide) (by decide) (by decide +kernel) (by decide +kernel) (by decide +kernel) ⟨by decide +kernel, by decide +kernel, fun _ => rfl, fun _ => rfl⟩ (by decide +kernel) ?_
  refine w_aload_n dX10_init_86 rfl ?_
  refine w_bipush dX10_init_87 (by decide +kernel) ?_
  refine k_newI (n1 := 250) (c1 := 11) (s1 := 1799) dX10_init_89 (by decide) (by decide) (by decide) rfl rfl rfl (by decide) (by decide +kernel) (hz1 (by decide)) ?_
  refine k_put (ty := (.array .int)) dX10_init_91 fl10_40 (by decide) (by decide) (by decide +kernel) (by decide +kernel) (by decide +kernel) ⟨by decide +kernel, by decide +kernel, fun _ => rfl, fun _ => rfl⟩ (by decide +kernel) ?_
  refine k_done (by decide +kernel) ?_
  refine w_iconst dX10_init_94 ?_
  refine w_istore_n dX10_init_95 (by decide) ?_
  refine w_iload_n dX10_init_96 rfl ?_
  refine w_bipush dX10_init_97 (by decide +kernel) ?_
  refine w_icmp_ge (tgt := 115) dX10_init_99 (by decide) (by decide) (by decide) (fun h => absurd h (by decide)) (fun _ => ?_)
  refine w_aload_n dX10_init_102 rfl ?_
  refine w_getR (fs := [239, 240, 241, 242, -1, 243, 244, 245, -1, -1, -1, -1, -1, -1, 246, -1, 247, 248, 249, -1]) (r := 239) dX10_init_103 fl10_7 (by decide +kernel) (by decide) rfl ?_
  refine w_iload_n dX10_init_106 rfl ?_
  refine w_iconst dX10_init_107 ?_
  refine k_L0 (a := 239) ?_
  refine k_iastL (fs := [8]) dX10_init_108 (by decide +kernel) (by decide) (by decide) (by decide) (by decide) ?_
  refine w_iinc dX10_init_109 rfl (by decide) ?_
  refine w_goto (tgt := 96) dX10_init_112 (by decide) ?_
  refine w_iload_n dX10_init_96 rfl ?_
  refine w_bipush dX10_init_97 (by decide +kernel) ?_
  refine w_icmp_ge (tgt := 115) dX10_init_99 (by decide) (by decide) (by decide) (fun h => absurd h (by decide)) (fun _ => ?_)
  refine w_aload_n dX10_init_102 rfl ?_
  refine w_getR (fs := [239, 240, 241, 242, -1, 243, 244, 245, -1, -1, -1, -1, -1, -1, 246, -1, 247, 248, 249, -1]) (r := 239) dX10_init_103 fl10_7 (by decide +kernel) (by decide) rfl ?_
  refine w_iload_n dX10_init_106 rfl ?_
  refine w_iconst dX10_init_107 ?_
  refine k_iastL (fs := [8]) dX10_init_108 (by decide +kernel) (by decide) (by decide) (by decide) (by decide) ?_
  refine w_iinc dX10_init_109 rfl (by decide) ?_
  refine w_goto (tgt := 96) dX10_init_112 (by decide) ?_
  refine w_iload_n dX10_init_96 rfl ?_
  refine w_bipush dX10_init_97 (by decide +kernel) ?_
  refine w_icmp_ge (tgt := 115) dX10_init_99 (by decide) (by decide) (by decide) (fun h => absurd h (by decide)) (fun _ => ?_)
  refine w_aload_n dX10_init_102 rfl ?_
  refine w_getR (fs := [239, 240, 241, 242, -1, 243, 244, 245, -1, -1, -1, -1, -1, -1, 246, -1, 247, 248, 249, -1]) (r := 239) dX10_init_103 fl10_7 (by decide +kernel) (by decide) rfl ?_
  refine w_iload_n dX10_init_106 rfl ?_
  refine w_iconst dX10_init_107 ?_
  refine k_iastL (fs := [8]) dX10_init_108 (by decide +kernel) (by decide) (by decide) (by decide) (by decide) ?_
  refine w_iinc dX10_init_109 rfl (by decide) ?_
  refine w_goto (tgt := 96) dX10_init_112 (by decide) ?_
  refine w_iload_n dX10_init_96 rfl ?_
  refine w_bipush dX10_init_97 (by decide +kernel) ?_
  refine w_icmp_ge (tgt := 115) dX10_init_99 (by decide) (by decide) (by decide) (fun h => absurd h (by decide)) (fun _ => ?_)
  refine w_aload_n dX10_init_102 rfl ?_
  refine w_getR (fs := [239, 240, 241, 242, -1, 243, 244, 245, -1, -1, -1, -1, -1, -1, 246, -1, 247, 248, 249, -1]) (r := 239) dX10_init_103 fl10_7 (by decide +kernel) (by decide) rfl ?_
  refine w_iload_n dX10_init_106 rfl ?_
  refine w_iconst dX10_init_107 ?_
  refine k_iastL (fs := [8]) dX10_init_108 (by decide +kernel) (by decide) (by decide) (by decide) (by decide) ?_
  refine w_iinc dX10_init_109 rfl (by decide) ?_
  refine w_goto (tgt := 96) dX10_init_112 (by decide) ?_
  refine w_iload_n dX10_init_96 rfl ?_
  refine w_bipush dX10_init_97 (by decide +kernel) ?_
  refine w_icmp_ge (tgt := 115) dX10_init_99 (by decide) (by decide) (by decide) (fun h => absurd h (by decide)) (fun _ => ?_)
  refine w_aload_n dX10_init_102 rfl ?_
  refine w_getR (fs := [239, 240, 241, 242, -1, 243, 244, 245, -1, -1, -1, -1, -1, -1, 246, -1, 247, 248, 249, -1]) (r := 239) dX10_init_103 fl10_7 (by decide +kernel) (by decide) rfl ?_
  refine w_iload_n dX10_init_106 rfl ?_
  refine w_iconst dX10_init_107 ?_
  refine k_iastL (fs := [8]) dX10_init_108 (by decide +kernel) (by decide) (by decide) (by decide) (by decide) ?_
  refine w_iinc dX10_init_109 rfl (by decide) ?_
  refine w_goto (tgt := 96) dX10_init_112 (by decide) ?_
  refine w_iload_n dX10_init_96 rfl ?_
  refine w_bipush dX10_init_97 (by decide +kernel) ?_
  refine w_icmp_ge (tgt := 115) dX10_init_99 (by decide) (by decide) (by decide) (fun h => absurd h (by decide)) (fun _ => ?_)
  refine w_aload_n dX10_init_102 rfl ?_
  refine w_getR (fs := [239, 240, 241, 242, -1, 243, 244, 245, -1, -1, -1, -1, -1, -1, 246, -1, 247, 248, 249, -1]) (r := 239) dX10_init_103 fl10_7 (by decide +kernel) (by decide) rfl ?_
  refine w_iload_n dX10_init_106 rfl ?_
  refine w_iconst dX10_init_107 ?_
  refine k_iastL (fs := [8]) dX10_init_108 (by decide +kernel) (by decide) (by decide) (by decide) (by decide) ?_
  refine w_iinc dX10_init_109 rfl (by decide) ?_
  refine w_goto (tgt := 96) dX10_init_112 (by decide) ?_
  refine w_iload_n dX10_init_96 rfl ?_
  refine w_bipush dX10_init_97 (by decide +kernel) ?_
  refine w_icmp_ge (tgt := 115) dX10_init_99 (by decide) (by decide) (by decide) (fun h => absurd h (by decide)) (fun _ => ?_)
  refine w_aload_n dX10_init_102 rfl ?_
  refine w_getR (fs := [239, 240, 241, 242, -1, 243, 244, 245, -1, -1, -1, -1, -1, -1, 246, -1, 247, 248, 249, -1]) (r := 239) dX10_init_103 fl10_7 (by decide +kernel) (by decide) rfl ?_
  refine w_iload_n dX10_init_106 rfl ?_
  refine w_iconst dX10_init_107 ?_
  refine k_iastL (fs := [8]) dX10_init_108 (by decide +kernel) (by decide) (by decide) (by decide) (by decide) ?_
  refine w_iinc dX10_init_109 rfl (by decide) ?_
  refine w_goto (tgt := 96) dX10_init_112 (by decide) ?_
  refine w_iload_n dX10_init_96 rfl ?_
  refine w_bipush dX10_init_97 (by decide +kernel) ?_
  refine w_icmp_ge (tgt := 115) dX10_init_99 (by decide) (by decide) (by decide) (fun h => absurd h (by decide)) (fun _ => ?_)
  refine w_aload_n dX10_init_102 rfl ?_
  refine w_getR (fs := [239, 240, 241, 242, -1, 243, 244, 245, -1, -1, -1, -1, -1, -1, 246, -1, 247, 248, 249, -1]) (r := 239) dX10_init_103 fl10_7 (by decide +kernel) (by decide) rfl ?_
  refine w_iload_n dX10_init_106 rfl ?_
  refine w_iconst dX10_init_107 ?_
  refine k_iastL (fs := [8]) dX10_init_108 (by decide +kernel) (by decide) (by decide) (by decide) (by decide) ?_
  refine w_iinc dX10_init_109 rfl (by decide) ?_
  refine w_goto (tgt := 96) dX10_init_112 (by decide) ?_
  refine w_iload_n dX10_init_96 rfl ?_
  refine w_bipush dX10_init_97 (by decide +kernel) ?_
  refine w_icmp_ge (tgt := 115) dX10_init_99 (by decide) (by decide) (by decide) (fun _ => ?_) (fun h => absurd (by decide) h)
  exact k_ret dX10_init_115 rfl (by decide)
