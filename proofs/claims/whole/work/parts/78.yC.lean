/-! persons: their constructors, a new one -/
theorem q_k_s {w : q_W} {a N : Nat} {O O' : q_E} : q_k (q_k w a O N []) a O' N [] = q_k w a O' N [] := by
  funext x
  unfold q_k
  by_cases e : x = a
  · rw [if_pos e, if_pos e]
  · rw [if_neg e, if_neg e, if_neg e]
    by_cases e2 : x < N
    · rw [if_pos e2, if_pos e2]
    · rw [if_neg e2, if_neg e2]
theorem q_k_up {w : q_W} {n : Nat} {O O' : q_E} (hd : q_dom w n) : q_k (q_up w n O) n O' (n + 1) [] = q_up w n O' := by
  funext x
  unfold q_k q_up
  by_cases e : x = n
  · rw [if_pos e, if_pos e]
  · rw [if_neg e, if_neg e, if_neg e]
    by_cases e2 : x < n + 1
    · rw [if_pos e2]
    · rw [if_neg e2, List.getElem?_nil]
      exact (Classical.byContradiction fun q => e2 (by have := (hd x).mp (fun z => q z.symm); omega))
set_option maxRecDepth 20000 in
theorem tX5_init_0 (w : q_W) (a N t u : Nat) (hd : q_dom w N) (hw : w a = some (q_ob 0 [.null, .null, .null, q_i 0, q_i 0, q_i 0])) : q_T mX5_init 1 0 0 [.ref a, .ref 8, .ref t, .ref u] w (fun v' w' => v' = none ∧ w' = (q_k w a (q_ob 0 [.ref 8, .ref t, .ref u, q_i 0, q_i 0, q_i 1]) N [])) := by
  refine q_T.of (lv := [some (.ref a), some (.ref 8), some (.ref t), some (.ref u)]) (by decide) rfl (Nat.le_of_ble_eq_true rfl) ?_
  have ha : a < N := hd.lt hw
  refine q_Jeq (w' := (q_k w a (q_ob 0 [.null, .null, .null, q_i 0, q_i 0, q_i 0]) N [])) rfl rfl (q_k_0 hd hw) ?_
  refine q_aload_n dX5_init_0 rfl ?_
  refine q_objInit wd_403 wd_83 wd_84 (by decide) (Nat.le_of_ble_eq_true rfl) dX5_init_1 ?_
  refine q_aload_n dX5_init_4 rfl ?_
  refine q_iconst dX5_init_5 ?_
  refine q_puti (fs := [.null, .null, .null, q_i 0, q_i 0, q_i 0]) pX5_9_0 q_k_a (Nat.le_of_ble_eq_true rfl) dX5_init_6 ?_
  refine q_Jeq (w' := (q_k w a (q_ob 0 [.null, .null, .null, q_i 0, q_i 0, q_i 0]) N [])) rfl rfl (q_k_o (q_ob 0 [.null, .null, .null, q_i 0, q_i 0, q_i 0])) ?_
  refine q_aload_n dX5_init_9 rfl ?_
  refine q_iconst dX5_init_10 ?_
  refine q_puti (fs := [.null, .null, .null, q_i 0, q_i 0, q_i 0]) pX5_15_0 q_k_a (Nat.le_of_ble_eq_true rfl) dX5_init_11 ?_
  refine q_Jeq (w' := (q_k w a (q_ob 0 [.null, .null, .null, q_i 0, q_i 0, q_i 0]) N [])) rfl rfl (q_k_o (q_ob 0 [.null, .null, .null, q_i 0, q_i 0, q_i 0])) ?_
  refine q_aload_n dX5_init_14 rfl ?_
  refine q_iconst dX5_init_15 ?_
  refine q_puti (fs := [.null, .null, .null, q_i 0, q_i 0, q_i 0]) pX5_18_0 q_k_a (Nat.le_of_ble_eq_true rfl) dX5_init_16 ?_
  refine q_Jeq (w' := (q_k w a (q_ob 0 [.null, .null, .null, q_i 0, q_i 0, q_i 1]) N [])) rfl rfl (q_k_o (q_ob 0 [.null, .null, .null, q_i 0, q_i 0, q_i 1])) ?_
  refine q_aload_n dX5_init_19 rfl ?_
  refine q_aload_n dX5_init_20 rfl ?_
  refine q_putro (fs := [.null, .null, .null, q_i 0, q_i 0, q_i 1]) pX5_21_0 rfl q_k_a (Nat.le_of_ble_eq_true rfl) dX5_init_21 ?_
  refine q_Jeq (w' := (q_k w a (q_ob 0 [.ref 8, .null, .null, q_i 0, q_i 0, q_i 1]) N [])) rfl rfl (q_k_o (q_ob 0 [.ref 8, .null, .null, q_i 0, q_i 0, q_i 1])) ?_
  refine q_aload_n dX5_init_24 rfl ?_
  refine q_aload_n dX5_init_25 rfl ?_
  refine q_putra (fs := [.ref 8, .null, .null, q_i 0, q_i 0, q_i 1]) pX5_25_0 rfl q_k_a (Nat.le_of_ble_eq_true rfl) dX5_init_26 ?_
  refine q_Jeq (w' := (q_k w a (q_ob 0 [.ref 8, .ref t, .null, q_i 0, q_i 0, q_i 1]) N [])) rfl rfl (q_k_o (q_ob 0 [.ref 8, .ref t, .null, q_i 0, q_i 0, q_i 1])) ?_
  refine q_aload_n dX5_init_29 rfl ?_
  refine q_aload_n dX5_init_30 rfl ?_
  refine q_putra (fs := [.ref 8, .ref t, .null, q_i 0, q_i 0, q_i 1]) pX5_29_0 rfl q_k_a (Nat.le_of_ble_eq_true rfl) dX5_init_31 ?_
  refine q_Jeq (w' := (q_k w a (q_ob 0 [.ref 8, .ref t, .ref u, q_i 0, q_i 0, q_i 1]) N [])) rfl rfl (q_k_o (q_ob 0 [.ref 8, .ref t, .ref u, q_i 0, q_i 0, q_i 1])) ?_
  exact q_vret rfl dX5_init_34 (⟨rfl, rfl⟩)
set_option maxRecDepth 20000 in
theorem tX5_init_1 (w : q_W) (a N t u : Nat) (hd : q_dom w N) (hw : w a = some (q_ob 1 [.null, .null, .null, q_i 0, q_i 0, q_i 0])) : q_T mX5_init 1 0 0 [.ref a, .ref 8, .ref t, .ref u] w (fun v' w' => v' = none ∧ w' = (q_k w a (q_ob 1 [.ref 8, .ref t, .ref u, q_i 0, q_i 0, q_i 1]) N [])) := by
  refine q_T.of (lv := [some (.ref a), some (.ref 8), some (.ref t), some (.ref u)]) (by decide) rfl (Nat.le_of_ble_eq_true rfl) ?_
  have ha : a < N := hd.lt hw
  refine q_Jeq (w' := (q_k w a (q_ob 1 [.null, .null, .null, q_i 0, q_i 0, q_i 0]) N [])) rfl rfl (q_k_0 hd hw) ?_
  refine q_aload_n dX5_init_0 rfl ?_
  refine q_objInit wd_403 wd_83 wd_84 (by decide) (Nat.le_of_ble_eq_true rfl) dX5_init_1 ?_
  refine q_aload_n dX5_init_4 rfl ?_
  refine q_iconst dX5_init_5 ?_
  refine q_puti (fs := [.null, .null, .null, q_i 0, q_i 0, q_i 0]) pX5_9_1 q_k_a (Nat.le_of_ble_eq_true rfl) dX5_init_6 ?_
  refine q_Jeq (w' := (q_k w a (q_ob 1 [.null, .null, .null, q_i 0, q_i 0, q_i 0]) N [])) rfl rfl (q_k_o (q_ob 1 [.null, .null, .null, q_i 0, q_i 0, q_i 0])) ?_
  refine q_aload_n dX5_init_9 rfl ?_
  refine q_iconst dX5_init_10 ?_
  refine q_puti (fs := [.null, .null, .null, q_i 0, q_i 0, q_i 0]) pX5_15_1 q_k_a (Nat.le_of_ble_eq_true rfl) dX5_init_11 ?_
  refine q_Jeq (w' := (q_k w a (q_ob 1 [.null, .null, .null, q_i 0, q_i 0, q_i 0]) N [])) rfl rfl (q_k_o (q_ob 1 [.null, .null, .null, q_i 0, q_i 0, q_i 0])) ?_
  refine q_aload_n dX5_init_14 rfl ?_
  refine q_iconst dX5_init_15 ?_
  refine q_puti (fs := [.null, .null, .null, q_i 0, q_i 0, q_i 0]) pX5_18_1 q_k_a (Nat.le_of_ble_eq_true rfl) dX5_init_16 ?_
  refine q_Jeq (w' := (q_k w a (q_ob 1 [.null, .null, .null, q_i 0, q_i 0, q_i 1]) N [])) rfl rfl (q_k_o (q_ob 1 [.null, .null, .null, q_i 0, q_i 0, q_i 1])) ?_
  refine q_aload_n dX5_init_19 rfl ?_
  refine q_aload_n dX5_init_20 rfl ?_
  refine q_putro (fs := [.null, .null, .null, q_i 0, q_i 0, q_i 1]) pX5_21_1 rfl q_k_a (Nat.le_of_ble_eq_true rfl) dX5_init_21 ?_
  refine q_Jeq (w' := (q_k w a (q_ob 1 [.ref 8, .null, .null, q_i 0, q_i 0, q_i 1]) N [])) rfl rfl (q_k_o (q_ob 1 [.ref 8, .null, .null, q_i 0, q_i 0, q_i 1])) ?_
  refine q_aload_n dX5_init_24 rfl ?_
  refine q_aload_n dX5_init_25 rfl ?_
  refine q_putra (fs := [.ref 8, .null, .null, q_i 0, q_i 0, q_i 1]) pX5_25_1 rfl q_k_a (Nat.le_of_ble_eq_true rfl) dX5_init_26 ?_
  refine q_Jeq (w' := (q_k w a (q_ob 1 [.ref 8, .ref t, .null, q_i 0, q_i 0, q_i 1]) N [])) rfl rfl (q_k_o (q_ob 1 [.ref 8, .ref t, .null, q_i 0, q_i 0, q_i 1])) ?_
  refine q_aload_n dX5_init_29 rfl ?_
  refine q_aload_n dX5_init_30 rfl ?_
  refine q_putra (fs := [.ref 8, .ref t, .null, q_i 0, q_i 0, q_i 1]) pX5_29_1 rfl q_k_a (Nat.le_of_ble_eq_true rfl) dX5_init_31 ?_
  refine q_Jeq (w' := (q_k w a (q_ob 1 [.ref 8, .ref t, .ref u, q_i 0, q_i 0, q_i 1]) N [])) rfl rfl (q_k_o (q_ob 1 [.ref 8, .ref t, .ref u, q_i 0, q_i 0, q_i 1])) ?_
  exact q_vret rfl dX5_init_34 (⟨rfl, rfl⟩)
set_option maxRecDepth 20000 in
theorem tX5_init_2 (w : q_W) (a N t u : Nat) (hd : q_dom w N) (hw : w a = some (q_ob 2 [.null, .null, .null, q_i 0, q_i 0, q_i 0])) : q_T mX5_init 1 0 0 [.ref a, .ref 8, .ref t, .ref u] w (fun v' w' => v' = none ∧ w' = (q_k w a (q_ob 2 [.ref 8, .ref t, .ref u, q_i 0, q_i 0, q_i 1]) N [])) := by
  refine q_T.of (lv := [some (.ref a), some (.ref 8), some (.ref t), some (.ref u)]) (by decide) rfl (Nat.le_of_ble_eq_true rfl) ?_
  have ha : a < N := hd.lt hw
  refine q_Jeq (w' := (q_k w a (q_ob 2 [.null, .null, .null, q_i 0, q_i 0, q_i 0]) N [])) rfl rfl (q_k_0 hd hw) ?_
  refine q_aload_n dX5_init_0 rfl ?_
  refine q_objInit wd_403 wd_83 wd_84 (by decide) (Nat.le_of_ble_eq_true rfl) dX5_init_1 ?_
  refine q_aload_n dX5_init_4 rfl ?_
  refine q_iconst dX5_init_5 ?_
  refine q_puti (fs := [.null, .null, .null, q_i 0, q_i 0, q_i 0]) pX5_9_2 q_k_a (Nat.le_of_ble_eq_true rfl) dX5_init_6 ?_
  refine q_Jeq (w' := (q_k w a (q_ob 2 [.null, .null, .null, q_i 0, q_i 0, q_i 0]) N [])) rfl rfl (q_k_o (q_ob 2 [.null, .null, .null, q_i 0, q_i 0, q_i 0])) ?_
  refine q_aload_n dX5_init_9 rfl ?_
  refine q_iconst dX5_init_10 ?_
  refine q_puti (fs := [.null, .null, .null, q_i 0, q_i 0, q_i 0]) pX5_15_2 q_k_a (Nat.le_of_ble_eq_true rfl) dX5_init_11 ?_
  refine q_Jeq (w' := (q_k w a (q_ob 2 [.null, .null, .null, q_i 0, q_i 0, q_i 0]) N [])) rfl rfl (q_k_o (q_ob 2 [.null, .null, .null, q_i 0, q_i 0, q_i 0])) ?_
  refine q_aload_n dX5_init_14 rfl ?_
  refine q_iconst dX5_init_15 ?_
  refine q_puti (fs := [.null, .null, .null, q_i 0, q_i 0, q_i 0]) pX5_18_2 q_k_a (Nat.le_of_ble_eq_true rfl) dX5_init_16 ?_
  refine q_Jeq (w' := (q_k w a (q_ob 2 [.null, .null, .null, q_i 0, q_i 0, q_i 1]) N [])) rfl rfl (q_k_o (q_ob 2 [.null, .null, .null, q_i 0, q_i 0, q_i 1])) ?_
  refine q_aload_n dX5_init_19 rfl ?_
  refine q_aload_n dX5_init_20 rfl ?_
  refine q_putro (fs := [.null, .null, .null, q_i 0, q_i 0, q_i 1]) pX5_21_2 rfl q_k_a (Nat.le_of_ble_eq_true rfl) dX5_init_21 ?_
  refine q_Jeq (w' := (q_k w a (q_ob 2 [.ref 8, .null, .null, q_i 0, q_i 0, q_i 1]) N [])) rfl rfl (q_k_o (q_ob 2 [.ref 8, .null, .null, q_i 0, q_i 0, q_i 1])) ?_
  refine q_aload_n dX5_init_24 rfl ?_
  refine q_aload_n dX5_init_25 rfl ?_
  refine q_putra (fs := [.ref 8, .null, .null, q_i 0, q_i 0, q_i 1]) pX5_25_2 rfl q_k_a (Nat.le_of_ble_eq_true rfl) dX5_init_26 ?_
  refine q_Jeq (w' := (q_k w a (q_ob 2 [.ref 8, .ref t, .null, q_i 0, q_i 0, q_i 1]) N [])) rfl rfl (q_k_o (q_ob 2 [.ref 8, .ref t, .null, q_i 0, q_i 0, q_i 1])) ?_
  refine q_aload_n dX5_init_29 rfl ?_
  refine q_aload_n dX5_init_30 rfl ?_
  refine q_putra (fs := [.ref 8, .ref t, .null, q_i 0, q_i 0, q_i 1]) pX5_29_2 rfl q_k_a (Nat.le_of_ble_eq_true rfl) dX5_init_31 ?_
  refine q_Jeq (w' := (q_k w a (q_ob 2 [.ref 8, .ref t, .ref u, q_i 0, q_i 0, q_i 1]) N [])) rfl rfl (q_k_o (q_ob 2 [.ref 8, .ref t, .ref u, q_i 0, q_i 0, q_i 1])) ?_
  exact q_vret rfl dX5_init_34 (⟨rfl, rfl⟩)
set_option maxRecDepth 20000 in
theorem tX5_init_3 (w : q_W) (a N t u : Nat) (hd : q_dom w N) (hw : w a = some (q_ob 3 [.null, .null, .null, q_i 0, q_i 0, q_i 0])) : q_T mX5_init 1 0 0 [.ref a, .ref 8, .ref t, .ref u] w (fun v' w' => v' = none ∧ w' = (q_k w a (q_ob 3 [.ref 8, .ref t, .ref u, q_i 0, q_i 0, q_i 1]) N [])) := by
  refine q_T.of (lv := [some (.ref a), some (.ref 8), some (.ref t), some (.ref u)]) (by decide) rfl (Nat.le_of_ble_eq_true rfl) ?_
  have ha : a < N := hd.lt hw
  refine q_Jeq (w' := (q_k w a (q_ob 3 [.null, .null, .null, q_i 0, q_i 0, q_i 0]) N [])) rfl rfl (q_k_0 hd hw) ?_
  refine q_aload_n dX5_init_0 rfl ?_
  refine q_objInit wd_403 wd_83 wd_84 (by decide) (Nat.le_of_ble_eq_true rfl) dX5_init_1 ?_
  refine q_aload_n dX5_init_4 rfl ?_
  refine q_iconst dX5_init_5 ?_
  refine q_puti (fs := [.null, .null, .null, q_i 0, q_i 0, q_i 0]) pX5_9_3 q_k_a (Nat.le_of_ble_eq_true rfl) dX5_init_6 ?_
  refine q_Jeq (w' := (q_k w a (q_ob 3 [.null, .null, .null, q_i 0, q_i 0, q_i 0]) N [])) rfl rfl (q_k_o (q_ob 3 [.null, .null, .null, q_i 0, q_i 0, q_i 0])) ?_
  refine q_aload_n dX5_init_9 rfl ?_
  refine q_iconst dX5_init_10 ?_
  refine q_puti (fs := [.null, .null, .null, q_i 0, q_i 0, q_i 0]) pX5_15_3 q_k_a (Nat.le_of_ble_eq_true rfl) dX5_init_11 ?_
  refine q_Jeq (w' := (q_k w a (q_ob 3 [.null, .null, .null, q_i 0, q_i 0, q_i 0]) N [])) rfl rfl (q_k_o (q_ob 3 [.null, .null, .null, q_i 0, q_i 0, q_i 0])) ?_
  refine q_aload_n dX5_init_14 rfl ?_
  refine q_iconst dX5_init_15 ?_
  refine q_puti (fs := [.null, .null, .null, q_i 0, q_i 0, q_i 0]) pX5_18_3 q_k_a (Nat.le_of_ble_eq_true rfl) dX5_init_16 ?_
  refine q_Jeq (w' := (q_k w a (q_ob 3 [.null, .null, .null, q_i 0, q_i 0, q_i 1]) N [])) rfl rfl (q_k_o (q_ob 3 [.null, .null, .null, q_i 0, q_i 0, q_i 1])) ?_
  refine q_aload_n dX5_init_19 rfl ?_
  refine q_aload_n dX5_init_20 rfl ?_
  refine q_putro (fs := [.null, .null, .null, q_i 0, q_i 0, q_i 1]) pX5_21_3 rfl q_k_a (Nat.le_of_ble_eq_true rfl) dX5_init_21 ?_
  refine q_Jeq (w' := (q_k w a (q_ob 3 [.ref 8, .null, .null, q_i 0, q_i 0, q_i 1]) N [])) rfl rfl (q_k_o (q_ob 3 [.ref 8, .null, .null, q_i 0, q_i 0, q_i 1])) ?_
  refine q_aload_n dX5_init_24 rfl ?_
  refine q_aload_n dX5_init_25 rfl ?_
  refine q_putra (fs := [.ref 8, .null, .null, q_i 0, q_i 0, q_i 1]) pX5_25_3 rfl q_k_a (Nat.le_of_ble_eq_true rfl) dX5_init_26 ?_
  refine q_Jeq (w' := (q_k w a (q_ob 3 [.ref 8, .ref t, .null, q_i 0, q_i 0, q_i 1]) N [])) rfl rfl (q_k_o (q_ob 3 [.ref 8, .ref t, .null, q_i 0, q_i 0, q_i 1])) ?_
  refine q_aload_n dX5_init_29 rfl ?_
  refine q_aload_n dX5_init_30 rfl ?_
  refine q_putra (fs := [.ref 8, .ref t, .null, q_i 0, q_i 0, q_i 1]) pX5_29_3 rfl q_k_a (Nat.le_of_ble_eq_true rfl) dX5_init_31 ?_
  refine q_Jeq (w' := (q_k w a (q_ob 3 [.ref 8, .ref t, .ref u, q_i 0, q_i 0, q_i 1]) N [])) rfl rfl (q_k_o (q_ob 3 [.ref 8, .ref t, .ref u, q_i 0, q_i 0, q_i 1])) ?_
  exact q_vret rfl dX5_init_34 (⟨rfl, rfl⟩)
set_option maxRecDepth 20000 in
theorem tX5_init_4 (w : q_W) (a N t u : Nat) (hd : q_dom w N) (hw : w a = some (q_ob 4 [.null, .null, .null, q_i 0, q_i 0, q_i 0])) : q_T mX5_init 1 0 0 [.ref a, .ref 8, .ref t, .ref u] w (fun v' w' => v' = none ∧ w' = (q_k w a (q_ob 4 [.ref 8, .ref t, .ref u, q_i 0, q_i 0, q_i 1]) N [])) := by
  refine q_T.of (lv := [some (.ref a), some (.ref 8), some (.ref t), some (.ref u)]) (by decide) rfl (Nat.le_of_ble_eq_true rfl) ?_
  have ha : a < N := hd.lt hw
  refine q_Jeq (w' := (q_k w a (q_ob 4 [.null, .null, .null, q_i 0, q_i 0, q_i 0]) N [])) rfl rfl (q_k_0 hd hw) ?_
  refine q_aload_n dX5_init_0 rfl ?_
  refine q_objInit wd_403 wd_83 wd_84 (by decide) (Nat.le_of_ble_eq_true rfl) dX5_init_1 ?_
  refine q_aload_n dX5_init_4 rfl ?_
  refine q_iconst dX5_init_5 ?_
  refine q_puti (fs := [.null, .null, .null, q_i 0, q_i 0, q_i 0]) pX5_9_4 q_k_a (Nat.le_of_ble_eq_true rfl) dX5_init_6 ?_
  refine q_Jeq (w' := (q_k w a (q_ob 4 [.null, .null, .null, q_i 0, q_i 0, q_i 0]) N [])) rfl rfl (q_k_o (q_ob 4 [.null, .null, .null, q_i 0, q_i 0, q_i 0])) ?_
  refine q_aload_n dX5_init_9 rfl ?_
  refine q_iconst dX5_init_10 ?_
  refine q_puti (fs := [.null, .null, .null, q_i 0, q_i 0, q_i 0]) pX5_15_4 q_k_a (Nat.le_of_ble_eq_true rfl) dX5_init_11 ?_
  refine q_Jeq (w' := (q_k w a (q_ob 4 [.null, .null, .null, q_i 0, q_i 0, q_i 0]) N [])) rfl rfl (q_k_o (q_ob 4 [.null, .null, .null, q_i 0, q_i 0, q_i 0])) ?_
  refine q_aload_n dX5_init_14 rfl ?_
  refine q_iconst dX5_init_15 ?_
  refine q_puti (fs := [.null, .null, .null, q_i 0, q_i 0, q_i 0]) pX5_18_4 q_k_a (Nat.le_of_ble_eq_true rfl) dX5_init_16 ?_
  refine q_Jeq (w' := (q_k w a (q_ob 4 [.null, .null, .null, q_i 0, q_i 0, q_i 1]) N [])) rfl rfl (q_k_o (q_ob 4 [.null, .null, .null, q_i 0, q_i 0, q_i 1])) ?_
  refine q_aload_n dX5_init_19 rfl ?_
  refine q_aload_n dX5_init_20 rfl ?_
  refine q_putro (fs := [.null, .null, .null, q_i 0, q_i 0, q_i 1]) pX5_21_4 rfl q_k_a (Nat.le_of_ble_eq_true rfl) dX5_init_21 ?_
  refine q_Jeq (w' := (q_k w a (q_ob 4 [.ref 8, .null, .null, q_i 0, q_i 0, q_i 1]) N [])) rfl rfl (q_k_o (q_ob 4 [.ref 8, .null, .null, q_i 0, q_i 0, q_i 1])) ?_
  refine q_aload_n dX5_init_24 rfl ?_
  refine q_aload_n dX5_init_25 rfl ?_
  refine q_putra (fs := [.ref 8, .null, .null, q_i 0, q_i 0, q_i 1]) pX5_25_4 rfl q_k_a (Nat.le_of_ble_eq_true rfl) dX5_init_26 ?_
  refine q_Jeq (w' := (q_k w a (q_ob 4 [.ref 8, .ref t, .null, q_i 0, q_i 0, q_i 1]) N [])) rfl rfl (q_k_o (q_ob 4 [.ref 8, .ref t, .null, q_i 0, q_i 0, q_i 1])) ?_
  refine q_aload_n dX5_init_29 rfl ?_
  refine q_aload_n dX5_init_30 rfl ?_
  refine q_putra (fs := [.ref 8, .ref t, .null, q_i 0, q_i 0, q_i 1]) pX5_29_4 rfl q_k_a (Nat.le_of_ble_eq_true rfl) dX5_init_31 ?_
  refine q_Jeq (w' := (q_k w a (q_ob 4 [.ref 8, .ref t, .ref u, q_i 0, q_i 0, q_i 1]) N [])) rfl rfl (q_k_o (q_ob 4 [.ref 8, .ref t, .ref u, q_i 0, q_i 0, q_i 1])) ?_
  exact q_vret rfl dX5_init_34 (⟨rfl, rfl⟩)
set_option maxRecDepth 20000 in
theorem tX5_init_5 (w : q_W) (a N t u : Nat) (hd : q_dom w N) (hw : w a = some (q_ob 5 [.null, .null, .null, q_i 0, q_i 0, q_i 0])) : q_T mX5_init 1 0 0 [.ref a, .ref 8, .ref t, .ref u] w (fun v' w' => v' = none ∧ w' = (q_k w a (q_ob 5 [.ref 8, .ref t, .ref u, q_i 0, q_i 0, q_i 1]) N [])) := by
  refine q_T.of (lv := [some (.ref a), some (.ref 8), some (.ref t), some (.ref u)]) (by decide) rfl (Nat.le_of_ble_eq_true rfl) ?_
  have ha : a < N := hd.lt hw
  refine q_Jeq (w' := (q_k w a (q_ob 5 [.null, .null, .null, q_i 0, q_i 0, q_i 0]) N [])) rfl rfl (q_k_0 hd hw) ?_
  refine q_aload_n dX5_init_0 rfl ?_
  refine q_objInit wd_403 wd_83 wd_84 (by decide) (Nat.le_of_ble_eq_true rfl) dX5_init_1 ?_
  refine q_aload_n dX5_init_4 rfl ?_
  refine q_iconst dX5_init_5 ?_
  refine q_puti (fs := [.null, .null, .null, q_i 0, q_i 0, q_i 0]) pX5_9_5 q_k_a (Nat.le_of_ble_eq_true rfl) dX5_init_6 ?_
  refine q_Jeq (w' := (q_k w a (q_ob 5 [.null, .null, .null, q_i 0, q_i 0, q_i 0]) N [])) rfl rfl (q_k_o (q_ob 5 [.null, .null, .null, q_i 0, q_i 0, q_i 0])) ?_
  refine q_aload_n dX5_init_9 rfl ?_
  refine q_iconst dX5_init_10 ?_
  refine q_puti (fs := [.null, .null, .null, q_i 0, q_i 0, q_i 0]) pX5_15_5 q_k_a (Nat.le_of_ble_eq_true rfl) dX5_init_11 ?_
  refine q_Jeq (w' := (q_k w a (q_ob 5 [.null, .null, .null, q_i 0, q_i 0, q_i 0]) N [])) rfl rfl (q_k_o (q_ob 5 [.null, .null, .null, q_i 0, q_i 0, q_i 0])) ?_
  refine q_aload_n dX5_init_14 rfl ?_
  refine q_iconst dX5_init_15 ?_
  refine q_puti (fs := [.null, .null, .null, q_i 0, q_i 0, q_i 0]) pX5_18_5 q_k_a (Nat.le_of_ble_eq_true rfl) dX5_init_16 ?_
  refine q_Jeq (w' := (q_k w a (q_ob 5 [.null, .null, .null, q_i 0, q_i 0, q_i 1]) N [])) rfl rfl (q_k_o (q_ob 5 [.null, .null, .null, q_i 0, q_i 0, q_i 1])) ?_
  refine q_aload_n dX5_init_19 rfl ?_
  refine q_aload_n dX5_init_20 rfl ?_
  refine q_putro (fs := [.null, .null, .null, q_i 0, q_i 0, q_i 1]) pX5_21_5 rfl q_k_a (Nat.le_of_ble_eq_true rfl) dX5_init_21 ?_
  refine q_Jeq (w' := (q_k w a (q_ob 5 [.ref 8, .null, .null, q_i 0, q_i 0, q_i 1]) N [])) rfl rfl (q_k_o (q_ob 5 [.ref 8, .null, .null, q_i 0, q_i 0, q_i 1])) ?_
  refine q_aload_n dX5_init_24 rfl ?_
  refine q_aload_n dX5_init_25 rfl ?_
  refine q_putra (fs := [.ref 8, .null, .null, q_i 0, q_i 0, q_i 1]) pX5_25_5 rfl q_k_a (Nat.le_of_ble_eq_true rfl) dX5_init_26 ?_
  refine q_Jeq (w' := (q_k w a (q_ob 5 [.ref 8, .ref t, .null, q_i 0, q_i 0, q_i 1]) N [])) rfl rfl (q_k_o (q_ob 5 [.ref 8, .ref t, .null, q_i 0, q_i 0, q_i 1])) ?_
  refine q_aload_n dX5_init_29 rfl ?_
  refine q_aload_n dX5_init_30 rfl ?_
  refine q_putra (fs := [.ref 8, .ref t, .null, q_i 0, q_i 0, q_i 1]) pX5_29_5 rfl q_k_a (Nat.le_of_ble_eq_true rfl) dX5_init_31 ?_
  refine q_Jeq (w' := (q_k w a (q_ob 5 [.ref 8, .ref t, .ref u, q_i 0, q_i 0, q_i 1]) N [])) rfl rfl (q_k_o (q_ob 5 [.ref 8, .ref t, .ref u, q_i 0, q_i 0, q_i 1])) ?_
  exact q_vret rfl dX5_init_34 (⟨rfl, rfl⟩)
set_option maxRecDepth 20000 in
theorem tX4_init_4 (w : q_W) (a N t u : Nat) (hd : q_dom w N) (hw : w a = some (q_ob 4 [.null, .null, .null, q_i 0, q_i 0, q_i 0])) : q_T mX4_init 2 0 0 [.ref a, .ref 8, .ref t, .ref u] w (fun v' w' => v' = none ∧ w' = (q_k w a (q_ob 4 [.ref 8, .ref t, .ref u, q_i 0, q_i 0, q_i 1]) N [])) := by
  refine q_T.of (lv := [some (.ref a), some (.ref 8), some (.ref t), some (.ref u)]) (by decide) rfl (Nat.le_of_ble_eq_true rfl) ?_
  have ha : a < N := hd.lt hw
  refine q_Jeq (w' := (q_k w a (q_ob 4 [.null, .null, .null, q_i 0, q_i 0, q_i 0]) N [])) rfl rfl (q_k_0 hd hw) ?_
  refine q_aload_n dX4_init_0 rfl ?_
  refine q_aload_n dX4_init_1 rfl ?_
  refine q_aload_n dX4_init_2 rfl ?_
  refine q_aload_n dX4_init_3 rfl ?_
  refine q_cI (kc := 0) (ks := 0) [.ref 8, .ref t, .ref u] kX4_3 (tX5_init_4 (q_k w a (q_ob 4 [.null, .null, .null, q_i 0, q_i 0, q_i 0]) N []) a N t u (q_k_dom hd ha) q_k_a) dX4_init_4 rfl (by decide) (Nat.le_of_ble_eq_true rfl) rfl rfl rfl ?_
  refine q_Jeq (w' := (q_k w a (q_ob 4 [.ref 8, .ref t, .ref u, q_i 0, q_i 0, q_i 1]) N [])) rfl rfl q_k_s ?_
  exact q_vret rfl dX4_init_7 (⟨rfl, rfl⟩)
set_option maxRecDepth 20000 in
theorem tX4_init_3 (w : q_W) (a N t u : Nat) (hd : q_dom w N) (hw : w a = some (q_ob 3 [.null, .null, .null, q_i 0, q_i 0, q_i 0])) : q_T mX4_init 2 0 0 [.ref a, .ref 8, .ref t, .ref u] w (fun v' w' => v' = none ∧ w' = (q_k w a (q_ob 3 [.ref 8, .ref t, .ref u, q_i 0, q_i 0, q_i 1]) N [])) := by
  refine q_T.of (lv := [some (.ref a), some (.ref 8), some (.ref t), some (.ref u)]) (by decide) rfl (Nat.le_of_ble_eq_true rfl) ?_
  have ha : a < N := hd.lt hw
  refine q_Jeq (w' := (q_k w a (q_ob 3 [.null, .null, .null, q_i 0, q_i 0, q_i 0]) N [])) rfl rfl (q_k_0 hd hw) ?_
  refine q_aload_n dX4_init_0 rfl ?_
  refine q_aload_n dX4_init_1 rfl ?_
  refine q_aload_n dX4_init_2 rfl ?_
  refine q_aload_n dX4_init_3 rfl ?_
  refine q_cI (kc := 0) (ks := 0) [.ref 8, .ref t, .ref u] kX4_3 (tX5_init_3 (q_k w a (q_ob 3 [.null, .null, .null, q_i 0, q_i 0, q_i 0]) N []) a N t u (q_k_dom hd ha) q_k_a) dX4_init_4 rfl (by decide) (Nat.le_of_ble_eq_true rfl) rfl rfl rfl ?_
  refine q_Jeq (w' := (q_k w a (q_ob 3 [.ref 8, .ref t, .ref u, q_i 0, q_i 0, q_i 1]) N [])) rfl rfl q_k_s ?_
  exact q_vret rfl dX4_init_7 (⟨rfl, rfl⟩)
set_option maxRecDepth 20000 in
theorem tX1_init_1 (w : q_W) (a N t u : Nat) (hd : q_dom w N) (hw : w a = some (q_ob 1 [.null, .null, .null, q_i 0, q_i 0, q_i 0])) : q_T mX1_init 2 0 0 [.ref a, .ref 8, .ref t, .ref u] w (fun v' w' => v' = none ∧ w' = (q_k w a (q_ob 1 [.ref 8, .ref t, .ref u, q_i 0, q_i 0, q_i 1]) N [])) := by
  refine q_T.of (lv := [some (.ref a), some (.ref 8), some (.ref t), some (.ref u)]) (by decide) rfl (Nat.le_of_ble_eq_true rfl) ?_
  have ha : a < N := hd.lt hw
  refine q_Jeq (w' := (q_k w a (q_ob 1 [.null, .null, .null, q_i 0, q_i 0, q_i 0]) N [])) rfl rfl (q_k_0 hd hw) ?_
  refine q_aload_n dX1_init_0 rfl ?_
  refine q_aload_n dX1_init_1 rfl ?_
  refine q_aload_n dX1_init_2 rfl ?_
  refine q_aload_n dX1_init_3 rfl ?_
  refine q_cI (kc := 0) (ks := 0) [.ref 8, .ref t, .ref u] kX1_3 (tX5_init_1 (q_k w a (q_ob 1 [.null, .null, .null, q_i 0, q_i 0, q_i 0]) N []) a N t u (q_k_dom hd ha) q_k_a) dX1_init_4 rfl (by decide) (Nat.le_of_ble_eq_true rfl) rfl rfl rfl ?_
  refine q_Jeq (w' := (q_k w a (q_ob 1 [.ref 8, .ref t, .ref u, q_i 0, q_i 0, q_i 1]) N [])) rfl rfl q_k_s ?_
  exact q_vret rfl dX1_init_7 (⟨rfl, rfl⟩)
set_option maxRecDepth 20000 in
theorem tX1_init_0 (w : q_W) (a N t u : Nat) (hd : q_dom w N) (hw : w a = some (q_ob 0 [.null, .null, .null, q_i 0, q_i 0, q_i 0])) : q_T mX1_init 2 0 0 [.ref a, .ref 8, .ref t, .ref u] w (fun v' w' => v' = none ∧ w' = (q_k w a (q_ob 0 [.ref 8, .ref t, .ref u, q_i 0, q_i 0, q_i 1]) N [])) := by
  refine q_T.of (lv := [some (.ref a), some (.ref 8), some (.ref t), some (.ref u)]) (by decide) rfl (Nat.le_of_ble_eq_true rfl) ?_
  have ha : a < N := hd.lt hw
  refine q_Jeq (w' := (q_k w a (q_ob 0 [.null, .null, .null, q_i 0, q_i 0, q_i 0]) N [])) rfl rfl (q_k_0 hd hw) ?_
  refine q_aload_n dX1_init_0 rfl ?_
  refine q_aload_n dX1_init_1 rfl ?_
  refine q_aload_n dX1_init_2 rfl ?_
  refine q_aload_n dX1_init_3 rfl ?_
  refine q_cI (kc := 0) (ks := 0) [.ref 8, .ref t, .ref u] kX1_3 (tX5_init_0 (q_k w a (q_ob 0 [.null, .null, .null, q_i 0, q_i 0, q_i 0]) N []) a N t u (q_k_dom hd ha) q_k_a) dX1_init_4 rfl (by decide) (Nat.le_of_ble_eq_true rfl) rfl rfl rfl ?_
  refine q_Jeq (w' := (q_k w a (q_ob 0 [.ref 8, .ref t, .ref u, q_i 0, q_i 0, q_i 1]) N [])) rfl rfl q_k_s ?_
  exact q_vret rfl dX1_init_7 (⟨rfl, rfl⟩)
set_option maxRecDepth 20000 in
theorem tX2_init_2 (w : q_W) (a N t u : Nat) (hd : q_dom w N) (hw : w a = some (q_ob 2 [.null, .null, .null, q_i 0, q_i 0, q_i 0])) : q_T mX2_init 2 0 0 [.ref a, .ref 8, .ref t, .ref u] w (fun v' w' => v' = none ∧ w' = (q_k w a (q_ob 2 [.ref 8, .ref t, .ref u, q_i 0, q_i 0, q_i 1]) N [])) := by
  refine q_T.of (lv := [some (.ref a), some (.ref 8), some (.ref t), some (.ref u)]) (by decide) rfl (Nat.le_of_ble_eq_true rfl) ?_
  have ha : a < N := hd.lt hw
  refine q_Jeq (w' := (q_k w a (q_ob 2 [.null, .null, .null, q_i 0, q_i 0, q_i 0]) N [])) rfl rfl (q_k_0 hd hw) ?_
  refine q_aload_n dX2_init_0 rfl ?_
  refine q_aload_n dX2_init_1 rfl ?_
  refine q_aload_n dX2_init_2 rfl ?_
  refine q_aload_n dX2_init_3 rfl ?_
  refine q_cI (kc := 0) (ks := 0) [.ref 8, .ref t, .ref u] kX2_3 (tX5_init_2 (q_k w a (q_ob 2 [.null, .null, .null, q_i 0, q_i 0, q_i 0]) N []) a N t u (q_k_dom hd ha) q_k_a) dX2_init_4 rfl (by decide) (Nat.le_of_ble_eq_true rfl) rfl rfl rfl ?_
  refine q_Jeq (w' := (q_k w a (q_ob 2 [.ref 8, .ref t, .ref u, q_i 0, q_i 0, q_i 1]) N [])) rfl rfl q_k_s ?_
  exact q_vret rfl dX2_init_7 (⟨rfl, rfl⟩)
set_option maxRecDepth 20000 in
theorem tX3_init_3 (w : q_W) (a N t u : Nat) (hd : q_dom w N) (hw : w a = some (q_ob 3 [.null, .null, .null, q_i 0, q_i 0, q_i 0])) : q_T mX3_init 3 0 0 [.ref a, .ref 8, .ref t, .ref u] w (fun v' w' => v' = none ∧ w' = (q_k w a (q_ob 3 [.ref 8, .ref t, .ref u, q_i 0, q_i 0, q_i 1]) N [])) := by
  refine q_T.of (lv := [some (.ref a), some (.ref 8), some (.ref t), some (.ref u)]) (by decide) rfl (Nat.le_of_ble_eq_true rfl) ?_
  have ha : a < N := hd.lt hw
  refine q_Jeq (w' := (q_k w a (q_ob 3 [.null, .null, .null, q_i 0, q_i 0, q_i 0]) N [])) rfl rfl (q_k_0 hd hw) ?_
  refine q_aload_n dX3_init_0 rfl ?_
  refine q_aload_n dX3_init_1 rfl ?_
  refine q_aload_n dX3_init_2 rfl ?_
  refine q_aload_n dX3_init_3 rfl ?_
  refine q_cI (kc := 0) (ks := 0) [.ref 8, .ref t, .ref u] kX3_3 (tX4_init_3 (q_k w a (q_ob 3 [.null, .null, .null, q_i 0, q_i 0, q_i 0]) N []) a N t u (q_k_dom hd ha) q_k_a) dX3_init_4 rfl (by decide) (Nat.le_of_ble_eq_true rfl) rfl rfl rfl ?_
  refine q_Jeq (w' := (q_k w a (q_ob 3 [.ref 8, .ref t, .ref u, q_i 0, q_i 0, q_i 1]) N [])) rfl rfl q_k_s ?_
  exact q_vret rfl dX3_init_7 (⟨rfl, rfl⟩)
set_option maxRecDepth 20000 in
theorem tX0_init_0 (w : q_W) (a N t u : Nat) (hd : q_dom w N) (hw : w a = some (q_ob 0 [.null, .null, .null, q_i 0, q_i 0, q_i 0])) : q_T mX0_init 3 0 0 [.ref a, .ref 8, .ref t, .ref u] w (fun v' w' => v' = none ∧ w' = (q_k w a (q_ob 0 [.ref 8, .ref t, .ref u, q_i 0, q_i 0, q_i 1]) N [])) := by
  refine q_T.of (lv := [some (.ref a), some (.ref 8), some (.ref t), some (.ref u)]) (by decide) rfl (Nat.le_of_ble_eq_true rfl) ?_
  have ha : a < N := hd.lt hw
  refine q_Jeq (w' := (q_k w a (q_ob 0 [.null, .null, .null, q_i 0, q_i 0, q_i 0]) N [])) rfl rfl (q_k_0 hd hw) ?_
  refine q_aload_n dX0_init_0 rfl ?_
  refine q_aload_n dX0_init_1 rfl ?_
  refine q_aload_n dX0_init_2 rfl ?_
  refine q_aload_n dX0_init_3 rfl ?_
  refine q_cI (kc := 0) (ks := 0) [.ref 8, .ref t, .ref u] kX0_3 (tX1_init_0 (q_k w a (q_ob 0 [.null, .null, .null, q_i 0, q_i 0, q_i 0]) N []) a N t u (q_k_dom hd ha) q_k_a) dX0_init_4 rfl (by decide) (Nat.le_of_ble_eq_true rfl) rfl rfl rfl ?_
  refine q_Jeq (w' := (q_k w a (q_ob 0 [.ref 8, .ref t, .ref u, q_i 0, q_i 0, q_i 1]) N [])) rfl rfl q_k_s ?_
  exact q_vret rfl dX0_init_7 (⟨rfl, rfl⟩)
set_option maxRecDepth 20000 in
theorem tX8_newPerson (w : q_W) (ξ : m_S) (B P : Nat) (g : Int → Option Nat) (n t u : Nat) (hd : q_dom (x_w w ξ B P g) n) (h64 : 64 ≤ n) (k : Int) (hk : q_r k) : q_T mX8_newPerson 4 1 6 [.ref 7, q_i k, .ref t, .ref u] (x_w w ξ B P g) (fun v' w' => v' = some (.ref n) ∧ w' = q_up (x_w w ξ B P g) n (q_ob (x_cl k) [.ref 8, .ref t, .ref u, q_i 0, q_i 0, q_i 1])) := by
  refine q_T.of (lv := [some (.ref 7), some (q_i k), some (.ref t), some (.ref u)]) (by decide) rfl (Nat.le_of_ble_eq_true rfl) ?_
  refine q_iload_n dX8_newPerson_0 rfl ?_
  rcases (show k = 1 ∨ k = 2 ∨ k = 3 ∨ k = 4 ∨ k = 5 ∨ (k < 1 ∨ 5 < k) by omega) with hs | hs | hs | hs | hs | hs
  · skip
    refine q_tabIn (tgt := 36) dX8_newPerson_1 hk (by omega) (by omega) (by rw [hs]; rfl) (by decide) ?_
    refine q_newo (ci := 4) (kc := 0) (ks := 0) (n := n) (fs := [.null, .null, .null, q_i 0, q_i 0, q_i 0]) tyX4 rfl uX4 tyX4_ok wd_395 wd_396 wd_72 dvX4 hd dX8_newPerson_36 ?_
    refine q_dup dX8_newPerson_39 rfl ?_
    refine q_aload_n dX8_newPerson_40 rfl ?_
    refine q_get (v := .ref 8) fX8_18_8 ((q_up_n (show 7 ≠ n by omega)).trans rfl) rfl dX8_newPerson_41 ?_
    refine q_aload_n dX8_newPerson_44 rfl ?_
    refine q_aload_n dX8_newPerson_45 rfl ?_
    refine q_cI (kc := 0) (ks := 0) [.ref 8, .ref t, .ref u] kX8_93 (tX4_init_4 _ n (n + 1) t u (hd.push _) (q_up_s _ _ _)) dX8_newPerson_46 rfl (by decide) (Nat.le_of_ble_eq_true rfl) rfl rfl rfl ?_
    exact q_aret (o := some n) rfl dX8_newPerson_49 (⟨rfl, by rw [q_k_up hd, show x_cl k = 4 by rw [hs]; rfl]⟩)
  · skip
    refine q_tabIn (tgt := 50) dX8_newPerson_1 hk (by omega) (by omega) (by rw [hs]; rfl) (by decide) ?_
    refine q_newo (ci := 1) (kc := 0) (ks := 0) (n := n) (fs := [.null, .null, .null, q_i 0, q_i 0, q_i 0]) tyX1 rfl uX1 tyX1_ok wd_450 wd_451 wd_73 dvX1 hd dX8_newPerson_50 ?_
    refine q_dup dX8_newPerson_53 rfl ?_
    refine q_aload_n dX8_newPerson_54 rfl ?_
    refine q_get (v := .ref 8) fX8_18_8 ((q_up_n (show 7 ≠ n by omega)).trans rfl) rfl dX8_newPerson_55 ?_
    refine q_aload_n dX8_newPerson_58 rfl ?_
    refine q_aload_n dX8_newPerson_59 rfl ?_
    refine q_cI (kc := 0) (ks := 0) [.ref 8, .ref t, .ref u] kX8_98 (tX1_init_1 _ n (n + 1) t u (hd.push _) (q_up_s _ _ _)) dX8_newPerson_60 rfl (by decide) (Nat.le_of_ble_eq_true rfl) rfl rfl rfl ?_
    exact q_aret (o := some n) rfl dX8_newPerson_63 (⟨rfl, by rw [q_k_up hd, show x_cl k = 1 by rw [hs]; rfl]⟩)
  · skip
    refine q_tabIn (tgt := 64) dX8_newPerson_1 hk (by omega) (by omega) (by rw [hs]; rfl) (by decide) ?_
    refine q_newo (ci := 2) (kc := 0) (ks := 0) (n := n) (fs := [.null, .null, .null, q_i 0, q_i 0, q_i 0]) tyX2 rfl uX2 tyX2_ok wd_463 wd_464 wd_74 dvX2 hd dX8_newPerson_64 ?_
    refine q_dup dX8_newPerson_67 rfl ?_
    refine q_aload_n dX8_newPerson_68 rfl ?_
    refine q_get (v := .ref 8) fX8_18_8 ((q_up_n (show 7 ≠ n by omega)).trans rfl) rfl dX8_newPerson_69 ?_
    refine q_aload_n dX8_newPerson_72 rfl ?_
    refine q_aload_n dX8_newPerson_73 rfl ?_
    refine q_cI (kc := 0) (ks := 0) [.ref 8, .ref t, .ref u] kX8_101 (tX2_init_2 _ n (n + 1) t u (hd.push _) (q_up_s _ _ _)) dX8_newPerson_74 rfl (by decide) (Nat.le_of_ble_eq_true rfl) rfl rfl rfl ?_
    exact q_aret (o := some n) rfl dX8_newPerson_77 (⟨rfl, by rw [q_k_up hd, show x_cl k = 2 by rw [hs]; rfl]⟩)
  · skip
    refine q_tabIn (tgt := 78) dX8_newPerson_1 hk (by omega) (by omega) (by rw [hs]; rfl) (by decide) ?_
    refine q_newo (ci := 3) (kc := 0) (ks := 0) (n := n) (fs := [.null, .null, .null, q_i 0, q_i 0, q_i 0]) tyX3 rfl uX3 tyX3_ok wd_476 wd_477 wd_75 dvX3 hd dX8_newPerson_78 ?_
    refine q_dup dX8_newPerson_81 rfl ?_
    refine q_aload_n dX8_newPerson_82 rfl ?_
    refine q_get (v := .ref 8) fX8_18_8 ((q_up_n (show 7 ≠ n by omega)).trans rfl) rfl dX8_newPerson_83 ?_
    refine q_aload_n dX8_newPerson_86 rfl ?_
    refine q_aload_n dX8_newPerson_87 rfl ?_
    refine q_cI (kc := 0) (ks := 0) [.ref 8, .ref t, .ref u] kX8_104 (tX3_init_3 _ n (n + 1) t u (hd.push _) (q_up_s _ _ _)) dX8_newPerson_88 rfl (by decide) (Nat.le_of_ble_eq_true rfl) rfl rfl rfl ?_
    exact q_aret (o := some n) rfl dX8_newPerson_91 (⟨rfl, by rw [q_k_up hd, show x_cl k = 3 by rw [hs]; rfl]⟩)
  · skip
    refine q_tabIn (tgt := 92) dX8_newPerson_1 hk (by omega) (by omega) (by rw [hs]; rfl) (by decide) ?_
    refine q_newo (ci := 0) (kc := 0) (ks := 0) (n := n) (fs := [.null, .null, .null, q_i 0, q_i 0, q_i 0]) tyX0 rfl uX0 tyX0_ok wd_489 wd_490 wd_76 dvX0 hd dX8_newPerson_92 ?_
    refine q_dup dX8_newPerson_95 rfl ?_
    refine q_aload_n dX8_newPerson_96 rfl ?_
    refine q_get (v := .ref 8) fX8_18_8 ((q_up_n (show 7 ≠ n by omega)).trans rfl) rfl dX8_newPerson_97 ?_
    refine q_aload_n dX8_newPerson_100 rfl ?_
    refine q_aload_n dX8_newPerson_101 rfl ?_
    refine q_cI (kc := 0) (ks := 0) [.ref 8, .ref t, .ref u] kX8_107 (tX0_init_0 _ n (n + 1) t u (hd.push _) (q_up_s _ _ _)) dX8_newPerson_102 rfl (by decide) (Nat.le_of_ble_eq_true rfl) rfl rfl rfl ?_
    exact q_aret (o := some n) rfl dX8_newPerson_105 (⟨rfl, by rw [q_k_up hd, show x_cl k = 0 by rw [hs]; rfl]⟩)
  · skip
    refine q_tabOut (tgt := 106) dX8_newPerson_1 hk hs (by decide) ?_
    refine q_newo (ci := 5) (kc := 0) (ks := 0) (n := n) (fs := [.null, .null, .null, q_i 0, q_i 0, q_i 0]) tyX5 rfl uX5 tyX5_ok wd_177 wd_502 wd_71 dvX5 hd dX8_newPerson_106 ?_
    refine q_dup dX8_newPerson_109 rfl ?_
    refine q_aload_n dX8_newPerson_110 rfl ?_
    refine q_get (v := .ref 8) fX8_18_8 ((q_up_n (show 7 ≠ n by omega)).trans rfl) rfl dX8_newPerson_111 ?_
    refine q_aload_n dX8_newPerson_114 rfl ?_
    refine q_aload_n dX8_newPerson_115 rfl ?_
    refine q_cI (kc := 0) (ks := 0) [.ref 8, .ref t, .ref u] kX8_108 (tX5_init_5 _ n (n + 1) t u (hd.push _) (q_up_s _ _ _)) dX8_newPerson_116 rfl (by decide) (Nat.le_of_ble_eq_true rfl) rfl rfl rfl ?_
    exact q_aret (o := some n) rfl dX8_newPerson_119 (⟨rfl, by rw [q_k_up hd, show x_cl k = 5 by unfold x_cl; rw [if_neg (by omega), if_neg (by omega), if_neg (by omega), if_neg (by omega), if_neg (by omega)]]⟩)
