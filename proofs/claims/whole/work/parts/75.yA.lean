/-! constructors -/
theorem dvX0 : ∀ (b j : Nat), j < 6 → defaultValue (tyX0 j) = vp_V (([.null, .null, .null, q_i 0, q_i 0, q_i 0] : List Value).map (q_v b)) j := fun b j hj => by
  rcases (show j = 0 ∨ j = 1 ∨ j = 2 ∨ j = 3 ∨ j = 4 ∨ j = 5 by omega) with rfl | rfl | rfl | rfl | rfl | rfl <;> rfl
theorem dvX1 : ∀ (b j : Nat), j < 6 → defaultValue (tyX1 j) = vp_V (([.null, .null, .null, q_i 0, q_i 0, q_i 0] : List Value).map (q_v b)) j := fun b j hj => by
  rcases (show j = 0 ∨ j = 1 ∨ j = 2 ∨ j = 3 ∨ j = 4 ∨ j = 5 by omega) with rfl | rfl | rfl | rfl | rfl | rfl <;> rfl
theorem dvX2 : ∀ (b j : Nat), j < 6 → defaultValue (tyX2 j) = vp_V (([.null, .null, .null, q_i 0, q_i 0, q_i 0] : List Value).map (q_v b)) j := fun b j hj => by
  rcases (show j = 0 ∨ j = 1 ∨ j = 2 ∨ j = 3 ∨ j = 4 ∨ j = 5 by omega) with rfl | rfl | rfl | rfl | rfl | rfl <;> rfl
theorem dvX3 : ∀ (b j : Nat), j < 6 → defaultValue (tyX3 j) = vp_V (([.null, .null, .null, q_i 0, q_i 0, q_i 0] : List Value).map (q_v b)) j := fun b j hj => by
  rcases (show j = 0 ∨ j = 1 ∨ j = 2 ∨ j = 3 ∨ j = 4 ∨ j = 5 by omega) with rfl | rfl | rfl | rfl | rfl | rfl <;> rfl
theorem dvX4 : ∀ (b j : Nat), j < 6 → defaultValue (tyX4 j) = vp_V (([.null, .null, .null, q_i 0, q_i 0, q_i 0] : List Value).map (q_v b)) j := fun b j hj => by
  rcases (show j = 0 ∨ j = 1 ∨ j = 2 ∨ j = 3 ∨ j = 4 ∨ j = 5 by omega) with rfl | rfl | rfl | rfl | rfl | rfl <;> rfl
theorem dvX5 : ∀ (b j : Nat), j < 6 → defaultValue (tyX5 j) = vp_V (([.null, .null, .null, q_i 0, q_i 0, q_i 0] : List Value).map (q_v b)) j := fun b j hj => by
  rcases (show j = 0 ∨ j = 1 ∨ j = 2 ∨ j = 3 ∨ j = 4 ∨ j = 5 by omega) with rfl | rfl | rfl | rfl | rfl | rfl <;> rfl
theorem dvX6 : ∀ (b j : Nat), j < 5 → defaultValue (tyX6 j) = vp_V (([q_i 0, q_i 0, q_i 0, .null, .null] : List Value).map (q_v b)) j := fun b j hj => by
  rcases (show j = 0 ∨ j = 1 ∨ j = 2 ∨ j = 3 ∨ j = 4 by omega) with rfl | rfl | rfl | rfl | rfl <;> rfl
theorem dvX7 : ∀ (b j : Nat), j < 2 → defaultValue (tyX7 j) = vp_V (([.null, q_i 0] : List Value).map (q_v b)) j := fun b j hj => by
  rcases (show j = 0 ∨ j = 1 by omega) with rfl | rfl <;> rfl
theorem dvX8 : ∀ (b j : Nat), j < 10 → defaultValue (tyX8 j) = vp_V (([q_i 0, .null, .null, .null, .null, .null, .null, .null, .null, .null] : List Value).map (q_v b)) j := fun b j hj => by
  rcases (show j = 0 ∨ j = 1 ∨ j = 2 ∨ j = 3 ∨ j = 4 ∨ j = 5 ∨ j = 6 ∨ j = 7 ∨ j = 8 ∨ j = 9 by omega) with rfl | rfl | rfl | rfl | rfl | rfl | rfl | rfl | rfl | rfl <;> rfl
theorem dvX9 : ∀ (b j : Nat), j < 4 → defaultValue (tyX9 j) = vp_V (([q_i 0, .null, .null, .null] : List Value).map (q_v b)) j := fun b j hj => by
  rcases (show j = 0 ∨ j = 1 ∨ j = 2 ∨ j = 3 by omega) with rfl | rfl | rfl | rfl <;> rfl
theorem dvX10 : ∀ (b j : Nat), j < 4 → defaultValue (tyX10 j) = vp_V (([q_i 0, q_i 0, q_i 0, .null] : List Value).map (q_v b)) j := fun b j hj => by
  rcases (show j = 0 ∨ j = 1 ∨ j = 2 ∨ j = 3 by omega) with rfl | rfl | rfl | rfl <;> rfl
theorem dvX11 : ∀ (b j : Nat), j < 10 → defaultValue (tyX11 j) = vp_V (([.null, .null, .null, .null, .null, .null, q_i 0, q_i 0, q_l 0, q_l 0] : List Value).map (q_v b)) j := fun b j hj => by
  rcases (show j = 0 ∨ j = 1 ∨ j = 2 ∨ j = 3 ∨ j = 4 ∨ j = 5 ∨ j = 6 ∨ j = 7 ∨ j = 8 ∨ j = 9 by omega) with rfl | rfl | rfl | rfl | rfl | rfl | rfl | rfl | rfl | rfl <;> rfl
theorem dvX12 : ∀ (b j : Nat), j < 25 → defaultValue (tyX12 j) = vp_V (([.null, q_i 0, q_i 0, q_i 0, q_i 0, .null, .null, .null, .null, .null, .null, q_i 0, q_l 0, q_l 0, q_i 0, .null, q_i 0, q_i 0, q_i 0, q_i 0, q_i 0, .null, q_i 0, .null, .null] : List Value).map (q_v b)) j := fun b j hj => by
  rcases (show j = 0 ∨ j = 1 ∨ j = 2 ∨ j = 3 ∨ j = 4 ∨ j = 5 ∨ j = 6 ∨ j = 7 ∨ j = 8 ∨ j = 9 ∨ j = 10 ∨ j = 11 ∨ j = 12 ∨ j = 13 ∨ j = 14 ∨ j = 15 ∨ j = 16 ∨ j = 17 ∨ j = 18 ∨ j = 19 ∨ j = 20 ∨ j = 21 ∨ j = 22 ∨ j = 23 ∨ j = 24 by omega) with rfl | rfl | rfl | rfl | rfl | rfl | rfl | rfl | rfl | rfl | rfl | rfl | rfl | rfl | rfl | rfl | rfl | rfl | rfl | rfl | rfl | rfl | rfl | rfl | rfl <;> rfl
theorem aoX7 : RX7 ∈ q_ao := by simp [q_ao]
theorem aoX9 : RX9 ∈ q_ao := by simp [q_ao]
theorem aoX5 : RX5 ∈ q_ao := by simp [q_ao]
set_option maxRecDepth 20000 in
theorem tX7_init_40 (w : q_W) (a N : Nat) (hd : q_dom w N) (hw : w a = some (q_ob 7 [.null, q_i 0])) : q_T mX7_init 1 1 40 [.ref a, q_i 40] w (fun v' w' => v' = none ∧ w' = (q_k w a (q_ob 7 [.ref (N + 0), q_i (-1)]) N [q_ia 40 (fun _ => 0)])) := by
  refine q_T.of (lv := [some (.ref a), some (q_i 40)]) (by decide) rfl (Nat.le_of_ble_eq_true rfl) ?_
  have ha : a < N := hd.lt hw
  refine q_Jeq (w' := (q_k w a (q_ob 7 [.null, q_i 0]) N [])) rfl rfl (q_k_0 hd hw) ?_
  refine q_aload_n dX7_init_0 rfl ?_
  refine q_objInit wd_223 wd_83 wd_84 (by decide) (Nat.le_of_ble_eq_true rfl) dX7_init_1 ?_
  refine q_aload_n dX7_init_4 rfl ?_
  refine q_iconst dX7_init_5 ?_
  refine q_puti (fs := [.null, q_i 0]) pX7_9_7 q_k_a (Nat.le_of_ble_eq_true rfl) dX7_init_6 ?_
  refine q_Jeq (w' := (q_k w a (q_ob 7 [.null, q_i (-1)]) N [])) rfl rfl (q_k_o (q_ob 7 [.null, q_i (-1)])) ?_
  refine q_aload_n dX7_init_9 rfl ?_
  refine q_iconst dX7_init_10 ?_
  refine q_iload_n dX7_init_11 rfl ?_
  refine q_jmax wd_224 wd_225 wd_68 wd_226 (by decide) (Nat.le_of_ble_eq_true rfl) ⟨by decide, by decide⟩ ⟨by decide, by decide⟩ dX7_init_12 ?_
  show q_J _ _ _ _ _ _ _ [q_i 40, .ref a] _
  refine q_newai (kc := 0) (ks := 0) (n := (N + 0)) (N := 40) wd_116 (by decide) rfl (by decide) (q_k_dom hd ha) dX7_init_15 ?_
  refine q_Jeq (w' := (q_k w a (q_ob 7 [.null, q_i (-1)]) N [q_ia 40 (fun _ => 0)])) rfl rfl (q_k_push ha _) ?_
  refine q_putra (fs := [.null, q_i (-1)]) pX7_21_7 rfl q_k_a (Nat.le_of_ble_eq_true rfl) dX7_init_17 ?_
  refine q_Jeq (w' := (q_k w a (q_ob 7 [.ref (N + 0), q_i (-1)]) N [q_ia 40 (fun _ => 0)])) rfl rfl (q_k_o (q_ob 7 [.ref (N + 0), q_i (-1)])) ?_
  exact q_vret rfl dX7_init_20 (⟨rfl, rfl⟩)
set_option maxRecDepth 20000 in
theorem tX7_init_60 (w : q_W) (a N : Nat) (hd : q_dom w N) (hw : w a = some (q_ob 7 [.null, q_i 0])) : q_T mX7_init 1 1 60 [.ref a, q_i 60] w (fun v' w' => v' = none ∧ w' = (q_k w a (q_ob 7 [.ref (N + 0), q_i (-1)]) N [q_ia 60 (fun _ => 0)])) := by
  refine q_T.of (lv := [some (.ref a), some (q_i 60)]) (by decide) rfl (Nat.le_of_ble_eq_true rfl) ?_
  have ha : a < N := hd.lt hw
  refine q_Jeq (w' := (q_k w a (q_ob 7 [.null, q_i 0]) N [])) rfl rfl (q_k_0 hd hw) ?_
  refine q_aload_n dX7_init_0 rfl ?_
  refine q_objInit wd_223 wd_83 wd_84 (by decide) (Nat.le_of_ble_eq_true rfl) dX7_init_1 ?_
  refine q_aload_n dX7_init_4 rfl ?_
  refine q_iconst dX7_init_5 ?_
  refine q_puti (fs := [.null, q_i 0]) pX7_9_7 q_k_a (Nat.le_of_ble_eq_true rfl) dX7_init_6 ?_
  refine q_Jeq (w' := (q_k w a (q_ob 7 [.null, q_i (-1)]) N [])) rfl rfl (q_k_o (q_ob 7 [.null, q_i (-1)])) ?_
  refine q_aload_n dX7_init_9 rfl ?_
  refine q_iconst dX7_init_10 ?_
  refine q_iload_n dX7_init_11 rfl ?_
  refine q_jmax wd_224 wd_225 wd_68 wd_226 (by decide) (Nat.le_of_ble_eq_true rfl) ⟨by decide, by decide⟩ ⟨by decide, by decide⟩ dX7_init_12 ?_
  show q_J _ _ _ _ _ _ _ [q_i 60, .ref a] _
  refine q_newai (kc := 0) (ks := 0) (n := (N + 0)) (N := 60) wd_116 (by decide) rfl (by decide) (q_k_dom hd ha) dX7_init_15 ?_
  refine q_Jeq (w' := (q_k w a (q_ob 7 [.null, q_i (-1)]) N [q_ia 60 (fun _ => 0)])) rfl rfl (q_k_push ha _) ?_
  refine q_putra (fs := [.null, q_i (-1)]) pX7_21_7 rfl q_k_a (Nat.le_of_ble_eq_true rfl) dX7_init_17 ?_
  refine q_Jeq (w' := (q_k w a (q_ob 7 [.ref (N + 0), q_i (-1)]) N [q_ia 60 (fun _ => 0)])) rfl rfl (q_k_o (q_ob 7 [.ref (N + 0), q_i (-1)])) ?_
  exact q_vret rfl dX7_init_20 (⟨rfl, rfl⟩)
set_option maxRecDepth 20000 in
theorem tX9_init_0 (w : q_W) (a N : Nat) (hd : q_dom w N) (hw : w a = some (q_ob 9 [q_i 0, .null, .null, .null])) : q_T mX9_init 1 3 37 [.ref a, q_i 0] w (fun v' w' => v' = none ∧ w' = (q_k w a (q_ob 9 [q_i 0, .ref (N + 0), .ref (N + 1), .ref (N + 2)]) N [q_ia 5 (fun _ => 0), q_ia 16 (fun _ => 0), q_ia 16 (fun _ => 0)])) := by
  refine q_T.of (lv := [some (.ref a), some (q_i 0)]) (by decide) rfl (Nat.le_of_ble_eq_true rfl) ?_
  have ha : a < N := hd.lt hw
  refine q_Jeq (w' := (q_k w a (q_ob 9 [q_i 0, .null, .null, .null]) N [])) rfl rfl (q_k_0 hd hw) ?_
  refine q_aload_n dX9_init_0 rfl ?_
  refine q_objInit wd_158 wd_83 wd_84 (by decide) (Nat.le_of_ble_eq_true rfl) dX9_init_1 ?_
  refine q_aload_n dX9_init_4 rfl ?_
  refine q_iconst dX9_init_5 ?_
  refine q_newai (kc := 2) (ks := 32) (n := (N + 0)) (N := 5) wd_116 (by decide) rfl (by decide) (q_k_dom hd ha) dX9_init_6 ?_
  refine q_Jeq (w' := (q_k w a (q_ob 9 [q_i 0, .null, .null, .null]) N [q_ia 5 (fun _ => 0)])) rfl rfl (q_k_push ha _) ?_
  refine q_putra (fs := [q_i 0, .null, .null, .null]) pX9_9_9 rfl q_k_a (Nat.le_of_ble_eq_true rfl) dX9_init_8 ?_
  refine q_Jeq (w' := (q_k w a (q_ob 9 [q_i 0, .ref (N + 0), .null, .null]) N [q_ia 5 (fun _ => 0)])) rfl rfl (q_k_o (q_ob 9 [q_i 0, .ref (N + 0), .null, .null])) ?_
  refine q_aload_n dX9_init_11 rfl ?_
  refine q_bipush dX9_init_12 ?_
  refine q_newai (kc := 1) (ks := 16) (n := (N + 1)) (N := 16) wd_116 (by decide) rfl (by decide) (q_k_dom hd ha) dX9_init_14 ?_
  refine q_Jeq (w' := (q_k w a (q_ob 9 [q_i 0, .ref (N + 0), .null, .null]) N [q_ia 5 (fun _ => 0), q_ia 16 (fun _ => 0)])) rfl rfl (q_k_push ha _) ?_
  refine q_putra (fs := [q_i 0, .ref (N + 0), .null, .null]) pX9_15_9 rfl q_k_a (Nat.le_of_ble_eq_true rfl) dX9_init_16 ?_
  refine q_Jeq (w' := (q_k w a (q_ob 9 [q_i 0, .ref (N + 0), .ref (N + 1), .null]) N [q_ia 5 (fun _ => 0), q_ia 16 (fun _ => 0)])) rfl rfl (q_k_o (q_ob 9 [q_i 0, .ref (N + 0), .ref (N + 1), .null])) ?_
  refine q_aload_n dX9_init_19 rfl ?_
  refine q_bipush dX9_init_20 ?_
  refine q_newai (kc := 0) (ks := 0) (n := (N + 2)) (N := 16) wd_116 (by decide) rfl (by decide) (q_k_dom hd ha) dX9_init_22 ?_
  refine q_Jeq (w' := (q_k w a (q_ob 9 [q_i 0, .ref (N + 0), .ref (N + 1), .null]) N [q_ia 5 (fun _ => 0), q_ia 16 (fun _ => 0), q_ia 16 (fun _ => 0)])) rfl rfl (q_k_push ha _) ?_
  refine q_putra (fs := [q_i 0, .ref (N + 0), .ref (N + 1), .null]) pX9_18_9 rfl q_k_a (Nat.le_of_ble_eq_true rfl) dX9_init_24 ?_
  refine q_Jeq (w' := (q_k w a (q_ob 9 [q_i 0, .ref (N + 0), .ref (N + 1), .ref (N + 2)]) N [q_ia 5 (fun _ => 0), q_ia 16 (fun _ => 0), q_ia 16 (fun _ => 0)])) rfl rfl (q_k_o (q_ob 9 [q_i 0, .ref (N + 0), .ref (N + 1), .ref (N + 2)])) ?_
  refine q_aload_n dX9_init_27 rfl ?_
  refine q_iload_n dX9_init_28 rfl ?_
  refine q_puti (fs := [q_i 0, .ref (N + 0), .ref (N + 1), .ref (N + 2)]) pX9_21_9 q_k_a (Nat.le_of_ble_eq_true rfl) dX9_init_29 ?_
  refine q_Jeq (w' := (q_k w a (q_ob 9 [q_i 0, .ref (N + 0), .ref (N + 1), .ref (N + 2)]) N [q_ia 5 (fun _ => 0), q_ia 16 (fun _ => 0), q_ia 16 (fun _ => 0)])) rfl rfl (q_k_o (q_ob 9 [q_i 0, .ref (N + 0), .ref (N + 1), .ref (N + 2)])) ?_
  exact q_vret rfl dX9_init_32 (⟨rfl, rfl⟩)
set_option maxRecDepth 20000 in
theorem tX9_init_m (w : q_W) (a N : Nat) (hd : q_dom w N) (hw : w a = some (q_ob 9 [q_i 0, .null, .null, .null])) : q_T mX9_init 1 3 37 [.ref a, q_i (-1)] w (fun v' w' => v' = none ∧ w' = (q_k w a (q_ob 9 [q_i (-1), .ref (N + 0), .ref (N + 1), .ref (N + 2)]) N [q_ia 5 (fun _ => 0), q_ia 16 (fun _ => 0), q_ia 16 (fun _ => 0)])) := by
  refine q_T.of (lv := [some (.ref a), some (q_i (-1))]) (by decide) rfl (Nat.le_of_ble_eq_true rfl) ?_
  have ha : a < N := hd.lt hw
  refine q_Jeq (w' := (q_k w a (q_ob 9 [q_i 0, .null, .null, .null]) N [])) rfl rfl (q_k_0 hd hw) ?_
  refine q_aload_n dX9_init_0 rfl ?_
  refine q_objInit wd_158 wd_83 wd_84 (by decide) (Nat.le_of_ble_eq_true rfl) dX9_init_1 ?_
  refine q_aload_n dX9_init_4 rfl ?_
  refine q_iconst dX9_init_5 ?_
  refine q_newai (kc := 2) (ks := 32) (n := (N + 0)) (N := 5) wd_116 (by decide) rfl (by decide) (q_k_dom hd ha) dX9_init_6 ?_
  refine q_Jeq (w' := (q_k w a (q_ob 9 [q_i 0, .null, .null, .null]) N [q_ia 5 (fun _ => 0)])) rfl rfl (q_k_push ha _) ?_
  refine q_putra (fs := [q_i 0, .null, .null, .null]) pX9_9_9 rfl q_k_a (Nat.le_of_ble_eq_true rfl) dX9_init_8 ?_
  refine q_Jeq (w' := (q_k w a (q_ob 9 [q_i 0, .ref (N + 0), .null, .null]) N [q_ia 5 (fun _ => 0)])) rfl rfl (q_k_o (q_ob 9 [q_i 0, .ref (N + 0), .null, .null])) ?_
  refine q_aload_n dX9_init_11 rfl ?_
  refine q_bipush dX9_init_12 ?_
  refine q_newai (kc := 1) (ks := 16) (n := (N + 1)) (N := 16) wd_116 (by decide) rfl (by decide) (q_k_dom hd ha) dX9_init_14 ?_
  refine q_Jeq (w' := (q_k w a (q_ob 9 [q_i 0, .ref (N + 0), .null, .null]) N [q_ia 5 (fun _ => 0), q_ia 16 (fun _ => 0)])) rfl rfl (q_k_push ha _) ?_
  refine q_putra (fs := [q_i 0, .ref (N + 0), .null, .null]) pX9_15_9 rfl q_k_a (Nat.le_of_ble_eq_true rfl) dX9_init_16 ?_
  refine q_Jeq (w' := (q_k w a (q_ob 9 [q_i 0, .ref (N + 0), .ref (N + 1), .null]) N [q_ia 5 (fun _ => 0), q_ia 16 (fun _ => 0)])) rfl rfl (q_k_o (q_ob 9 [q_i 0, .ref (N + 0), .ref (N + 1), .null])) ?_
  refine q_aload_n dX9_init_19 rfl ?_
  refine q_bipush dX9_init_20 ?_
  refine q_newai (kc := 0) (ks := 0) (n := (N + 2)) (N := 16) wd_116 (by decide) rfl (by decide) (q_k_dom hd ha) dX9_init_22 ?_
  refine q_Jeq (w' := (q_k w a (q_ob 9 [q_i 0, .ref (N + 0), .ref (N + 1), .null]) N [q_ia 5 (fun _ => 0), q_ia 16 (fun _ => 0), q_ia 16 (fun _ => 0)])) rfl rfl (q_k_push ha _) ?_
  refine q_putra (fs := [q_i 0, .ref (N + 0), .ref (N + 1), .null]) pX9_18_9 rfl q_k_a (Nat.le_of_ble_eq_true rfl) dX9_init_24 ?_
  refine q_Jeq (w' := (q_k w a (q_ob 9 [q_i 0, .ref (N + 0), .ref (N + 1), .ref (N + 2)]) N [q_ia 5 (fun _ => 0), q_ia 16 (fun _ => 0), q_ia 16 (fun _ => 0)])) rfl rfl (q_k_o (q_ob 9 [q_i 0, .ref (N + 0), .ref (N + 1), .ref (N + 2)])) ?_
  refine q_aload_n dX9_init_27 rfl ?_
  refine q_iload_n dX9_init_28 rfl ?_
  refine q_puti (fs := [q_i 0, .ref (N + 0), .ref (N + 1), .ref (N + 2)]) pX9_21_9 q_k_a (Nat.le_of_ble_eq_true rfl) dX9_init_29 ?_
  refine q_Jeq (w' := (q_k w a (q_ob 9 [q_i (-1), .ref (N + 0), .ref (N + 1), .ref (N + 2)]) N [q_ia 5 (fun _ => 0), q_ia 16 (fun _ => 0), q_ia 16 (fun _ => 0)])) rfl rfl (q_k_o (q_ob 9 [q_i (-1), .ref (N + 0), .ref (N + 1), .ref (N + 2)])) ?_
  exact q_vret rfl dX9_init_32 (⟨rfl, rfl⟩)
set_option maxRecDepth 20000 in
theorem tX6_init (w : q_W) (a N : Nat) (hd : q_dom w N) (hw : w a = some (q_ob 6 [q_i 0, q_i 0, q_i 0, .null, .null])) : q_T mX6_init 1 2 10 [.ref a] w (fun v' w' => v' = none ∧ w' = (q_k w a (q_ob 6 [q_i 0, q_i 0, q_i 0, .ref (N + 0), .ref (N + 1)]) N [q_ia 5 (fun _ => 0), q_ia 5 (fun _ => 0)])) := by
  refine q_T.of (lv := [some (.ref a)]) (by decide) rfl (Nat.le_of_ble_eq_true rfl) ?_
  have ha : a < N := hd.lt hw
  refine q_Jeq (w' := (q_k w a (q_ob 6 [q_i 0, q_i 0, q_i 0, .null, .null]) N [])) rfl rfl (q_k_0 hd hw) ?_
  refine q_aload_n dX6_init_0 rfl ?_
  refine q_objInit wd_94 wd_83 wd_84 (by decide) (Nat.le_of_ble_eq_true rfl) dX6_init_1 ?_
  refine q_aload_n dX6_init_4 rfl ?_
  refine q_iconst dX6_init_5 ?_
  refine q_newai (kc := 1) (ks := 5) (n := (N + 0)) (N := 5) wd_116 (by decide) rfl (by decide) (q_k_dom hd ha) dX6_init_6 ?_
  refine q_Jeq (w' := (q_k w a (q_ob 6 [q_i 0, q_i 0, q_i 0, .null, .null]) N [q_ia 5 (fun _ => 0)])) rfl rfl (q_k_push ha _) ?_
  refine q_putra (fs := [q_i 0, q_i 0, q_i 0, .null, .null]) pX6_9_6 rfl q_k_a (Nat.le_of_ble_eq_true rfl) dX6_init_8 ?_
  refine q_Jeq (w' := (q_k w a (q_ob 6 [q_i 0, q_i 0, q_i 0, .ref (N + 0), .null]) N [q_ia 5 (fun _ => 0)])) rfl rfl (q_k_o (q_ob 6 [q_i 0, q_i 0, q_i 0, .ref (N + 0), .null])) ?_
  refine q_aload_n dX6_init_11 rfl ?_
  refine q_iconst dX6_init_12 ?_
  refine q_newai (kc := 0) (ks := 0) (n := (N + 1)) (N := 5) wd_116 (by decide) rfl (by decide) (q_k_dom hd ha) dX6_init_13 ?_
  refine q_Jeq (w' := (q_k w a (q_ob 6 [q_i 0, q_i 0, q_i 0, .ref (N + 0), .null]) N [q_ia 5 (fun _ => 0), q_ia 5 (fun _ => 0)])) rfl rfl (q_k_push ha _) ?_
  refine q_putra (fs := [q_i 0, q_i 0, q_i 0, .ref (N + 0), .null]) pX6_15_6 rfl q_k_a (Nat.le_of_ble_eq_true rfl) dX6_init_15 ?_
  refine q_Jeq (w' := (q_k w a (q_ob 6 [q_i 0, q_i 0, q_i 0, .ref (N + 0), .ref (N + 1)]) N [q_ia 5 (fun _ => 0), q_ia 5 (fun _ => 0)])) rfl rfl (q_k_o (q_ob 6 [q_i 0, q_i 0, q_i 0, .ref (N + 0), .ref (N + 1)])) ?_
  exact q_vret rfl dX6_init_18 (⟨rfl, rfl⟩)
set_option maxRecDepth 20000 in
theorem tX10_init (w : q_W) (a N : Nat) (hd : q_dom w N) (hw : w a = some (q_ob 10 [q_i 0, q_i 0, q_i 0, .null])) : q_T mX10_init 1 1 648 [.ref a] w (fun v' w' => v' = none ∧ w' = (q_k w a (q_ob 10 [q_i 0, q_i 0, q_i 0, .ref (N + 0)]) N [q_ia 648 (fun _ => 0)])) := by
  refine q_T.of (lv := [some (.ref a)]) (by decide) rfl (Nat.le_of_ble_eq_true rfl) ?_
  have ha : a < N := hd.lt hw
  refine q_Jeq (w' := (q_k w a (q_ob 10 [q_i 0, q_i 0, q_i 0, .null]) N [])) rfl rfl (q_k_0 hd hw) ?_
  refine q_aload_n dX10_init_0 rfl ?_
  refine q_objInit wd_128 wd_83 wd_84 (by decide) (Nat.le_of_ble_eq_true rfl) dX10_init_1 ?_
  refine q_aload_n dX10_init_4 rfl ?_
  refine q_iconst dX10_init_5 ?_
  refine q_puti (fs := [q_i 0, q_i 0, q_i 0, .null]) pX10_9_10 q_k_a (Nat.le_of_ble_eq_true rfl) dX10_init_6 ?_
  refine q_Jeq (w' := (q_k w a (q_ob 10 [q_i 0, q_i 0, q_i 0, .null]) N [])) rfl rfl (q_k_o (q_ob 10 [q_i 0, q_i 0, q_i 0, .null])) ?_
  refine q_aload_n dX10_init_9 rfl ?_
  refine q_iconst dX10_init_10 ?_
  refine q_puti (fs := [q_i 0, q_i 0, q_i 0, .null]) pX10_15_10 q_k_a (Nat.le_of_ble_eq_true rfl) dX10_init_11 ?_
  refine q_Jeq (w' := (q_k w a (q_ob 10 [q_i 0, q_i 0, q_i 0, .null]) N [])) rfl rfl (q_k_o (q_ob 10 [q_i 0, q_i 0, q_i 0, .null])) ?_
  refine q_aload_n dX10_init_14 rfl ?_
  refine q_iconst dX10_init_15 ?_
  refine q_puti (fs := [q_i 0, q_i 0, q_i 0, .null]) pX10_18_10 q_k_a (Nat.le_of_ble_eq_true rfl) dX10_init_16 ?_
  refine q_Jeq (w' := (q_k w a (q_ob 10 [q_i 0, q_i 0, q_i 0, .null]) N [])) rfl rfl (q_k_o (q_ob 10 [q_i 0, q_i 0, q_i 0, .null])) ?_
  refine q_aload_n dX10_init_19 rfl ?_
  refine q_sipush dX10_init_20 ?_
  refine q_newai (kc := 0) (ks := 0) (n := (N + 0)) (N := 648) wd_116 (by decide) rfl (by decide) (q_k_dom hd ha) dX10_init_23 ?_
  refine q_Jeq (w' := (q_k w a (q_ob 10 [q_i 0, q_i 0, q_i 0, .null]) N [q_ia 648 (fun _ => 0)])) rfl rfl (q_k_push ha _) ?_
  refine q_putra (fs := [q_i 0, q_i 0, q_i 0, .null]) pX10_21_10 rfl q_k_a (Nat.le_of_ble_eq_true rfl) dX10_init_25 ?_
  refine q_Jeq (w' := (q_k w a (q_ob 10 [q_i 0, q_i 0, q_i 0, .ref (N + 0)]) N [q_ia 648 (fun _ => 0)])) rfl rfl (q_k_o (q_ob 10 [q_i 0, q_i 0, q_i 0, .ref (N + 0)])) ?_
  exact q_vret rfl dX10_init_28 (⟨rfl, rfl⟩)
set_option maxRecDepth 20000 in
theorem tX8_init (w : q_W) (a N : Nat) (hd : q_dom w N) (hw : w a = some (q_ob 8 [q_i 0, .null, .null, .null, .null, .null, .null, .null, .null, .null])) : q_T mX8_init 2 23 3521 [.ref a] w (fun v' w' => v' = none ∧ w' = (q_k w a (q_ob 8 [q_i 0, .ref (N + 0), .ref (N + 2), .ref (N + 6), .ref (N + 7), .ref (N + 8), .ref (N + 9), .ref (N + 10), .ref (N + 11), .ref (N + 17)]) N [q_ob 10 [q_i 0, q_i 0, q_i 0, .ref (N + 1)], q_ia 648 (fun _ => 0), q_ob 9 [q_i 0, .ref (N + 3), .ref (N + 4), .ref (N + 5)], q_ia 5 (fun _ => 0), q_ia 16 (fun _ => 0), q_ia 16 (fun _ => 0), q_la 216 (fun _ => 0), q_la 216 (fun _ => 0), q_ia 216 (fun _ => 0), q_la 5 (fun _ => 0), q_ra 4 5 (fun _ => none), q_ra 5 5 (x_arr (N + 12)), q_mz, q_mz, q_mz, q_mz, q_mz, q_ra 5 5 (x_arr (N + 18)), q_mz, q_mz, q_mz, q_mz, q_mz])) := by
  refine q_T.of (lv := [some (.ref a)]) (by decide) rfl (Nat.le_of_ble_eq_true rfl) ?_
  have ha : a < N := hd.lt hw
  refine q_Jeq (w' := (q_k w a (q_ob 8 [q_i 0, .null, .null, .null, .null, .null, .null, .null, .null, .null]) N [])) rfl rfl (q_k_0 hd hw) ?_
  refine q_aload_n dX8_init_0 rfl ?_
  refine q_objInit wd_122 wd_83 wd_84 (by decide) (Nat.le_of_ble_eq_true rfl) dX8_init_1 ?_
  refine q_aload_n dX8_init_4 rfl ?_
  refine q_iconst dX8_init_5 ?_
  refine q_puti (fs := [q_i 0, .null, .null, .null, .null, .null, .null, .null, .null, .null]) pX8_9_8 q_k_a (Nat.le_of_ble_eq_true rfl) dX8_init_6 ?_
  refine q_Jeq (w' := (q_k w a (q_ob 8 [q_i 0, .null, .null, .null, .null, .null, .null, .null, .null, .null]) N [])) rfl rfl (q_k_o (q_ob 8 [q_i 0, .null, .null, .null, .null, .null, .null, .null, .null, .null])) ?_
  refine q_aload_n dX8_init_9 rfl ?_
  refine q_newo (ci := 10) (kc := 22) (ks := 3517) (n := (N + 0)) (fs := [q_i 0, q_i 0, q_i 0, .null]) tyX10 rfl uX10 tyX10_ok wd_123 wd_124 wd_65 dvX10 (q_k_dom hd ha) dX8_init_10 ?_
  refine q_Jeq (w' := (q_k w a (q_ob 8 [q_i 0, .null, .null, .null, .null, .null, .null, .null, .null, .null]) N [q_ob 10 [q_i 0, q_i 0, q_i 0, .null]])) rfl rfl (q_k_push ha _) ?_
  refine q_dup dX8_init_13 rfl ?_
  refine q_cN (kc := 21) (ks := 2869) [] kX8_17 (tX10_init (q_k w a (q_ob 8 [q_i 0, .null, .null, .null, .null, .null, .null, .null, .null, .null]) N [q_ob 10 [q_i 0, q_i 0, q_i 0, .null]]) (N + 0) (N + 1) (q_k_dom hd ha) (q_k_n (i := 0) ha rfl)) dX8_init_14 rfl (by decide) (Nat.le_of_ble_eq_true rfl) rfl rfl rfl ?_
  refine q_Jeq (w' := (q_k w a (q_ob 8 [q_i 0, .null, .null, .null, .null, .null, .null, .null, .null, .null]) N [q_ob 10 [q_i 0, q_i 0, q_i 0, .ref (N + 1)], q_ia 648 (fun _ => 0)])) rfl rfl (q_k_k (i := 0) ha (Nat.le_of_ble_eq_true rfl)) ?_
  refine q_putro (fs := [q_i 0, .null, .null, .null, .null, .null, .null, .null, .null, .null]) pX8_18_8 rfl q_k_a (Nat.le_of_ble_eq_true rfl) dX8_init_17 ?_
  refine q_Jeq (w' := (q_k w a (q_ob 8 [q_i 0, .ref (N + 0), .null, .null, .null, .null, .null, .null, .null, .null]) N [q_ob 10 [q_i 0, q_i 0, q_i 0, .ref (N + 1)], q_ia 648 (fun _ => 0)])) rfl rfl (q_k_o (q_ob 8 [q_i 0, .ref (N + 0), .null, .null, .null, .null, .null, .null, .null, .null])) ?_
  refine q_aload_n dX8_init_20 rfl ?_
  refine q_newo (ci := 9) (kc := 20) (ks := 2865) (n := (N + 2)) (fs := [q_i 0, .null, .null, .null]) tyX9 rfl uX9 tyX9_ok wd_153 wd_154 wd_66 dvX9 (q_k_dom hd ha) dX8_init_21 ?_
  refine q_Jeq (w' := (q_k w a (q_ob 8 [q_i 0, .ref (N + 0), .null, .null, .null, .null, .null, .null, .null, .null]) N [q_ob 10 [q_i 0, q_i 0, q_i 0, .ref (N + 1)], q_ia 648 (fun _ => 0), q_ob 9 [q_i 0, .null, .null, .null]])) rfl rfl (q_k_push ha _) ?_
  refine q_dup dX8_init_24 rfl ?_
  refine q_iconst dX8_init_25 ?_
  refine q_cI (kc := 17) (ks := 2828) [q_i 0] kX8_24 (tX9_init_0 (q_k w a (q_ob 8 [q_i 0, .ref (N + 0), .null, .null, .null, .null, .null, .null, .null, .null]) N [q_ob 10 [q_i 0, q_i 0, q_i 0, .ref (N + 1)], q_ia 648 (fun _ => 0), q_ob 9 [q_i 0, .null, .null, .null]]) (N + 2) (N + 3) (q_k_dom hd ha) (q_k_n (i := 2) ha rfl)) dX8_init_26 rfl (by decide) (Nat.le_of_ble_eq_true rfl) rfl rfl rfl ?_
  refine q_Jeq (w' := (q_k w a (q_ob 8 [q_i 0, .ref (N + 0), .null, .null, .null, .null, .null, .null, .null, .null]) N [q_ob 10 [q_i 0, q_i 0, q_i 0, .ref (N + 1)], q_ia 648 (fun _ => 0), q_ob 9 [q_i 0, .ref (N + 3), .ref (N + 4), .ref (N + 5)], q_ia 5 (fun _ => 0), q_ia 16 (fun _ => 0), q_ia 16 (fun _ => 0)])) rfl rfl (q_k_k (i := 2) ha (Nat.le_of_ble_eq_true rfl)) ?_
  refine q_putro (fs := [q_i 0, .ref (N + 0), .null, .null, .null, .null, .null, .null, .null, .null]) pX8_27_8 rfl q_k_a (Nat.le_of_ble_eq_true rfl) dX8_init_29 ?_
  refine q_Jeq (w' := (q_k w a (q_ob 8 [q_i 0, .ref (N + 0), .ref (N + 2), .null, .null, .null, .null, .null, .null, .null]) N [q_ob 10 [q_i 0, q_i 0, q_i 0, .ref (N + 1)], q_ia 648 (fun _ => 0), q_ob 9 [q_i 0, .ref (N + 3), .ref (N + 4), .ref (N + 5)], q_ia 5 (fun _ => 0), q_ia 16 (fun _ => 0), q_ia 16 (fun _ => 0)])) rfl rfl (q_k_o (q_ob 8 [q_i 0, .ref (N + 0), .ref (N + 2), .null, .null, .null, .null, .null, .null, .null])) ?_
  refine q_aload_n dX8_init_32 rfl ?_
  refine q_sipush dX8_init_33 ?_
  refine q_newal (kc := 16) (ks := 2612) (n := (N + 6)) (N := 216) wd_218 (by decide) rfl (by decide) (q_k_dom hd ha) dX8_init_36 ?_
  refine q_Jeq (w' := (q_k w a (q_ob 8 [q_i 0, .ref (N + 0), .ref (N + 2), .null, .null, .null, .null, .null, .null, .null]) N [q_ob 10 [q_i 0, q_i 0, q_i 0, .ref (N + 1)], q_ia 648 (fun _ => 0), q_ob 9 [q_i 0, .ref (N + 3), .ref (N + 4), .ref (N + 5)], q_ia 5 (fun _ => 0), q_ia 16 (fun _ => 0), q_ia 16 (fun _ => 0), q_la 216 (fun _ => 0)])) rfl rfl (q_k_push ha _) ?_
  refine q_putra (fs := [q_i 0, .ref (N + 0), .ref (N + 2), .null, .null, .null, .null, .null, .null, .null]) pX8_31_8 rfl q_k_a (Nat.le_of_ble_eq_true rfl) dX8_init_38 ?_
  refine q_Jeq (w' := (q_k w a (q_ob 8 [q_i 0, .ref (N + 0), .ref (N + 2), .ref (N + 6), .null, .null, .null, .null, .null, .null]) N [q_ob 10 [q_i 0, q_i 0, q_i 0, .ref (N + 1)], q_ia 648 (fun _ => 0), q_ob 9 [q_i 0, .ref (N + 3), .ref (N + 4), .ref (N + 5)], q_ia 5 (fun _ => 0), q_ia 16 (fun _ => 0), q_ia 16 (fun _ => 0), q_la 216 (fun _ => 0)])) rfl rfl (q_k_o (q_ob 8 [q_i 0, .ref (N + 0), .ref (N + 2), .ref (N + 6), .null, .null, .null, .null, .null, .null])) ?_
  refine q_aload_n dX8_init_41 rfl ?_
  refine q_sipush dX8_init_42 ?_
  refine q_newal (kc := 15) (ks := 2396) (n := (N + 7)) (N := 216) wd_218 (by decide) rfl (by decide) (q_k_dom hd ha) dX8_init_45 ?_
  refine q_Jeq (w' := (q_k w a (q_ob 8 [q_i 0, .ref (N + 0), .ref (N + 2), .ref (N + 6), .null, .null, .null, .null, .null, .null]) N [q_ob 10 [q_i 0, q_i 0, q_i 0, .ref (N + 1)], q_ia 648 (fun _ => 0), q_ob 9 [q_i 0, .ref (N + 3), .ref (N + 4), .ref (N + 5)], q_ia 5 (fun _ => 0), q_ia 16 (fun _ => 0), q_ia 16 (fun _ => 0), q_la 216 (fun _ => 0), q_la 216 (fun _ => 0)])) rfl rfl (q_k_push ha _) ?_
  refine q_putra (fs := [q_i 0, .ref (N + 0), .ref (N + 2), .ref (N + 6), .null, .null, .null, .null, .null, .null]) pX8_35_8 rfl q_k_a (Nat.le_of_ble_eq_true rfl) dX8_init_47 ?_
  refine q_Jeq (w' := (q_k w a (q_ob 8 [q_i 0, .ref (N + 0), .ref (N + 2), .ref (N + 6), .ref (N + 7), .null, .null, .null, .null, .null]) N [q_ob 10 [q_i 0, q_i 0, q_i 0, .ref (N + 1)], q_ia 648 (fun _ => 0), q_ob 9 [q_i 0, .ref (N + 3), .ref (N + 4), .ref (N + 5)], q_ia 5 (fun _ => 0), q_ia 16 (fun _ => 0), q_ia 16 (fun _ => 0), q_la 216 (fun _ => 0), q_la 216 (fun _ => 0)])) rfl rfl (q_k_o (q_ob 8 [q_i 0, .ref (N + 0), .ref (N + 2), .ref (N + 6), .ref (N + 7), .null, .null, .null, .null, .null])) ?_
  refine q_aload_n dX8_init_50 rfl ?_
  refine q_sipush dX8_init_51 ?_
  refine q_newai (kc := 14) (ks := 2180) (n := (N + 8)) (N := 216) wd_116 (by decide) rfl (by decide) (q_k_dom hd ha) dX8_init_54 ?_
  refine q_Jeq (w' := (q_k w a (q_ob 8 [q_i 0, .ref (N + 0), .ref (N + 2), .ref (N + 6), .ref (N + 7), .null, .null, .null, .null, .null]) N [q_ob 10 [q_i 0, q_i 0, q_i 0, .ref (N + 1)], q_ia 648 (fun _ => 0), q_ob 9 [q_i 0, .ref (N + 3), .ref (N + 4), .ref (N + 5)], q_ia 5 (fun _ => 0), q_ia 16 (fun _ => 0), q_ia 16 (fun _ => 0), q_la 216 (fun _ => 0), q_la 216 (fun _ => 0), q_ia 216 (fun _ => 0)])) rfl rfl (q_k_push ha _) ?_
  refine q_putra (fs := [q_i 0, .ref (N + 0), .ref (N + 2), .ref (N + 6), .ref (N + 7), .null, .null, .null, .null, .null]) pX8_38_8 rfl q_k_a (Nat.le_of_ble_eq_true rfl) dX8_init_56 ?_
  refine q_Jeq (w' := (q_k w a (q_ob 8 [q_i 0, .ref (N + 0), .ref (N + 2), .ref (N + 6), .ref (N + 7), .ref (N + 8), .null, .null, .null, .null]) N [q_ob 10 [q_i 0, q_i 0, q_i 0, .ref (N + 1)], q_ia 648 (fun _ => 0), q_ob 9 [q_i 0, .ref (N + 3), .ref (N + 4), .ref (N + 5)], q_ia 5 (fun _ => 0), q_ia 16 (fun _ => 0), q_ia 16 (fun _ => 0), q_la 216 (fun _ => 0), q_la 216 (fun _ => 0), q_ia 216 (fun _ => 0)])) rfl rfl (q_k_o (q_ob 8 [q_i 0, .ref (N + 0), .ref (N + 2), .ref (N + 6), .ref (N + 7), .ref (N + 8), .null, .null, .null, .null])) ?_
  refine q_aload_n dX8_init_59 rfl ?_
  refine q_iconst dX8_init_60 ?_
  refine q_newal (kc := 13) (ks := 2175) (n := (N + 9)) (N := 5) wd_218 (by decide) rfl (by decide) (q_k_dom hd ha) dX8_init_61 ?_
  refine q_Jeq (w' := (q_k w a (q_ob 8 [q_i 0, .ref (N + 0), .ref (N + 2), .ref (N + 6), .ref (N + 7), .ref (N + 8), .null, .null, .null, .null]) N [q_ob 10 [q_i 0, q_i 0, q_i 0, .ref (N + 1)], q_ia 648 (fun _ => 0), q_ob 9 [q_i 0, .ref (N + 3), .ref (N + 4), .ref (N + 5)], q_ia 5 (fun _ => 0), q_ia 16 (fun _ => 0), q_ia 16 (fun _ => 0), q_la 216 (fun _ => 0), q_la 216 (fun _ => 0), q_ia 216 (fun _ => 0), q_la 5 (fun _ => 0)])) rfl rfl (q_k_push ha _) ?_
  refine q_putra (fs := [q_i 0, .ref (N + 0), .ref (N + 2), .ref (N + 6), .ref (N + 7), .ref (N + 8), .null, .null, .null, .null]) pX8_42_8 rfl q_k_a (Nat.le_of_ble_eq_true rfl) dX8_init_63 ?_
  refine q_Jeq (w' := (q_k w a (q_ob 8 [q_i 0, .ref (N + 0), .ref (N + 2), .ref (N + 6), .ref (N + 7), .ref (N + 8), .ref (N + 9), .null, .null, .null]) N [q_ob 10 [q_i 0, q_i 0, q_i 0, .ref (N + 1)], q_ia 648 (fun _ => 0), q_ob 9 [q_i 0, .ref (N + 3), .ref (N + 4), .ref (N + 5)], q_ia 5 (fun _ => 0), q_ia 16 (fun _ => 0), q_ia 16 (fun _ => 0), q_la 216 (fun _ => 0), q_la 216 (fun _ => 0), q_ia 216 (fun _ => 0), q_la 5 (fun _ => 0)])) rfl rfl (q_k_o (q_ob 8 [q_i 0, .ref (N + 0), .ref (N + 2), .ref (N + 6), .ref (N + 7), .ref (N + 8), .ref (N + 9), .null, .null, .null])) ?_
  refine q_aload_n dX8_init_66 rfl ?_
  refine q_iconst dX8_init_67 ?_
  refine q_newr (kc := 12) (ks := 2170) (n := (N + 10)) (N := 5) (ak := 4) (fun _ => rfl) aoX5 wd_177 (by decide) rfl (by decide) (q_k_dom hd ha) dX8_init_68 ?_
  refine q_Jeq (w' := (q_k w a (q_ob 8 [q_i 0, .ref (N + 0), .ref (N + 2), .ref (N + 6), .ref (N + 7), .ref (N + 8), .ref (N + 9), .null, .null, .null]) N [q_ob 10 [q_i 0, q_i 0, q_i 0, .ref (N + 1)], q_ia 648 (fun _ => 0), q_ob 9 [q_i 0, .ref (N + 3), .ref (N + 4), .ref (N + 5)], q_ia 5 (fun _ => 0), q_ia 16 (fun _ => 0), q_ia 16 (fun _ => 0), q_la 216 (fun _ => 0), q_la 216 (fun _ => 0), q_ia 216 (fun _ => 0), q_la 5 (fun _ => 0), q_ra 4 5 (fun _ => none)])) rfl rfl (q_k_push ha _) ?_
  refine q_putra (fs := [q_i 0, .ref (N + 0), .ref (N + 2), .ref (N + 6), .ref (N + 7), .ref (N + 8), .ref (N + 9), .null, .null, .null]) pX8_47_8 rfl q_k_a (Nat.le_of_ble_eq_true rfl) dX8_init_71 ?_
  refine q_Jeq (w' := (q_k w a (q_ob 8 [q_i 0, .ref (N + 0), .ref (N + 2), .ref (N + 6), .ref (N + 7), .ref (N + 8), .ref (N + 9), .ref (N + 10), .null, .null]) N [q_ob 10 [q_i 0, q_i 0, q_i 0, .ref (N + 1)], q_ia 648 (fun _ => 0), q_ob 9 [q_i 0, .ref (N + 3), .ref (N + 4), .ref (N + 5)], q_ia 5 (fun _ => 0), q_ia 16 (fun _ => 0), q_ia 16 (fun _ => 0), q_la 216 (fun _ => 0), q_la 216 (fun _ => 0), q_ia 216 (fun _ => 0), q_la 5 (fun _ => 0), q_ra 4 5 (fun _ => none)])) rfl rfl (q_k_o (q_ob 8 [q_i 0, .ref (N + 0), .ref (N + 2), .ref (N + 6), .ref (N + 7), .ref (N + 8), .ref (N + 9), .ref (N + 10), .null, .null])) ?_
  refine q_aload_n dX8_init_74 rfl ?_
  refine q_iconst dX8_init_75 ?_
  refine q_sipush dX8_init_76 ?_
  refine q_mna (kc := 6) (ks := 1085) (n := (N + 11)) wd_179 wd_116 (q_k_dom hd ha) dX8_init_79 ?_
  refine q_Jeq (w' := (q_k w a (q_ob 8 [q_i 0, .ref (N + 0), .ref (N + 2), .ref (N + 6), .ref (N + 7), .ref (N + 8), .ref (N + 9), .ref (N + 10), .null, .null]) N [q_ob 10 [q_i 0, q_i 0, q_i 0, .ref (N + 1)], q_ia 648 (fun _ => 0), q_ob 9 [q_i 0, .ref (N + 3), .ref (N + 4), .ref (N + 5)], q_ia 5 (fun _ => 0), q_ia 16 (fun _ => 0), q_ia 16 (fun _ => 0), q_la 216 (fun _ => 0), q_la 216 (fun _ => 0), q_ia 216 (fun _ => 0), q_la 5 (fun _ => 0), q_ra 4 5 (fun _ => none), q_ra 5 5 (x_arr (N + 12)), q_mz, q_mz, q_mz, q_mz, q_mz])) rfl rfl (q_k_mw ha) ?_
  refine q_putra (fs := [q_i 0, .ref (N + 0), .ref (N + 2), .ref (N + 6), .ref (N + 7), .ref (N + 8), .ref (N + 9), .ref (N + 10), .null, .null]) pX8_53_8 rfl q_k_a (Nat.le_of_ble_eq_true rfl) dX8_init_83 ?_
  refine q_Jeq (w' := (q_k w a (q_ob 8 [q_i 0, .ref (N + 0), .ref (N + 2), .ref (N + 6), .ref (N + 7), .ref (N + 8), .ref (N + 9), .ref (N + 10), .ref (N + 11), .null]) N [q_ob 10 [q_i 0, q_i 0, q_i 0, .ref (N + 1)], q_ia 648 (fun _ => 0), q_ob 9 [q_i 0, .ref (N + 3), .ref (N + 4), .ref (N + 5)], q_ia 5 (fun _ => 0), q_ia 16 (fun _ => 0), q_ia 16 (fun _ => 0), q_la 216 (fun _ => 0), q_la 216 (fun _ => 0), q_ia 216 (fun _ => 0), q_la 5 (fun _ => 0), q_ra 4 5 (fun _ => none), q_ra 5 5 (x_arr (N + 12)), q_mz, q_mz, q_mz, q_mz, q_mz])) rfl rfl (q_k_o (q_ob 8 [q_i 0, .ref (N + 0), .ref (N + 2), .ref (N + 6), .ref (N + 7), .ref (N + 8), .ref (N + 9), .ref (N + 10), .ref (N + 11), .null])) ?_
  refine q_aload_n dX8_init_86 rfl ?_
  refine q_iconst dX8_init_87 ?_
  refine q_sipush dX8_init_88 ?_
  refine q_mna (kc := 0) (ks := 0) (n := (N + 17)) wd_179 wd_116 (q_k_dom hd ha) dX8_init_91 ?_
  refine q_Jeq (w' := (q_k w a (q_ob 8 [q_i 0, .ref (N + 0), .ref (N + 2), .ref (N + 6), .ref (N + 7), .ref (N + 8), .ref (N + 9), .ref (N + 10), .ref (N + 11), .null]) N [q_ob 10 [q_i 0, q_i 0, q_i 0, .ref (N + 1)], q_ia 648 (fun _ => 0), q_ob 9 [q_i 0, .ref (N + 3), .ref (N + 4), .ref (N + 5)], q_ia 5 (fun _ => 0), q_ia 16 (fun _ => 0), q_ia 16 (fun _ => 0), q_la 216 (fun _ => 0), q_la 216 (fun _ => 0), q_ia 216 (fun _ => 0), q_la 5 (fun _ => 0), q_ra 4 5 (fun _ => none), q_ra 5 5 (x_arr (N + 12)), q_mz, q_mz, q_mz, q_mz, q_mz, q_ra 5 5 (x_arr (N + 18)), q_mz, q_mz, q_mz, q_mz, q_mz])) rfl rfl (q_k_mw ha) ?_
  refine q_putra (fs := [q_i 0, .ref (N + 0), .ref (N + 2), .ref (N + 6), .ref (N + 7), .ref (N + 8), .ref (N + 9), .ref (N + 10), .ref (N + 11), .null]) pX8_56_8 rfl q_k_a (Nat.le_of_ble_eq_true rfl) dX8_init_95 ?_
  refine q_Jeq (w' := (q_k w a (q_ob 8 [q_i 0, .ref (N + 0), .ref (N + 2), .ref (N + 6), .ref (N + 7), .ref (N + 8), .ref (N + 9), .ref (N + 10), .ref (N + 11), .ref (N + 17)]) N [q_ob 10 [q_i 0, q_i 0, q_i 0, .ref (N + 1)], q_ia 648 (fun _ => 0), q_ob 9 [q_i 0, .ref (N + 3), .ref (N + 4), .ref (N + 5)], q_ia 5 (fun _ => 0), q_ia 16 (fun _ => 0), q_ia 16 (fun _ => 0), q_la 216 (fun _ => 0), q_la 216 (fun _ => 0), q_ia 216 (fun _ => 0), q_la 5 (fun _ => 0), q_ra 4 5 (fun _ => none), q_ra 5 5 (x_arr (N + 12)), q_mz, q_mz, q_mz, q_mz, q_mz, q_ra 5 5 (x_arr (N + 18)), q_mz, q_mz, q_mz, q_mz, q_mz])) rfl rfl (q_k_o (q_ob 8 [q_i 0, .ref (N + 0), .ref (N + 2), .ref (N + 6), .ref (N + 7), .ref (N + 8), .ref (N + 9), .ref (N + 10), .ref (N + 11), .ref (N + 17)])) ?_
  exact q_vret rfl dX8_init_98 (⟨rfl, rfl⟩)
