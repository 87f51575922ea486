/-! the class: stories, the reader -/
set_option maxRecDepth 20000 in
theorem tX9_isFull (w : q_W) (ξ : m_S) (B P : Nat) (g : Int → Option Nat) (h10 : 0 ≤ ξ 10 0 ∧ ξ 10 0 ≤ 16) : q_D mX9_isFull 0 [.ref 10] (x_w w ξ B P g) (some (q_b (16 ≤ ξ 10 0))) (x_w w ξ B P g) := by
  refine q_T.of (lv := [some (.ref 10)]) (by decide) rfl (Nat.le_of_ble_eq_true rfl) ?_
  refine q_aload_n dX9_isFull_0 rfl ?_
  refine q_get (v := q_i (ξ 10 0)) fX9_21_9 rfl rfl dX9_isFull_1 ?_
  refine q_bipush dX9_isFull_4 ?_
  refine q_icmp_lt (tgt := 13) dX9_isFull_6 (by decide) ⟨by omega, by omega⟩ ⟨by decide, by decide⟩ (fun h6 => ?_) (fun h6 => ?_)
  · skip
    refine q_iconst dX9_isFull_13 ?_
    exact q_zret rfl (Or.inl rfl) dX9_isFull_14 (⟨congrArg some (q_b0 (by omega)), rfl⟩)
  · skip
    refine q_iconst dX9_isFull_9 ?_
    refine q_goto (tgt := 14) dX9_isFull_10 (by decide) ?_
    exact q_zret rfl (Or.inr rfl) dX9_isFull_14 (⟨congrArg some (q_b1 (by omega)), rfl⟩)
set_option maxRecDepth 20000 in
theorem tX9_add (w : q_W) (ξ : m_S) (B P : Nat) (g : Int → Option Nat) (o t : Int) (h10 : 0 ≤ ξ 10 0 ∧ ξ 10 0 < 16) : q_D mX9_add 1 [.ref 10, q_i o, q_i t] (x_w w ξ B P g) none (x_w w (m_u (m_u (m_u ξ 12 (q_us (ξ 12) (ξ 10 0) o)) 13 (q_us (ξ 13) (ξ 10 0) t)) 10 (q_us (ξ 10) 0 (ξ 10 0 + 1))) B P g) := by
  refine q_T.of (lv := [some (.ref 10), some (q_i o), some (q_i t)]) (by decide) rfl (Nat.le_of_ble_eq_true rfl) ?_
  refine q_aload_n dX9_add_0 rfl ?_
  refine q_get (v := q_i (ξ 10 0)) fX9_21_9 rfl rfl dX9_add_1 ?_
  refine q_if_lt (tgt := 44) dX9_add_4 (by decide) ⟨by omega, by omega⟩ (fun h4 => False.elim (by omega)) (fun h4 => ?_)
  refine q_aload_n dX9_add_7 rfl ?_
  refine q_cV [] kX9_25_9 rfl (tX9_isFull w ξ B P g (by omega)) dX9_add_8 rfl (by decide) (Nat.le_of_ble_eq_true rfl) rfl ?_
  refine q_ifb_ne (tgt := 44) dX9_add_11 (by decide) (fun h11 => False.elim (by omega)) (fun h11 => ?_)
  refine q_aload_n dX9_add_14 rfl ?_
  refine q_get (v := .ref 12) fX9_15_9 rfl rfl dX9_add_15 ?_
  refine q_aload_n dX9_add_18 rfl ?_
  refine q_get (v := q_i (ξ 10 0)) fX9_21_9 rfl rfl dX9_add_19 ?_
  refine q_iload_n dX9_add_22 rfl ?_
  refine q_iast (f := (ξ 12)) (n9 := 16) rfl (by omega) (by omega) dX9_add_23 ?_
  refine q_Jeq rfl rfl (x_up (f := (q_us (ξ 12) (ξ 10 0) o)) rfl) ?_
  refine q_aload_n dX9_add_24 rfl ?_
  refine q_get (v := .ref 13) fX9_18_9 rfl rfl dX9_add_25 ?_
  refine q_aload_n dX9_add_28 rfl ?_
  refine q_get (v := q_i (ξ 10 0)) fX9_21_9 rfl rfl dX9_add_29 ?_
  refine q_iload_n dX9_add_32 rfl ?_
  refine q_iast (f := (ξ 13)) (n9 := 16) rfl (by omega) (by omega) dX9_add_33 ?_
  refine q_Jeq rfl rfl (x_up (f := (q_us (ξ 13) (ξ 10 0) t)) rfl) ?_
  refine q_aload_n dX9_add_34 rfl ?_
  refine q_dup dX9_add_35 rfl ?_
  refine q_get (v := q_i (ξ 10 0)) fX9_21_9 rfl rfl dX9_add_36 ?_
  refine q_iconst dX9_add_39 ?_
  refine q_iadd dX9_add_40 ?_
  refine q_puti (fs := [q_i (ξ 10 0), .ref 11, .ref 12, .ref 13]) pX9_21_9 rfl (Nat.le_of_ble_eq_true rfl) dX9_add_41 ?_
  refine q_Jeq rfl rfl (x_up (f := (q_us (ξ 10) 0 ((ξ 10 0) + 1))) rfl) ?_
  exact q_vret rfl dX9_add_44 (⟨rfl, rfl⟩)
def x_ad (ξ : m_S) (o t : Int) : m_S := m_u (m_u (m_u ξ 12 (q_us (ξ 12) (ξ 10 0) o)) 13 (q_us (ξ 13) (ξ 10 0) t)) 10 (q_us (ξ 10) 0 (ξ 10 0 + 1))
def x_tf (ξ : m_S) (a b : Nat) : m_S := m_u (m_u (m_u (m_u ξ a (q_us (ξ a) 0 (ξ b 0))) (a + 1) (q_cpy (ξ (b + 1)) (ξ (a + 1)) 0 0 5)) (a + 2) (q_cpy (ξ (b + 2)) (ξ (a + 2)) 0 0 16)) (a + 3) (q_cpy (ξ (b + 3)) (ξ (a + 3)) 0 0 16)
set_option maxRecDepth 20000 in
theorem tX9_takeFrom (w : q_W) (ξ : m_S) (B P : Nat) (g : Int → Option Nat) (a b : Nat) (ha : x_isS a) (hb : x_isS b) (hab : a ≠ b) : q_D mX9_takeFrom 1 [.ref a, .ref b] (x_w w ξ B P g) none (x_w w (x_tf ξ a b) B P g) := by
  refine q_T.of (lv := [some (.ref a), some (.ref b)]) (by decide) rfl (Nat.le_of_ble_eq_true rfl) ?_
  refine q_aload_n dX9_takeFrom_0 rfl ?_
  refine q_aload_n dX9_takeFrom_1 rfl ?_
  refine q_get (v := q_i (ξ b 0)) fX9_21_9 (x_sO hb) rfl dX9_takeFrom_2 ?_
  refine q_puti (fs := [q_i (ξ a 0), .ref (a + 1), .ref (a + 2), .ref (a + 3)]) pX9_21_9 (x_sO ha) (Nat.le_of_ble_eq_true rfl) dX9_takeFrom_5 ?_
  refine q_Jeq rfl rfl (x_sO_u ha _) ?_
  refine q_aload_n dX9_takeFrom_8 rfl ?_
  refine q_get (v := .ref (b + 1)) fX9_9_9 (x_sO hb) rfl dX9_takeFrom_9 ?_
  refine q_iconst dX9_takeFrom_12 ?_
  refine q_aload_n dX9_takeFrom_13 rfl ?_
  refine q_get (v := .ref (a + 1)) fX9_9_9 (x_sO ha) rfl dX9_takeFrom_14 ?_
  refine q_iconst dX9_takeFrom_17 ?_
  refine q_iconst dX9_takeFrom_18 ?_
  refine q_copyi wd_745 wd_336 wd_335 wd_70 (x_sF hb) (x_sF ha) (by omega) (by omega) (by omega) (by omega) (by omega) (by decide) (Nat.le_of_ble_eq_true rfl) dX9_takeFrom_19 ?_
  refine q_Jeq rfl rfl (x_sF_u ha _) ?_
  refine q_aload_n dX9_takeFrom_22 rfl ?_
  refine q_get (v := .ref (b + 2)) fX9_15_9 (x_sO hb) rfl dX9_takeFrom_23 ?_
  refine q_iconst dX9_takeFrom_26 ?_
  refine q_aload_n dX9_takeFrom_27 rfl ?_
  refine q_get (v := .ref (a + 2)) fX9_15_9 (x_sO ha) rfl dX9_takeFrom_28 ?_
  refine q_iconst dX9_takeFrom_31 ?_
  refine q_bipush dX9_takeFrom_32 ?_
  refine q_copyi wd_745 wd_336 wd_335 wd_70 (x_sP hb) (x_sP ha) (by omega) (by omega) (by omega) (by omega) (by omega) (by decide) (Nat.le_of_ble_eq_true rfl) dX9_takeFrom_34 ?_
  refine q_Jeq rfl rfl (x_sP_u ha _) ?_
  refine q_aload_n dX9_takeFrom_37 rfl ?_
  refine q_get (v := .ref (b + 3)) fX9_18_9 (x_sO hb) rfl dX9_takeFrom_38 ?_
  refine q_iconst dX9_takeFrom_41 ?_
  refine q_aload_n dX9_takeFrom_42 rfl ?_
  refine q_get (v := .ref (a + 3)) fX9_18_9 (x_sO ha) rfl dX9_takeFrom_43 ?_
  refine q_iconst dX9_takeFrom_46 ?_
  refine q_bipush dX9_takeFrom_47 ?_
  refine q_copyi wd_745 wd_336 wd_335 wd_70 (x_sS hb) (x_sS ha) (by omega) (by omega) (by omega) (by omega) (by omega) (by decide) (Nat.le_of_ble_eq_true rfl) dX9_takeFrom_49 ?_
  refine q_Jeq rfl rfl (x_sS_u ha _) ?_
  exact q_vret rfl dX9_takeFrom_52 (⟨rfl, by unfold x_tf; unfold x_isS at ha hb; rw [m_un (show b + 1 ≠ a by omega), m_un (show a + 1 ≠ a by omega), m_un (show b + 2 ≠ a + 1 by omega), m_un (show b + 2 ≠ a by omega), m_un (show a + 2 ≠ a + 1 by omega), m_un (show a + 2 ≠ a by omega), m_un (show b + 3 ≠ a + 2 by omega), m_un (show b + 3 ≠ a + 1 by omega), m_un (show b + 3 ≠ a by omega), m_un (show a + 3 ≠ a + 2 by omega), m_un (show a + 3 ≠ a + 1 by omega), m_un (show a + 3 ≠ a by omega)]⟩)
set_option maxRecDepth 20000 in
theorem tX9_looksAt (w : q_W) (ξ : m_S) (B P : Nat) (g : Int → Option Nat) (p : Int) (hp : q_r p) (h10 : 0 ≤ ξ 10 0 ∧ ξ 10 0 ≤ 16) (hr : ∀ d, 0 ≤ d → d < ξ 10 0 → q_r (ξ 12 d)) : q_D mX9_looksAt 0 [.ref 10, q_i p] (x_w w ξ B P g) (some (q_i (z_sum (fun d => if ξ 12 d = p then 1 else 0) (ξ 10 0)))) (x_w w ξ B P g) := by
  refine q_T.of (lv := [some (.ref 10), some (q_i p), none, none]) (by decide) rfl (Nat.le_of_ble_eq_true rfl) ?_
  refine q_iconst dX9_looksAt_0 ?_
  refine q_istore_n (lv' := [some (.ref 10), some (q_i p), some (q_i 0), none]) dX9_looksAt_1 (by decide) rfl ?_
  refine q_iconst dX9_looksAt_2 ?_
  refine q_istore_n (lv' := [some (.ref 10), some (q_i p), some (q_i 0), some (q_i 0)]) dX9_looksAt_3 (by decide) rfl ?_
  have L4 : ∀ (m9 : Nat) (k : Int) (hk0 : 0 ≤ k) (hk1 : k ≤ ξ 10 0) (hm9 : ξ 10 0 - k < (m9 : Int)), q_J mX9_looksAt 0 (fun v' w' => v' = (some (q_i (z_sum (fun d => if ξ 12 d = p then 1 else 0) (ξ 10 0)))) ∧ w' = (x_w w ξ B P g)) 0 0 4 [some (.ref 10), some (q_i p), some (q_i (z_sum (fun d => if ξ 12 d = p then 1 else 0) k)), some (q_i k)] [] (x_w w ξ B P g) := by
    intro m9
    induction m9 with
    | zero => intro k hk0 hk1 hm9; exact absurd hm9 (by omega)
    | succ m9 ih4 =>
      intro k hk0 hk1 hm9
      refine q_iload_n dX9_looksAt_4 rfl ?_
      refine q_aload_n dX9_looksAt_5 rfl ?_
      refine q_get (v := q_i (ξ 10 0)) fX9_21_9 rfl rfl dX9_looksAt_6 ?_
      refine q_icmp_ge (tgt := 36) dX9_looksAt_9 (by decide) ⟨by omega, by omega⟩ ⟨by omega, by omega⟩ (fun h9 => ?_) (fun h9 => ?_)
      · skip
        refine q_iload_n dX9_looksAt_36 rfl ?_
        exact q_iret rfl dX9_looksAt_37 (⟨by rw [show k = ξ 10 0 by omega], rfl⟩)
      · skip
        refine q_iload_n dX9_looksAt_12 rfl ?_
        refine q_aload_n dX9_looksAt_13 rfl ?_
        refine q_get (v := .ref 12) fX9_15_9 rfl rfl dX9_looksAt_14 ?_
        refine q_iload_n dX9_looksAt_17 rfl ?_
        refine q_iald (f := (ξ 12)) (n9 := 16) rfl (by omega) (by omega) dX9_looksAt_18 ?_
        refine q_iload_n dX9_looksAt_19 rfl ?_
        refine q_icmp_ne (tgt := 27) dX9_looksAt_20 (by decide) (hr _ hk0 (by omega)) hp (fun h20 => ?_) (fun h20 => ?_)
        · skip
          refine q_iconst dX9_looksAt_27 ?_
          refine q_iadd dX9_looksAt_28 ?_
          refine q_istore_n (lv' := [some (.ref 10), some (q_i p), some (q_i ((z_sum (fun d => if ξ 12 d = p then 1 else 0) k) + 0)), some (q_i k)]) dX9_looksAt_29 (by decide) rfl ?_
          refine q_iinc (lv' := [some (.ref 10), some (q_i p), some (q_i ((z_sum (fun d => if ξ 12 d = p then 1 else 0) k) + 0)), some (q_i (k + 1))]) dX9_looksAt_30 rfl (by decide) rfl ?_
          refine q_goto (tgt := 4) dX9_looksAt_33 (by decide) ?_
          exact q_Jle (q_le_s (rfl) (q_le_s (rfl) (q_le_s (by rw [z_sum_s _ hk0]; (try dsimp only); (repeat' split) <;> first | rfl | (exfalso; omega)) (q_le_s (rfl) (q_le_e _))))) (rfl) (rfl) (ih4 (k + 1) (by omega) (by omega) (by omega))
        · skip
          refine q_iconst dX9_looksAt_23 ?_
          refine q_goto (tgt := 28) dX9_looksAt_24 (by decide) ?_
          refine q_iadd dX9_looksAt_28 ?_
          refine q_istore_n (lv' := [some (.ref 10), some (q_i p), some (q_i ((z_sum (fun d => if ξ 12 d = p then 1 else 0) k) + 1)), some (q_i k)]) dX9_looksAt_29 (by decide) rfl ?_
          refine q_iinc (lv' := [some (.ref 10), some (q_i p), some (q_i ((z_sum (fun d => if ξ 12 d = p then 1 else 0) k) + 1)), some (q_i (k + 1))]) dX9_looksAt_30 rfl (by decide) rfl ?_
          refine q_goto (tgt := 4) dX9_looksAt_33 (by decide) ?_
          exact q_Jle (q_le_s (rfl) (q_le_s (rfl) (q_le_s (by rw [z_sum_s _ hk0]; (try dsimp only); (repeat' split) <;> first | rfl | (exfalso; omega)) (q_le_s (rfl) (q_le_e _))))) (rfl) (rfl) (ih4 (k + 1) (by omega) (by omega) (by omega))
  exact q_Jle (q_le_s (rfl) (q_le_s (rfl) (q_le_s (rfl) (q_le_s (rfl) (q_le_e _))))) (rfl) (rfl) (L4 ((ξ 10 0 : Int).toNat + 1) 0 (by omega) (by omega) (by omega))
def z_sg (b : Int → Int) (L i : Int) : Int := if 0 ≤ i ∧ i < L then b i else 1000
def z_fg (b : Int → Int) (L i lo hi : Int) : Int := if z_sg b L i - 48 < lo ∨ hi < z_sg b L i - 48 then -9 else z_sg b L i - 48
set_option maxRecDepth 20000 in
theorem tX6_signAt (w : q_W) (ξ : m_S) (B P : Nat) (g : Int → Option Nat) (a : Nat) (hA : x_isR a 60) (hL : 0 ≤ ξ a 1 ∧ ξ a 1 ≤ 60) (hb : ∀ j, -128 ≤ ξ (a + 1) j ∧ ξ (a + 1) j ≤ 127) (i : Int) (hi : q_r i) : q_D mX6_signAt 1 [.ref a, q_i i] (x_w w ξ B P g) (some (q_i (z_sg (ξ (a + 1)) (ξ a 1) i))) (x_w w ξ B P g) := by
  refine q_T.of (lv := [some (.ref a), some (q_i i)]) (by decide) rfl (Nat.le_of_ble_eq_true rfl) ?_
  refine q_aload_n dX6_signAt_0 rfl ?_
  refine q_iload_n dX6_signAt_1 rfl ?_
  refine q_cV [q_i i] kX6_51_7 (x_rO hA) (tX7_has w ξ B P g a 60 hA (by omega) i (hi)) dX6_signAt_2 rfl (by decide) (Nat.le_of_ble_eq_true rfl) rfl ?_
  refine q_ifb_eq (tgt := 17) dX6_signAt_5 (by decide) (fun h5 => ?_) (fun h5 => ?_)
  · skip
    refine q_sipush dX6_signAt_17 ?_
    exact q_iret rfl dX6_signAt_20 (⟨by (unfold z_sg; (repeat' split) <;> first | rfl | (exfalso; omega)), rfl⟩)
  · skip
    refine q_aload_n dX6_signAt_8 rfl ?_
    refine q_get (v := .ref (a + 1)) fX6_55_7 (x_rO hA) rfl dX6_signAt_9 ?_
    refine q_iload_n dX6_signAt_12 rfl ?_
    refine q_iald (f := (ξ (a + 1))) (n9 := 60) (x_rP hA) (by omega) (by omega) dX6_signAt_13 ?_ (by rcases (hA).n with q | q <;> omega)
    refine q_goto (tgt := 20) dX6_signAt_14 (by decide) ?_
    exact q_iret rfl dX6_signAt_20 (⟨by (unfold z_sg; (repeat' split) <;> first | rfl | (exfalso; omega)), rfl⟩)
theorem z_sg_r {b : Int → Int} (hb : ∀ j, -128 ≤ b j ∧ b j ≤ 127) (L i : Int) : -128 ≤ z_sg b L i ∧ z_sg b L i ≤ 1000 := by
  unfold z_sg
  have := hb i
  split <;> omega
set_option maxRecDepth 20000 in
theorem tX6_behindBlanks (w : q_W) (ξ : m_S) (B P : Nat) (g : Int → Option Nat) (a : Nat) (hA : x_isR a 60) (hL : 0 ≤ ξ a 1 ∧ ξ a 1 ≤ 60) (hb : ∀ j, -128 ≤ ξ (a + 1) j ∧ ξ (a + 1) j ≤ 127) (i : Int) (hi0 : 0 ≤ i) (hi1 : i ≤ ξ a 1) : q_D mX6_behindBlanks 2 [.ref a, q_i i] (x_w w ξ B P g) (some (q_i (z_skp (ξ (a + 1)) (ξ a 1) i))) (x_w w ξ B P g) := by
  refine q_T.of (lv := [some (.ref a), some (q_i i), none]) (by decide) rfl (Nat.le_of_ble_eq_true rfl) ?_
  refine q_iload_n dX6_behindBlanks_0 rfl ?_
  refine q_istore_n (lv' := [some (.ref a), some (q_i i), some (q_i i)]) dX6_behindBlanks_1 (by decide) rfl ?_
  have L2 : ∀ (m9 : Nat) (p : Int) (hp0 : 0 ≤ p) (hp1 : p ≤ ξ a 1) (hp2 : z_skp (ξ (a + 1)) (ξ a 1) p = z_skp (ξ (a + 1)) (ξ a 1) i) (hm9 : ξ a 1 - p < (m9 : Int)), q_J mX6_behindBlanks 2 (fun v' w' => v' = (some (q_i (z_skp (ξ (a + 1)) (ξ a 1) i))) ∧ w' = (x_w w ξ B P g)) 0 0 2 [some (.ref a), some (q_i i), some (q_i p)] [] (x_w w ξ B P g) := by
    intro m9
    induction m9 with
    | zero => intro p hp0 hp1 hp2 hm9; exact absurd hm9 (by omega)
    | succ m9 ih2 =>
      intro p hp0 hp1 hp2 hm9
      refine q_iload_n dX6_behindBlanks_2 rfl ?_
      refine q_aload_n dX6_behindBlanks_3 rfl ?_
      refine q_get (v := q_i (ξ a 1)) fX6_39_7 (x_rO hA) rfl dX6_behindBlanks_4 ?_
      refine q_icmp_ge (tgt := 26) dX6_behindBlanks_7 (by decide) ⟨by omega, by omega⟩ ⟨by omega, by omega⟩ (fun h7 => ?_) (fun h7 => ?_)
      · skip
        refine q_iload_n dX6_behindBlanks_26 rfl ?_
        exact q_iret rfl dX6_behindBlanks_27 (⟨by rw [← hp2, z_skp_no (by have e9 : p < ξ a 1 → z_sg (ξ (a + 1)) (ξ a 1) p = ξ (a + 1) p := fun q => if_pos ⟨hp0, q⟩; intro q; have := e9 q.1; omega)], rfl⟩)
      · skip
        refine q_aload_n dX6_behindBlanks_10 rfl ?_
        refine q_iload_n dX6_behindBlanks_11 rfl ?_
        refine q_cS [.ref a, q_i p] kX6_22 (tX6_signAt w ξ B P g a hA (by omega) hb p (⟨by omega, by omega⟩)) dX6_behindBlanks_12 rfl (by decide) (Nat.le_of_ble_eq_true rfl) rfl ?_
        refine q_bipush dX6_behindBlanks_15 ?_
        refine q_icmp_ne (tgt := 26) dX6_behindBlanks_17 (by decide) ⟨by have := z_sg_r hb (ξ a 1) p; omega, by have := z_sg_r hb (ξ a 1) p; omega⟩ ⟨by decide, by decide⟩ (fun h17 => ?_) (fun h17 => ?_)
        · skip
          refine q_iload_n dX6_behindBlanks_26 rfl ?_
          exact q_iret rfl dX6_behindBlanks_27 (⟨by rw [← hp2, z_skp_no (by have e9 : p < ξ a 1 → z_sg (ξ (a + 1)) (ξ a 1) p = ξ (a + 1) p := fun q => if_pos ⟨hp0, q⟩; intro q; have := e9 q.1; omega)], rfl⟩)
        · skip
          refine q_iinc (lv' := [some (.ref a), some (q_i i), some (q_i (p + 1))]) dX6_behindBlanks_20 rfl (by decide) rfl ?_
          refine q_goto (tgt := 2) dX6_behindBlanks_23 (by decide) ?_
          exact q_Jle (q_le_s (rfl) (q_le_s (rfl) (q_le_s (rfl) (q_le_e _)))) (rfl) (rfl) (ih2 (p + 1) (by omega) (by omega) ((z_skp_go (by omega) (by have e9 : z_sg (ξ (a + 1)) (ξ a 1) p = ξ (a + 1) p := if_pos ⟨hp0, by omega⟩; omega)).symm.trans hp2) (by omega))
  exact q_Jle (q_le_s (rfl) (q_le_s (rfl) (q_le_s (rfl) (q_le_e _)))) (rfl) (rfl) (L2 ((ξ a 1 - i : Int).toNat + 1) i (hi0) (hi1) (rfl) (by omega))
set_option maxRecDepth 20000 in
theorem tX6_figureAt (w : q_W) (ξ : m_S) (B P : Nat) (g : Int → Option Nat) (a : Nat) (hA : x_isR a 60) (hL : 0 ≤ ξ a 1 ∧ ξ a 1 ≤ 60) (hb : ∀ j, -128 ≤ ξ (a + 1) j ∧ ξ (a + 1) j ≤ 127) (i x y : Int) (hi : q_r i) (hx : 0 ≤ x ∧ x ≤ 9) (hy : 0 ≤ y ∧ y ≤ 9) : q_D mX6_figureAt 2 [.ref a, q_i i, q_i x, q_i y] (x_w w ξ B P g) (some (q_i (z_fg (ξ (a + 1)) (ξ a 1) i x y))) (x_w w ξ B P g) := by
  refine q_T.of (lv := [some (.ref a), some (q_i i), some (q_i x), some (q_i y), none]) (by decide) rfl (Nat.le_of_ble_eq_true rfl) ?_
  have hsr := z_sg_r hb (ξ a 1) i
  refine q_aload_n dX6_figureAt_0 rfl ?_
  refine q_iload_n dX6_figureAt_1 rfl ?_
  refine q_cS [.ref a, q_i i] kX6_22 (tX6_signAt w ξ B P g a hA (by omega) hb i (hi)) dX6_figureAt_2 rfl (by decide) (Nat.le_of_ble_eq_true rfl) rfl ?_
  refine q_bipush dX6_figureAt_5 ?_
  refine q_isub dX6_figureAt_7 ?_
  refine q_istore (lv' := [some (.ref a), some (q_i i), some (q_i x), some (q_i y), some (q_i ((z_sg (ξ (a + 1)) (ξ a 1) i) - 48))]) dX6_figureAt_8 (by decide) rfl ?_
  refine q_iload dX6_figureAt_10 rfl ?_
  refine q_iload_n dX6_figureAt_12 rfl ?_
  refine q_icmp_lt (tgt := 22) dX6_figureAt_13 (by decide) ⟨by omega, by omega⟩ ⟨by omega, by omega⟩ (fun h13 => ?_) (fun h13 => ?_)
  · skip
    refine q_bipush dX6_figureAt_22 ?_
    refine q_goto (tgt := 29) dX6_figureAt_24 (by decide) ?_
    exact q_iret rfl dX6_figureAt_29 (⟨by (unfold z_fg; (repeat' split) <;> first | rfl | (exfalso; omega)), rfl⟩)
  · skip
    refine q_iload dX6_figureAt_16 rfl ?_
    refine q_iload_n dX6_figureAt_18 rfl ?_
    refine q_icmp_le (tgt := 27) dX6_figureAt_19 (by decide) ⟨by omega, by omega⟩ ⟨by omega, by omega⟩ (fun h19 => ?_) (fun h19 => ?_)
    · skip
      refine q_iload dX6_figureAt_27 rfl ?_
      exact q_iret rfl dX6_figureAt_29 (⟨by (unfold z_fg; (repeat' split) <;> first | rfl | (exfalso; omega)), rfl⟩)
    · skip
      refine q_bipush dX6_figureAt_22 ?_
      refine q_goto (tgt := 29) dX6_figureAt_24 (by decide) ?_
      exact q_iret rfl dX6_figureAt_29 (⟨by (unfold z_fg; (repeat' split) <;> first | rfl | (exfalso; omega)), rfl⟩)
set_option maxRecDepth 20000 in
theorem tX6_kindOf (w : q_W) (ξ : m_S) (B P : Nat) (g : Int → Option Nat) (c : Int) (hc : q_r c) : q_D mX6_kindOf 0 [q_i c] (x_w w ξ B P g) (some (q_i (z_kd c))) (x_w w ξ B P g) := by
  refine q_T.of (lv := [some (q_i c)]) (by decide) rfl (Nat.le_of_ble_eq_true rfl) ?_
  refine q_iload_n dX6_kindOf_0 rfl ?_
  rcases (show c = 97 ∨ c = 98 ∨ c = 99 ∨ c = 100 ∨ c = 101 ∨ c = 102 ∨ c = 103 ∨ c = 104 ∨ c = 105 ∨ c = 106 ∨ c = 107 ∨ c = 108 ∨ c = 109 ∨ c = 110 ∨ c = 111 ∨ c = 112 ∨ (c < 97 ∨ 112 < c) by omega) with hs1 | hs1 | hs1 | hs1 | hs1 | hs1 | hs1 | hs1 | hs1 | hs1 | hs1 | hs1 | hs1 | hs1 | hs1 | hs1 | hs1
  · skip
    refine q_tabIn (tgt := 84) dX6_kindOf_1 hc (by omega) (by omega) (by rw [hs1]; rfl) (by decide) ?_
    refine q_iconst dX6_kindOf_84 ?_
    exact q_iret rfl dX6_kindOf_85 (⟨by (unfold z_kd; (repeat' split) <;> first | rfl | (exfalso; omega)), rfl⟩)
  · skip
    refine q_tabIn (tgt := 86) dX6_kindOf_1 hc (by omega) (by omega) (by rw [hs1]; rfl) (by decide) ?_
    refine q_iconst dX6_kindOf_86 ?_
    exact q_iret rfl dX6_kindOf_87 (⟨by (unfold z_kd; (repeat' split) <;> first | rfl | (exfalso; omega)), rfl⟩)
  · skip
    refine q_tabIn (tgt := 92) dX6_kindOf_1 hc (by omega) (by omega) (by rw [hs1]; rfl) (by decide) ?_
    refine q_bipush dX6_kindOf_92 ?_
    exact q_iret rfl dX6_kindOf_94 (⟨by (unfold z_kd; (repeat' split) <;> first | rfl | (exfalso; omega)), rfl⟩)
  · skip
    refine q_tabIn (tgt := 92) dX6_kindOf_1 hc (by omega) (by omega) (by rw [hs1]; rfl) (by decide) ?_
    refine q_bipush dX6_kindOf_92 ?_
    exact q_iret rfl dX6_kindOf_94 (⟨by (unfold z_kd; (repeat' split) <;> first | rfl | (exfalso; omega)), rfl⟩)
  · skip
    refine q_tabIn (tgt := 82) dX6_kindOf_1 hc (by omega) (by omega) (by rw [hs1]; rfl) (by decide) ?_
    refine q_iconst dX6_kindOf_82 ?_
    exact q_iret rfl dX6_kindOf_83 (⟨by (unfold z_kd; (repeat' split) <;> first | rfl | (exfalso; omega)), rfl⟩)
  · skip
    refine q_tabIn (tgt := 92) dX6_kindOf_1 hc (by omega) (by omega) (by rw [hs1]; rfl) (by decide) ?_
    refine q_bipush dX6_kindOf_92 ?_
    exact q_iret rfl dX6_kindOf_94 (⟨by (unfold z_kd; (repeat' split) <;> first | rfl | (exfalso; omega)), rfl⟩)
  · skip
    refine q_tabIn (tgt := 92) dX6_kindOf_1 hc (by omega) (by omega) (by rw [hs1]; rfl) (by decide) ?_
    refine q_bipush dX6_kindOf_92 ?_
    exact q_iret rfl dX6_kindOf_94 (⟨by (unfold z_kd; (repeat' split) <;> first | rfl | (exfalso; omega)), rfl⟩)
  · skip
    refine q_tabIn (tgt := 92) dX6_kindOf_1 hc (by omega) (by omega) (by rw [hs1]; rfl) (by decide) ?_
    refine q_bipush dX6_kindOf_92 ?_
    exact q_iret rfl dX6_kindOf_94 (⟨by (unfold z_kd; (repeat' split) <;> first | rfl | (exfalso; omega)), rfl⟩)
  · skip
    refine q_tabIn (tgt := 92) dX6_kindOf_1 hc (by omega) (by omega) (by rw [hs1]; rfl) (by decide) ?_
    refine q_bipush dX6_kindOf_92 ?_
    exact q_iret rfl dX6_kindOf_94 (⟨by (unfold z_kd; (repeat' split) <;> first | rfl | (exfalso; omega)), rfl⟩)
  · skip
    refine q_tabIn (tgt := 92) dX6_kindOf_1 hc (by omega) (by omega) (by rw [hs1]; rfl) (by decide) ?_
    refine q_bipush dX6_kindOf_92 ?_
    exact q_iret rfl dX6_kindOf_94 (⟨by (unfold z_kd; (repeat' split) <;> first | rfl | (exfalso; omega)), rfl⟩)
  · skip
    refine q_tabIn (tgt := 92) dX6_kindOf_1 hc (by omega) (by omega) (by rw [hs1]; rfl) (by decide) ?_
    refine q_bipush dX6_kindOf_92 ?_
    exact q_iret rfl dX6_kindOf_94 (⟨by (unfold z_kd; (repeat' split) <;> first | rfl | (exfalso; omega)), rfl⟩)
  · skip
    refine q_tabIn (tgt := 90) dX6_kindOf_1 hc (by omega) (by omega) (by rw [hs1]; rfl) (by decide) ?_
    refine q_iconst dX6_kindOf_90 ?_
    exact q_iret rfl dX6_kindOf_91 (⟨by (unfold z_kd; (repeat' split) <;> first | rfl | (exfalso; omega)), rfl⟩)
  · skip
    refine q_tabIn (tgt := 92) dX6_kindOf_1 hc (by omega) (by omega) (by rw [hs1]; rfl) (by decide) ?_
    refine q_bipush dX6_kindOf_92 ?_
    exact q_iret rfl dX6_kindOf_94 (⟨by (unfold z_kd; (repeat' split) <;> first | rfl | (exfalso; omega)), rfl⟩)
  · skip
    refine q_tabIn (tgt := 92) dX6_kindOf_1 hc (by omega) (by omega) (by rw [hs1]; rfl) (by decide) ?_
    refine q_bipush dX6_kindOf_92 ?_
    exact q_iret rfl dX6_kindOf_94 (⟨by (unfold z_kd; (repeat' split) <;> first | rfl | (exfalso; omega)), rfl⟩)
  · skip
    refine q_tabIn (tgt := 88) dX6_kindOf_1 hc (by omega) (by omega) (by rw [hs1]; rfl) (by decide) ?_
    refine q_iconst dX6_kindOf_88 ?_
    exact q_iret rfl dX6_kindOf_89 (⟨by (unfold z_kd; (repeat' split) <;> first | rfl | (exfalso; omega)), rfl⟩)
  · skip
    refine q_tabIn (tgt := 80) dX6_kindOf_1 hc (by omega) (by omega) (by rw [hs1]; rfl) (by decide) ?_
    refine q_iconst dX6_kindOf_80 ?_
    exact q_iret rfl dX6_kindOf_81 (⟨by (unfold z_kd; (repeat' split) <;> first | rfl | (exfalso; omega)), rfl⟩)
  · skip
    refine q_tabOut (tgt := 92) dX6_kindOf_1 hc hs1 (by decide) ?_
    refine q_bipush dX6_kindOf_92 ?_
    exact q_iret rfl dX6_kindOf_94 (⟨by (unfold z_kd; (repeat' split) <;> first | rfl | (exfalso; omega)), rfl⟩)
