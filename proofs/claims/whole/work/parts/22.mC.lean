/-! the reference: weights, persons -/
theorem z_ei_r (N f u : Int) : 0 ≤ z_ei N f u ∧ z_ei N f u ≤ 2 := by
  unfold z_ei
  (repeat' split) <;> omega
theorem z_ww_r (k f W N w u : Int) : 0 ≤ z_ww k f W N w u ∧ z_ww k f W N w u ≤ 2 := by
  have h := z_ei_r N f u
  unfold z_ww
  (repeat' split) <;> omega
theorem z_ww_1 {k f W N w u : Int} (h1 : w < W - 2 ∨ (w < W - 1 ∧ k ≠ 4)) : z_ww k f W N w u ≤ 1 := by
  unfold z_ww
  (repeat' split) <;> omega
theorem z_mul2 {a b A B : Int} (ha : 0 ≤ a ∧ a ≤ A) (hb : 0 ≤ b ∧ b ≤ B) : 0 ≤ a * b ∧ a * b ≤ A * B := ⟨Int.mul_nonneg ha.1 hb.1, Int.mul_le_mul ha.2 hb.2 hb.1 (by omega)⟩
theorem z_ways_r {k f W N : Int} (c s : Int) (hW : 1 ≤ W ∧ W ≤ 3) : 0 ≤ z_ways k f W N c s ∧ z_ways k f W N c s ≤ 4 := by
  unfold z_ways
  split
  · omega
  · split
    · unfold z_aw
      split <;> omega
    · rcases (show W = 1 ∨ W = 2 ∨ W = 3 by omega) with rfl | rfl | rfl
      · rw [show (1 : Int) = 0 + 1 by decide, z_prod_s _ (by decide), z_prod_0]
        have h := z_ww_r k f (0 + 1) N 0 (z_up (0 + 1) N 0 c s)
        omega
      · rw [show (2 : Int) = 0 + 1 + 1 by decide, z_prod_s _ (by decide), z_prod_s _ (by decide), z_prod_0, Int.one_mul]
        have h0 := z_ww_r k f (0 + 1 + 1) N 0 (z_up (0 + 1 + 1) N 0 c s)
        have h1 := z_ww_r k f (0 + 1 + 1) N (0 + 1) (z_up (0 + 1 + 1) N (0 + 1) c s)
        exact z_mul2 h0 h1
      · rw [show (3 : Int) = 0 + 1 + 1 + 1 by decide, z_prod_s _ (by decide), z_prod_s _ (by decide), z_prod_s _ (by decide), z_prod_0, Int.one_mul]
        have h0 := z_ww_r k f (0 + 1 + 1 + 1) N 0 (z_up (0 + 1 + 1 + 1) N 0 c s)
        have g0 := z_ww_1 (k := k) (f := f) (W := 0 + 1 + 1 + 1) (N := N) (w := 0) (u := z_up (0 + 1 + 1 + 1) N 0 c s) (Or.inl (by decide))
        have h1 := z_ww_r k f (0 + 1 + 1 + 1) N (0 + 1) (z_up (0 + 1 + 1 + 1) N (0 + 1) c s)
        have h2 := z_ww_r k f (0 + 1 + 1 + 1) N (0 + 1 + 1) (z_up (0 + 1 + 1 + 1) N (0 + 1 + 1) c s)
        exact z_mul2 (z_mul2 ⟨h0.1, g0⟩ h1) h2
theorem z_in_r {k f W S : Int} (hf : 1 ≤ f ∧ f ≤ 3) (hW : 1 ≤ W ∧ W ≤ 3) (hS : 4 ≤ S ∧ S ≤ 216) : 1 ≤ z_in k f W S ∧ z_in k f W S ≤ 216 := by
  rcases (show f = 1 ∨ f = 2 ∨ f = 3 by omega) with rfl | rfl | rfl <;> rcases (show W = 1 ∨ W = 2 ∨ W = 3 by omega) with rfl | rfl | rfl <;> (unfold z_in z_two; (repeat' split) <;> first | omega | decide)
/-- a weight behind one deed more: a look at who, or (who below 0) a try -/
def z_w1 (kd fl : Int → Int) (W N x who what c : Int) : Int := if who < 0 then (if c = what then 0 else x) else x * z_ways (kd who) (fl who) W N c what
def z_wk (kd fl : Int → Int) (W N : Int) (dw dv : Int → Int) (c : Int) : Nat → Int
  | 0 => 1
  | k + 1 => z_w1 kd fl W N (z_wk kd fl W N dw dv c k) (dw k) (dv k) c
def z_wt (kd fl : Int → Int) (W N : Int) (dw dv : Int → Int) (c k : Int) : Int := z_wk kd fl W N dw dv c k.toNat
theorem z_wt_0 (kd fl : Int → Int) (W N : Int) (dw dv : Int → Int) (c : Int) : z_wt kd fl W N dw dv c 0 = 1 := rfl
theorem z_wt_s (kd fl : Int → Int) (W N : Int) (dw dv : Int → Int) (c : Int) {k : Int} (h : 0 ≤ k) : z_wt kd fl W N dw dv c (k + 1) = z_w1 kd fl W N (z_wt kd fl W N dw dv c k) (dw k) (dv k) c := by
  unfold z_wt
  rw [show (k + 1).toNat = k.toNat + 1 by omega]
  show z_w1 kd fl W N _ (dw (k.toNat : Int)) (dv (k.toNat : Int)) c = _
  rw [show (k.toNat : Int) = k by omega]
theorem z_w1_r {kd fl : Int → Int} {W N x B : Int} (who what c : Int) (hW : 1 ≤ W ∧ W ≤ 3) (hx : 0 ≤ x ∧ x ≤ B) : 0 ≤ z_w1 kd fl W N x who what c ∧ z_w1 kd fl W N x who what c ≤ B * 4 := by
  unfold z_w1
  split
  · split <;> omega
  · exact z_mul2 hx (z_ways_r c what hW)
theorem z_wk_r {kd fl : Int → Int} {W N : Int} {dw dv : Int → Int} (c : Int) (hW : 1 ≤ W ∧ W ≤ 3) : ∀ k : Nat, 0 ≤ z_wk kd fl W N dw dv c k ∧ z_wk kd fl W N dw dv c k ≤ z_p (fun _ => 4) k
  | 0 => ⟨Int.zero_le_ofNat 1, Int.le_refl _⟩
  | k + 1 => z_w1_r _ _ _ hW (z_wk_r c hW k)
theorem z_p4 : ∀ k : Nat, k ≤ 16 → z_p (fun _ => 4) k ≤ 4294967296 := by decide
theorem z_wt_r {kd fl : Int → Int} {W N : Int} {dw dv : Int → Int} (c : Int) {k : Int} (hW : 1 ≤ W ∧ W ≤ 3) (hk : k ≤ 16) : 0 ≤ z_wt kd fl W N dw dv c k ∧ z_wt kd fl W N dw dv c k ≤ 4294967296 := by
  have h := z_wk_r (kd := kd) (fl := fl) (N := N) (dw := dw) (dv := dv) c hW k.toNat
  have h2 := z_p4 k.toNat (by omega)
  exact ⟨h.1, Int.le_trans h.2 h2⟩
/-- the weights lie as numbers that a long holds, with room -/
def m_V (μ : m_S) : Prop := (0 ≤ μ 3 0 ∧ μ 3 0 ≤ 216) ∧ ∀ c, 0 ≤ c → c < μ 3 0 → 0 ≤ μ 6 c ∧ μ 6 c ≤ 4294967296
def m_fl (μ : m_S) : Int → Int := fun p => μ 0 (1 + p)
def m_dw (μ : m_S) : Int → Int := fun d => μ 0 (6 + d)
def m_dv (μ : m_S) : Int → Int := fun d => μ 0 (22 + d)
/-- deeds: how many, whose, what -/
def m_De (μ : m_S) : Prop := (0 ≤ μ 0 0 ∧ μ 0 0 ≤ 16) ∧ ∀ d, 0 ≤ d → d < μ 0 0 → (μ 0 (6 + d) = -9 ∨ (0 ≤ μ 0 (6 + d) ∧ μ 0 (6 + d) < μ 4 0)) ∧ 0 ≤ μ 0 (22 + d) ∧ μ 0 (22 + d) < μ 3 0
set_option maxRecDepth 20000 in
theorem tX12_twoAtMost (w : q_W) (μ : m_S) (hG : m_G μ) : q_D mX12_twoAtMost 0 [.ref 64] (m_w w μ) (some (q_i (z_two (μ 1 0)))) (m_w w μ) := by
  refine q_T.of (lv := [some (.ref 64)]) (by decide) rfl (Nat.le_of_ble_eq_true rfl) ?_
  have hW := hG.1
  have hN := hG.2.1
  have hS := hG.S
  have hPn := hG.2.2.2.1
  refine q_aload_n dX12_twoAtMost_0 rfl ?_
  refine q_get (v := q_i (μ 1 0)) fX12_130_12 rfl rfl dX12_twoAtMost_1 ?_
  refine q_iconst dX12_twoAtMost_4 ?_
  refine q_icmp_ge (tgt := 15) dX12_twoAtMost_5 (by decide) ⟨by omega, by omega⟩ ⟨by decide, by decide⟩ (fun h5 => ?_) (fun h5 => ?_)
  · skip
    refine q_iconst dX12_twoAtMost_15 ?_
    exact q_iret rfl dX12_twoAtMost_16 (⟨by (unfold z_two; (repeat' split) <;> first | rfl | (exfalso; omega)), rfl⟩)
  · skip
    refine q_aload_n dX12_twoAtMost_8 rfl ?_
    refine q_get (v := q_i (μ 1 0)) fX12_130_12 rfl rfl dX12_twoAtMost_9 ?_
    refine q_goto (tgt := 16) dX12_twoAtMost_12 (by decide) ?_
    exact q_iret rfl dX12_twoAtMost_16 (⟨by (unfold z_two; (repeat' split) <;> first | rfl | (exfalso; omega)), rfl⟩)
set_option maxRecDepth 20000 in
theorem tX12_waysInAll (w : q_W) (μ : m_S) (p : Int) (hp0 : 0 ≤ p) (hp1 : p < μ 4 0) (hG : m_G μ) : q_D mX12_waysInAll 1 [.ref 64, q_i p] (m_w w μ) (some (q_i (z_in (μ 5 p) (μ 0 (1 + p)) (μ 1 0) (μ 3 0)))) (m_w w μ) := by
  refine q_T.of (lv := [some (.ref 64), some (q_i p), none]) (by decide) rfl (Nat.le_of_ble_eq_true rfl) ?_
  have hW := hG.1
  have hN := hG.2.1
  have hS := hG.S
  have hPn := hG.2.2.2.1
  have hq := hG.2.2.2.2 p hp0 hp1
  refine q_aload_n dX12_waysInAll_0 rfl ?_
  refine q_iload_n dX12_waysInAll_1 rfl ?_
  refine q_cV [q_i p] kX12_151_12 rfl (tX12_flicksOf w μ p (by omega) (by omega)) dX12_waysInAll_2 rfl (by decide) (Nat.le_of_ble_eq_true rfl) rfl ?_
  refine q_istore_n (lv' := [some (.ref 64), some (q_i p), some (q_i ((μ 0) (1 + p)))]) dX12_waysInAll_5 (by decide) rfl ?_
  refine q_aload_n dX12_waysInAll_6 rfl ?_
  refine q_get (v := .ref 66) fX12_13_12 rfl rfl dX12_waysInAll_7 ?_
  refine q_iload_n dX12_waysInAll_10 rfl ?_
  refine q_iald (f := (μ 5)) (n9 := 5) rfl (by omega) (by omega) dX12_waysInAll_11 ?_
  rcases (show ((μ 5) p) = 1 ∨ ((μ 5) p) = 2 ∨ ((μ 5) p) = 3 ∨ ((μ 5) p) = 4 ∨ ((μ 5) p) = 5 ∨ (((μ 5) p) < 1 ∨ 5 < ((μ 5) p)) by omega) with hs12 | hs12 | hs12 | hs12 | hs12 | hs12
  · skip
    refine q_tabIn (tgt := 48) dX12_waysInAll_12 ⟨by omega, by omega⟩ (by omega) (by omega) (by rw [hs12]; rfl) (by decide) ?_
    refine q_iconst dX12_waysInAll_48 ?_
    refine q_iload_n dX12_waysInAll_49 rfl ?_
    refine q_imul dX12_waysInAll_50 ?_
    exact q_iret rfl dX12_waysInAll_51 (⟨by (unfold z_in; (repeat' split) <;> first | rfl | (exfalso; omega)), rfl⟩)
  · skip
    refine q_tabIn (tgt := 52) dX12_waysInAll_12 ⟨by omega, by omega⟩ (by omega) (by omega) (by rw [hs12]; rfl) (by decide) ?_
    refine q_aload_n dX12_waysInAll_52 rfl ?_
    refine q_get (v := q_i (μ 1 0)) fX12_130_12 rfl rfl dX12_waysInAll_53 ?_
    refine q_iload_n dX12_waysInAll_56 rfl ?_
    refine q_imul dX12_waysInAll_57 ?_
    exact q_iret rfl dX12_waysInAll_58 (⟨by (unfold z_in; (repeat' split) <;> first | rfl | (exfalso; omega)), rfl⟩)
  · skip
    refine q_tabIn (tgt := 59) dX12_waysInAll_12 ⟨by omega, by omega⟩ (by omega) (by omega) (by rw [hs12]; rfl) (by decide) ?_
    refine q_aload_n dX12_waysInAll_59 rfl ?_
    refine q_get (v := q_i (μ 3 0)) fX12_139_12 rfl rfl dX12_waysInAll_60 ?_
    exact q_iret rfl dX12_waysInAll_63 (⟨by (unfold z_in; (repeat' split) <;> first | rfl | (exfalso; omega)), rfl⟩)
  · skip
    refine q_tabIn (tgt := 64) dX12_waysInAll_12 ⟨by omega, by omega⟩ (by omega) (by omega) (by rw [hs12]; rfl) (by decide) ?_
    refine q_iconst dX12_waysInAll_64 ?_
    refine q_iload_n dX12_waysInAll_65 rfl ?_
    refine q_imul dX12_waysInAll_66 ?_
    refine q_aload_n dX12_waysInAll_67 rfl ?_
    refine q_cV [] kX12_167_12 rfl (tX12_twoAtMost w μ hG) dX12_waysInAll_68 rfl (by decide) (Nat.le_of_ble_eq_true rfl) rfl ?_
    have h2r : 0 ≤ z_two (μ 1 0) ∧ z_two (μ 1 0) ≤ 2 := by unfold z_two; split <;> omega
    refine q_cS [q_i (2 * ((μ 0) (1 + p))), q_i (z_two (μ 1 0))] kX12_136 (tX12_power (m_w w μ) (2 * ((μ 0) (1 + p))) (z_two (μ 1 0)) ⟨by omega, by omega⟩ (by omega)) dX12_waysInAll_71 rfl (by decide) (Nat.le_of_ble_eq_true rfl) rfl ?_
    exact q_iret rfl dX12_waysInAll_74 (⟨by (unfold z_in; (repeat' split) <;> first | rfl | (exfalso; omega)), rfl⟩)
  · skip
    refine q_tabIn (tgt := 75) dX12_waysInAll_12 ⟨by omega, by omega⟩ (by omega) (by omega) (by rw [hs12]; rfl) (by decide) ?_
    refine q_iload_n dX12_waysInAll_75 rfl ?_
    refine q_iconst dX12_waysInAll_76 ?_
    refine q_iadd dX12_waysInAll_77 ?_
    refine q_aload_n dX12_waysInAll_78 rfl ?_
    refine q_get (v := q_i (μ 1 0)) fX12_130_12 rfl rfl dX12_waysInAll_79 ?_
    refine q_cS [q_i (((μ 0) (1 + p)) + 1), q_i (μ 1 0)] kX12_136 (tX12_power (m_w w μ) (((μ 0) (1 + p)) + 1) (μ 1 0) ⟨by omega, by omega⟩ (by omega)) dX12_waysInAll_82 rfl (by decide) (Nat.le_of_ble_eq_true rfl) rfl ?_
    exact q_iret rfl dX12_waysInAll_85 (⟨by (unfold z_in; (repeat' split) <;> first | rfl | (exfalso; omega)), rfl⟩)
  · skip
    refine q_tabOut (tgt := 86) dX12_waysInAll_12 ⟨by omega, by omega⟩ hs12 (by decide) ?_
    refine q_iload_n dX12_waysInAll_86 rfl ?_
    exact q_iret rfl dX12_waysInAll_87 (⟨by (unfold z_in; (repeat' split) <;> first | rfl | (exfalso; omega)), rfl⟩)
set_option maxRecDepth 20000 in
theorem tX12_isPerson (w : q_W) (μ : m_S) (r : Int) (hr : q_r r) (h0 : 0 ≤ μ 4 0) (h1 : μ 4 0 ≤ 216) : q_D mX12_isPerson 1 [.ref 64, q_i r] (m_w w μ) (some (q_b (0 ≤ r ∧ r ≤ μ 4 0 - 1))) (m_w w μ) := by
  refine q_T.of (lv := [some (.ref 64), some (q_i r)]) (by decide) rfl (Nat.le_of_ble_eq_true rfl) ?_
  refine q_iload_n dX12_isPerson_0 rfl ?_
  refine q_i2lr dX12_isPerson_1 hr ?_
  refine q_lconst 0 dX12_isPerson_2 ?_
  refine q_aload_n dX12_isPerson_3 rfl ?_
  refine q_get (v := q_i (μ 4 0)) fX12_142_12 rfl rfl dX12_isPerson_4 ?_
  refine q_iconst dX12_isPerson_7 ?_
  refine q_isub dX12_isPerson_8 ?_
  refine q_i2lr dX12_isPerson_9 ⟨by omega, by omega⟩ ?_
  refine q_cS [q_l r, q_l 0, q_l ((μ 4 0) - 1)] kX12_57 (tX12_in r 0 ((μ 4 0) - 1) (⟨by have := (hr).1; omega, by have := (hr).2; omega⟩) (⟨by decide, by decide⟩) (⟨by omega, by omega⟩) (m_w w μ)) dX12_isPerson_10 rfl (by decide) (Nat.le_of_ble_eq_true rfl) rfl ?_
  exact q_zret rfl (by split <;> simp) dX12_isPerson_13 (⟨rfl, rfl⟩)
set_option maxRecDepth 20000 in
theorem tX12_isSetting (w : q_W) (μ : m_S) (r : Int) (hr : q_r r) (h0 : 0 ≤ μ 3 0) (h1 : μ 3 0 ≤ 216) : q_D mX12_isSetting 1 [.ref 64, q_i r] (m_w w μ) (some (q_b (0 ≤ r ∧ r ≤ μ 3 0 - 1))) (m_w w μ) := by
  refine q_T.of (lv := [some (.ref 64), some (q_i r)]) (by decide) rfl (Nat.le_of_ble_eq_true rfl) ?_
  refine q_iload_n dX12_isSetting_0 rfl ?_
  refine q_i2lr dX12_isSetting_1 hr ?_
  refine q_lconst 0 dX12_isSetting_2 ?_
  refine q_aload_n dX12_isSetting_3 rfl ?_
  refine q_get (v := q_i (μ 3 0)) fX12_139_12 rfl rfl dX12_isSetting_4 ?_
  refine q_iconst dX12_isSetting_7 ?_
  refine q_isub dX12_isSetting_8 ?_
  refine q_i2lr dX12_isSetting_9 ⟨by omega, by omega⟩ ?_
  refine q_cS [q_l r, q_l 0, q_l ((μ 3 0) - 1)] kX12_57 (tX12_in r 0 ((μ 3 0) - 1) (⟨by have := (hr).1; omega, by have := (hr).2; omega⟩) (⟨by decide, by decide⟩) (⟨by omega, by omega⟩) (m_w w μ)) dX12_isSetting_10 rfl (by decide) (Nat.le_of_ble_eq_true rfl) rfl ?_
  exact q_zret rfl (by split <;> simp) dX12_isSetting_13 (⟨rfl, rfl⟩)
set_option maxRecDepth 20000 in
theorem tX12_weightBy (w : q_W) (μ : m_S) (x o t c : Int) (ho : o = -9 ∨ (0 ≤ o ∧ o < μ 4 0)) (ht0 : 0 ≤ t) (ht1 : t < μ 3 0) (hc0 : 0 ≤ c) (hc1 : c < μ 3 0) (hG : m_G μ) : q_D mX12_weightBy 5 [.ref 64, q_l x, q_i o, q_i t, q_i c] (m_w w μ) (some (q_l (z_w1 (μ 5) (m_fl μ) (μ 1 0) (μ 2 0) x o t c))) (m_w w μ) := by
  refine q_T.of (lv := [some (.ref 64), some (q_l x), none, some (q_i o), some (q_i t), some (q_i c)]) (by decide) rfl (Nat.le_of_ble_eq_true rfl) ?_
  have hW := hG.1
  have hN := hG.2.1
  have hS := hG.S
  have hPn := hG.2.2.2.1
  refine q_iload_n dX12_weightBy_0 rfl ?_
  refine q_bipush dX12_weightBy_1 ?_
  refine q_icmp_ne (tgt := 21) dX12_weightBy_3 (by decide) ⟨by omega, by omega⟩ ⟨by decide, by decide⟩ (fun h3 => ?_) (fun h3 => ?_)
  · skip
    refine q_lload_n dX12_weightBy_21 rfl ?_
    refine q_aload_n dX12_weightBy_22 rfl ?_
    refine q_iload_n dX12_weightBy_23 rfl ?_
    refine q_iload dX12_weightBy_24 rfl ?_
    refine q_iload dX12_weightBy_26 rfl ?_
    refine q_cV [q_i o, q_i c, q_i t] kX12_170_12 rfl (tX12_waysOf w μ o c t (by omega) (by omega) (by omega) (by omega) (by omega) (by omega) hG) dX12_weightBy_28 rfl (by decide) (Nat.le_of_ble_eq_true rfl) rfl ?_
    refine q_i2lr dX12_weightBy_31 ⟨by have := z_ways_r (k := μ 5 o) (f := μ 0 (1 + o)) (N := μ 2 0) c t hW; omega, by have := z_ways_r (k := μ 5 o) (f := μ 0 (1 + o)) (N := μ 2 0) c t hW; omega⟩ ?_
    refine q_lmul dX12_weightBy_32 ?_
    exact q_lret rfl dX12_weightBy_33 (⟨by (unfold z_w1; (repeat' split) <;> first | rfl | (exfalso; omega)), rfl⟩)
  · skip
    refine q_iload dX12_weightBy_6 rfl ?_
    refine q_iload dX12_weightBy_8 rfl ?_
    refine q_icmp_ne (tgt := 17) dX12_weightBy_10 (by decide) ⟨by omega, by omega⟩ ⟨by omega, by omega⟩ (fun h10 => ?_) (fun h10 => ?_)
    · skip
      refine q_lload_n dX12_weightBy_17 rfl ?_
      refine q_goto (tgt := 33) dX12_weightBy_18 (by decide) ?_
      exact q_lret rfl dX12_weightBy_33 (⟨by (unfold z_w1; (repeat' split) <;> first | rfl | (exfalso; omega)), rfl⟩)
    · skip
      refine q_lconst 0 dX12_weightBy_13 ?_
      refine q_goto (tgt := 33) dX12_weightBy_14 (by decide) ?_
      exact q_lret rfl dX12_weightBy_33 (⟨by (unfold z_w1; (repeat' split) <;> first | rfl | (exfalso; omega)), rfl⟩)
set_option maxRecDepth 20000 in
theorem tX12_possible (w : q_W) (μ : m_S) (hV : m_V μ) : q_D mX12_possible 0 [.ref 64] (m_w w μ) (some (q_i (z_sum (fun c => if 0 < μ 6 c then 1 else 0) (μ 3 0)))) (m_w w μ) := by
  refine q_T.of (lv := [some (.ref 64), none, none]) (by decide) rfl (Nat.le_of_ble_eq_true rfl) ?_
  have hS := hV.1
  refine q_iconst dX12_possible_0 ?_
  refine q_istore_n (lv' := [some (.ref 64), some (q_i 0), none]) dX12_possible_1 (by decide) rfl ?_
  refine q_iconst dX12_possible_2 ?_
  refine q_istore_n (lv' := [some (.ref 64), some (q_i 0), some (q_i 0)]) dX12_possible_3 (by decide) rfl ?_
  have L4 : ∀ (m9 : Nat) (k : Int) (hk0 : 0 ≤ k) (hk1 : k ≤ μ 3 0) (hm9 : μ 3 0 - k < (m9 : Int)), q_J mX12_possible 0 (fun v' w' => v' = (some (q_i (z_sum (fun c => if 0 < μ 6 c then 1 else 0) (μ 3 0)))) ∧ w' = (m_w w μ)) 0 0 4 [some (.ref 64), some (q_i (z_sum (fun c => if 0 < μ 6 c then 1 else 0) k)), some (q_i k)] [] (m_w w μ) := by
    intro m9
    induction m9 with
    | zero => intro k hk0 hk1 hm9; exact absurd hm9 (by omega)
    | succ m9 ih4 =>
      intro k hk0 hk1 hm9
      refine q_iload_n dX12_possible_4 rfl ?_
      refine q_aload_n dX12_possible_5 rfl ?_
      refine q_get (v := q_i (μ 3 0)) fX12_139_12 rfl rfl dX12_possible_6 ?_
      refine q_icmp_ge (tgt := 37) dX12_possible_9 (by decide) ⟨by omega, by omega⟩ ⟨by omega, by omega⟩ (fun h9 => ?_) (fun h9 => ?_)
      · skip
        refine q_iload_n dX12_possible_37 rfl ?_
        exact q_iret rfl dX12_possible_38 (⟨by rw [show k = μ 3 0 by omega], rfl⟩)
      · skip
        refine q_iload_n dX12_possible_12 rfl ?_
        refine q_aload_n dX12_possible_13 rfl ?_
        refine q_get (v := .ref 67) fX12_16_12 rfl rfl dX12_possible_14 ?_
        refine q_iload_n dX12_possible_17 rfl ?_
        refine q_lald (f := (μ 6)) (n9 := 216) rfl (by omega) (by omega) dX12_possible_18 ?_
        refine q_lconst 0 dX12_possible_19 ?_
        refine q_lcmp_le (tgt := 28) dX12_possible_20 dX12_possible_21 (by decide) ⟨by have := hV.2 k (by omega) (by omega); omega, by have := hV.2 k (by omega) (by omega); omega⟩ ⟨by decide, by decide⟩ (fun h20 => ?_) (fun h20 => ?_)
        · skip
          refine q_iconst dX12_possible_28 ?_
          refine q_iadd dX12_possible_29 ?_
          refine q_istore_n (lv' := [some (.ref 64), some (q_i ((z_sum (fun c => if 0 < μ 6 c then 1 else 0) k) + 0)), some (q_i k)]) dX12_possible_30 (by decide) rfl ?_
          refine q_iinc (lv' := [some (.ref 64), some (q_i ((z_sum (fun c => if 0 < μ 6 c then 1 else 0) k) + 0)), some (q_i (k + 1))]) dX12_possible_31 rfl (by decide) rfl ?_
          refine q_goto (tgt := 4) dX12_possible_34 (by decide) ?_
          exact q_Jle (q_le_s (rfl) (q_le_s (by rw [z_sum_s _ hk0]; (try dsimp only); (repeat' split) <;> first | rfl | (exfalso; omega)) (q_le_s (rfl) (q_le_e _)))) (rfl) (rfl) (ih4 (k + 1) (by omega) (by omega) (by omega))
        · skip
          refine q_iconst dX12_possible_24 ?_
          refine q_goto (tgt := 29) dX12_possible_25 (by decide) ?_
          refine q_iadd dX12_possible_29 ?_
          refine q_istore_n (lv' := [some (.ref 64), some (q_i ((z_sum (fun c => if 0 < μ 6 c then 1 else 0) k) + 1)), some (q_i k)]) dX12_possible_30 (by decide) rfl ?_
          refine q_iinc (lv' := [some (.ref 64), some (q_i ((z_sum (fun c => if 0 < μ 6 c then 1 else 0) k) + 1)), some (q_i (k + 1))]) dX12_possible_31 rfl (by decide) rfl ?_
          refine q_goto (tgt := 4) dX12_possible_34 (by decide) ?_
          exact q_Jle (q_le_s (rfl) (q_le_s (by rw [z_sum_s _ hk0]; (try dsimp only); (repeat' split) <;> first | rfl | (exfalso; omega)) (q_le_s (rfl) (q_le_e _)))) (rfl) (rfl) (ih4 (k + 1) (by omega) (by omega) (by omega))
  exact q_Jle (q_le_s (rfl) (q_le_s (rfl) (q_le_s (rfl) (q_le_e _)))) (rfl) (rfl) (L4 ((μ 3 0 : Int).toNat + 1) 0 (by omega) (by omega) (by omega))
set_option maxRecDepth 20000 in
theorem tX12_allWeights (w : q_W) (μ : m_S) (hV : m_V μ) : q_D mX12_allWeights 0 [.ref 64] (m_w w μ) (some (q_l (z_sum (μ 6) (μ 3 0)))) (m_w w μ) := by
  refine q_T.of (lv := [some (.ref 64), none, none, none]) (by decide) rfl (Nat.le_of_ble_eq_true rfl) ?_
  have hS := hV.1
  refine q_lconst 0 dX12_allWeights_0 ?_
  refine q_lstore_n (lv' := [some (.ref 64), some (q_l 0), none, none]) dX12_allWeights_1 (by decide) rfl ?_
  refine q_iconst dX12_allWeights_2 ?_
  refine q_istore_n (lv' := [some (.ref 64), some (q_l 0), none, some (q_i 0)]) dX12_allWeights_3 (by decide) rfl ?_
  have L4 : ∀ (m9 : Nat) (k : Int) (hk0 : 0 ≤ k) (hk1 : k ≤ μ 3 0) (hm9 : μ 3 0 - k < (m9 : Int)), q_J mX12_allWeights 0 (fun v' w' => v' = (some (q_l (z_sum (μ 6) (μ 3 0)))) ∧ w' = (m_w w μ)) 0 0 4 [some (.ref 64), some (q_l (z_sum (μ 6) k)), none, some (q_i k)] [] (m_w w μ) := by
    intro m9
    induction m9 with
    | zero => intro k hk0 hk1 hm9; exact absurd hm9 (by omega)
    | succ m9 ih4 =>
      intro k hk0 hk1 hm9
      refine q_iload_n dX12_allWeights_4 rfl ?_
      refine q_aload_n dX12_allWeights_5 rfl ?_
      refine q_get (v := q_i (μ 3 0)) fX12_139_12 rfl rfl dX12_allWeights_6 ?_
      refine q_icmp_ge (tgt := 27) dX12_allWeights_9 (by decide) ⟨by omega, by omega⟩ ⟨by omega, by omega⟩ (fun h9 => ?_) (fun h9 => ?_)
      · skip
        refine q_lload_n dX12_allWeights_27 rfl ?_
        exact q_lret rfl dX12_allWeights_28 (⟨by rw [show k = μ 3 0 by omega], rfl⟩)
      · skip
        refine q_lload_n dX12_allWeights_12 rfl ?_
        refine q_aload_n dX12_allWeights_13 rfl ?_
        refine q_get (v := .ref 67) fX12_16_12 rfl rfl dX12_allWeights_14 ?_
        refine q_iload_n dX12_allWeights_17 rfl ?_
        refine q_lald (f := (μ 6)) (n9 := 216) rfl (by omega) (by omega) dX12_allWeights_18 ?_
        refine q_ladd dX12_allWeights_19 ?_
        refine q_lstore_n (lv' := [some (.ref 64), some (q_l ((z_sum (μ 6) k) + ((μ 6) k))), none, some (q_i k)]) dX12_allWeights_20 (by decide) rfl ?_
        refine q_iinc (lv' := [some (.ref 64), some (q_l ((z_sum (μ 6) k) + ((μ 6) k))), none, some (q_i (k + 1))]) dX12_allWeights_21 rfl (by decide) rfl ?_
        refine q_goto (tgt := 4) dX12_allWeights_24 (by decide) ?_
        exact q_Jle (q_le_s (rfl) (q_le_s (by rw [z_sum_s _ hk0]) (q_le_n (q_le_s (rfl) (q_le_e _))))) (rfl) (rfl) (ih4 (k + 1) (by omega) (by omega) (by omega))
  exact q_Jle (q_le_s (rfl) (q_le_s (rfl) (q_le_n (q_le_s (rfl) (q_le_e _))))) (rfl) (rfl) (L4 ((μ 3 0 : Int).toNat + 1) 0 (by omega) (by omega) (by omega))
set_option maxRecDepth 20000 in
theorem tX12_lookedAt (w : q_W) (μ : m_S) (p : Int) (hp : q_r p) (hD : m_De μ) (hP5 : 0 ≤ μ 4 0 ∧ μ 4 0 ≤ 5) : q_D mX12_lookedAt 0 [.ref 64, q_i p] (m_w w μ) (some (q_i (z_sum (fun d => if μ 0 (6 + d) = p then 1 else 0) (μ 0 0)))) (m_w w μ) := by
  refine q_T.of (lv := [some (.ref 64), some (q_i p), none, none]) (by decide) rfl (Nat.le_of_ble_eq_true rfl) ?_
  have hD0 := hD.1
  refine q_iconst dX12_lookedAt_0 ?_
  refine q_istore_n (lv' := [some (.ref 64), some (q_i p), some (q_i 0), none]) dX12_lookedAt_1 (by decide) rfl ?_
  refine q_iconst dX12_lookedAt_2 ?_
  refine q_istore_n (lv' := [some (.ref 64), some (q_i p), some (q_i 0), some (q_i 0)]) dX12_lookedAt_3 (by decide) rfl ?_
  have L4 : ∀ (m9 : Nat) (k : Int) (hk0 : 0 ≤ k) (hk1 : k ≤ μ 0 0) (hm9 : μ 0 0 - k < (m9 : Int)), q_J mX12_lookedAt 0 (fun v' w' => v' = (some (q_i (z_sum (fun d => if μ 0 (6 + d) = p then 1 else 0) (μ 0 0)))) ∧ w' = (m_w w μ)) 0 0 4 [some (.ref 64), some (q_i p), some (q_i (z_sum (fun d => if μ 0 (6 + d) = p then 1 else 0) k)), some (q_i k)] [] (m_w w μ) := by
    intro m9
    induction m9 with
    | zero => intro k hk0 hk1 hm9; exact absurd hm9 (by omega)
    | succ m9 ih4 =>
      intro k hk0 hk1 hm9
      refine q_iload_n dX12_lookedAt_4 rfl ?_
      refine q_aload_n dX12_lookedAt_5 rfl ?_
      refine q_get (v := .ref 65) fX12_7_12 rfl rfl dX12_lookedAt_6 ?_
      refine q_iconst dX12_lookedAt_9 ?_
      refine q_iald (f := (μ 0)) (n9 := 152) rfl (by omega) (by omega) dX12_lookedAt_10 ?_
      refine q_icmp_ge (tgt := 41) dX12_lookedAt_11 (by decide) ⟨by omega, by omega⟩ ⟨by omega, by omega⟩ (fun h11 => ?_) (fun h11 => ?_)
      · skip
        refine q_iload_n dX12_lookedAt_41 rfl ?_
        exact q_iret rfl dX12_lookedAt_42 (⟨by rw [show k = μ 0 0 by omega], rfl⟩)
      · skip
        have hdd := hD.2 k hk0 (by omega)
        refine q_iload_n dX12_lookedAt_14 rfl ?_
        refine q_aload_n dX12_lookedAt_15 rfl ?_
        refine q_get (v := .ref 65) fX12_7_12 rfl rfl dX12_lookedAt_16 ?_
        refine q_bipush dX12_lookedAt_19 ?_
        refine q_iload_n dX12_lookedAt_21 rfl ?_
        refine q_iadd dX12_lookedAt_22 ?_
        refine q_iald (f := (μ 0)) (n9 := 152) rfl (by omega) (by omega) dX12_lookedAt_23 ?_
        refine q_iload_n dX12_lookedAt_24 rfl ?_
        refine q_icmp_ne (tgt := 32) dX12_lookedAt_25 (by decide) ⟨by omega, by omega⟩ hp (fun h25 => ?_) (fun h25 => ?_)
        · skip
          refine q_iconst dX12_lookedAt_32 ?_
          refine q_iadd dX12_lookedAt_33 ?_
          refine q_istore_n (lv' := [some (.ref 64), some (q_i p), some (q_i ((z_sum (fun d => if μ 0 (6 + d) = p then 1 else 0) k) + 0)), some (q_i k)]) dX12_lookedAt_34 (by decide) rfl ?_
          refine q_iinc (lv' := [some (.ref 64), some (q_i p), some (q_i ((z_sum (fun d => if μ 0 (6 + d) = p then 1 else 0) k) + 0)), some (q_i (k + 1))]) dX12_lookedAt_35 rfl (by decide) rfl ?_
          refine q_goto (tgt := 4) dX12_lookedAt_38 (by decide) ?_
          exact q_Jle (q_le_s (rfl) (q_le_s (rfl) (q_le_s (by rw [z_sum_s _ hk0]; (try dsimp only); (repeat' split) <;> first | rfl | (exfalso; omega)) (q_le_s (rfl) (q_le_e _))))) (rfl) (rfl) (ih4 (k + 1) (by omega) (by omega) (by omega))
        · skip
          refine q_iconst dX12_lookedAt_28 ?_
          refine q_goto (tgt := 33) dX12_lookedAt_29 (by decide) ?_
          refine q_iadd dX12_lookedAt_33 ?_
          refine q_istore_n (lv' := [some (.ref 64), some (q_i p), some (q_i ((z_sum (fun d => if μ 0 (6 + d) = p then 1 else 0) k) + 1)), some (q_i k)]) dX12_lookedAt_34 (by decide) rfl ?_
          refine q_iinc (lv' := [some (.ref 64), some (q_i p), some (q_i ((z_sum (fun d => if μ 0 (6 + d) = p then 1 else 0) k) + 1)), some (q_i (k + 1))]) dX12_lookedAt_35 rfl (by decide) rfl ?_
          refine q_goto (tgt := 4) dX12_lookedAt_38 (by decide) ?_
          exact q_Jle (q_le_s (rfl) (q_le_s (rfl) (q_le_s (by rw [z_sum_s _ hk0]; (try dsimp only); (repeat' split) <;> first | rfl | (exfalso; omega)) (q_le_s (rfl) (q_le_e _))))) (rfl) (rfl) (ih4 (k + 1) (by omega) (by omega) (by omega))
  exact q_Jle (q_le_s (rfl) (q_le_s (rfl) (q_le_s (rfl) (q_le_s (rfl) (q_le_e _))))) (rfl) (rfl) (L4 ((μ 0 0 : Int).toNat + 1) 0 (by omega) (by omega) (by omega))
def m_told (μ : m_S) (p what : Int) : Int := if what = 0 then μ 5 p else if what = 1 then μ 0 (1 + p) else if what = 2 then z_in (μ 5 p) (μ 0 (1 + p)) (μ 1 0) (μ 3 0) else z_sum (fun d => if μ 0 (6 + d) = p then 1 else 0) (μ 0 0)
set_option maxRecDepth 20000 in
theorem tX12_toldOf (w : q_W) (μ : m_S) (p t : Int) (hp0 : 0 ≤ p) (hp1 : p < μ 4 0) (ht : q_r t) (hG : m_G μ) (hD : m_De μ) : q_D mX12_toldOf 2 [.ref 64, q_i p, q_i t] (m_w w μ) (some (q_i (m_told μ p t))) (m_w w μ) := by
  refine q_T.of (lv := [some (.ref 64), some (q_i p), some (q_i t)]) (by decide) rfl (Nat.le_of_ble_eq_true rfl) ?_
  have hW := hG.1
  have hN := hG.2.1
  have hS := hG.S
  have hPn := hG.2.2.2.1
  have hq := hG.2.2.2.2 p hp0 hp1
  refine q_iload_n dX12_toldOf_0 rfl ?_
  refine q_if_ne (tgt := 13) dX12_toldOf_1 (by decide) ht (fun h1 => ?_) (fun h1 => ?_)
  · skip
    refine q_iload_n dX12_toldOf_13 rfl ?_
    refine q_iconst dX12_toldOf_14 ?_
    refine q_icmp_ne (tgt := 26) dX12_toldOf_15 (by decide) ht ⟨by decide, by decide⟩ (fun h15 => ?_) (fun h15 => ?_)
    · skip
      refine q_iload_n dX12_toldOf_26 rfl ?_
      refine q_iconst dX12_toldOf_27 ?_
      refine q_icmp_ne (tgt := 39) dX12_toldOf_28 (by decide) ht ⟨by decide, by decide⟩ (fun h28 => ?_) (fun h28 => ?_)
      · skip
        refine q_aload_n dX12_toldOf_39 rfl ?_
        refine q_iload_n dX12_toldOf_40 rfl ?_
        refine q_cV [q_i p] kX12_180_12 rfl (tX12_lookedAt w μ p ⟨by omega, by omega⟩ hD ⟨by omega, by omega⟩) dX12_toldOf_41 rfl (by decide) (Nat.le_of_ble_eq_true rfl) rfl ?_
        exact q_iret rfl dX12_toldOf_44 (⟨by (unfold m_told; (repeat' split) <;> first | rfl | (exfalso; omega)), rfl⟩)
      · skip
        refine q_aload_n dX12_toldOf_31 rfl ?_
        refine q_iload_n dX12_toldOf_32 rfl ?_
        refine q_cV [q_i p] kX12_177_12 rfl (tX12_waysInAll w μ p (by omega) (by omega) hG) dX12_toldOf_33 rfl (by decide) (Nat.le_of_ble_eq_true rfl) rfl ?_
        refine q_goto (tgt := 44) dX12_toldOf_36 (by decide) ?_
        exact q_iret rfl dX12_toldOf_44 (⟨by (unfold m_told; (repeat' split) <;> first | rfl | (exfalso; omega)), rfl⟩)
    · skip
      refine q_aload_n dX12_toldOf_18 rfl ?_
      refine q_iload_n dX12_toldOf_19 rfl ?_
      refine q_cV [q_i p] kX12_151_12 rfl (tX12_flicksOf w μ p (by omega) (by omega)) dX12_toldOf_20 rfl (by decide) (Nat.le_of_ble_eq_true rfl) rfl ?_
      refine q_goto (tgt := 44) dX12_toldOf_23 (by decide) ?_
      exact q_iret rfl dX12_toldOf_44 (⟨by (unfold m_told; (repeat' split) <;> first | rfl | (exfalso; omega)), rfl⟩)
  · skip
    refine q_aload_n dX12_toldOf_4 rfl ?_
    refine q_get (v := .ref 66) fX12_13_12 rfl rfl dX12_toldOf_5 ?_
    refine q_iload_n dX12_toldOf_8 rfl ?_
    refine q_iald (f := (μ 5)) (n9 := 5) rfl (by omega) (by omega) dX12_toldOf_9 ?_
    refine q_goto (tgt := 44) dX12_toldOf_10 (by decide) ?_
    exact q_iret rfl dX12_toldOf_44 (⟨by (unfold m_told; (repeat' split) <;> first | rfl | (exfalso; omega)), rfl⟩)
/-- either there is a shed, or nothing of one -/
def m_Sh (μ : m_S) : Prop := (μ 4 0 = 0 ∧ μ 1 0 = 0 ∧ μ 2 0 = 0 ∧ μ 3 0 = 0) ∨ m_G μ
theorem m_Sh.b {μ : m_S} (h : m_Sh μ) : (0 ≤ μ 4 0 ∧ μ 4 0 ≤ 5) ∧ (0 ≤ μ 3 0 ∧ μ 3 0 ≤ 216) ∧ (0 ≤ μ 1 0 ∧ μ 1 0 ≤ 3) ∧ (0 ≤ μ 2 0 ∧ μ 2 0 ≤ 6) := by
  rcases h with h | h
  · omega
  · have h1 := h.S
    have h2 := h.1
    have h3 := h.2.1
    have h4 := h.2.2.2.1
    omega
theorem m_Sh.g {μ : m_S} (h : m_Sh μ) (h1 : 0 < μ 4 0 ∨ 0 < μ 3 0 ∨ 0 < μ 1 0) : m_G μ := by
  rcases h with h | h
  · omega
  · exact h
def m_person_v (μ : m_S) (p t : Int) : Int := if (0 ≤ p ∧ p ≤ μ 4 0 - 1) ∧ (0 ≤ t ∧ t ≤ 3) then 1 else -1
def m_person_s (μ : m_S) (p t : Int) : m_S := if (0 ≤ p ∧ p ≤ μ 4 0 - 1) ∧ (0 ≤ t ∧ t ≤ 3) then m_u μ 11 (fun _ => m_told μ p t) else μ
set_option maxRecDepth 20000 in
theorem tX12_person (w : q_W) (μ : m_S) (p t : Int) (hp : q_r p) (ht : q_r t) (hH : m_Sh μ) (hD : m_De μ) : q_D mX12_person 3 [.ref 64, q_i p, q_i t] (m_w w μ) (some (q_i (m_person_v μ p t))) (m_w w (m_person_s μ p t)) := by
  refine q_T.of (lv := [some (.ref 64), some (q_i p), some (q_i t)]) (by decide) rfl (Nat.le_of_ble_eq_true rfl) ?_
  have hb := hH.b
  refine q_aload_n dX12_person_0 rfl ?_
  refine q_iload_n dX12_person_1 rfl ?_
  refine q_cV [q_i p] kX12_183_12 rfl (tX12_isPerson w μ p (hp) (by omega) (by omega)) dX12_person_2 rfl (by decide) (Nat.le_of_ble_eq_true rfl) rfl ?_
  refine q_ifb_eq (tgt := 33) dX12_person_5 (by decide) (fun h5 => ?_) (fun h5 => ?_)
  · skip
    refine q_iconst dX12_person_33 ?_
    exact q_iret rfl dX12_person_34 (⟨by (unfold m_person_v; (repeat' split) <;> first | rfl | (exfalso; omega)), by (unfold m_person_s; (repeat' split) <;> first | rfl | (exfalso; omega))⟩)
  · skip
    refine q_iload_n dX12_person_8 rfl ?_
    refine q_i2lr dX12_person_9 ht ?_
    refine q_lconst 0 dX12_person_10 ?_
    refine q_ldc2 3 wd_1148 dX12_person_11 ?_
    refine q_cS [q_l t, q_l 0, q_l 3] kX12_57 (tX12_in t 0 3 (⟨by have := (ht).1; omega, by have := (ht).2; omega⟩) (⟨by decide, by decide⟩) (⟨by decide, by decide⟩) (m_w w μ)) dX12_person_14 rfl (by decide) (Nat.le_of_ble_eq_true rfl) rfl ?_
    refine q_ifb_eq (tgt := 33) dX12_person_17 (by decide) (fun h17 => ?_) (fun h17 => ?_)
    · skip
      refine q_iconst dX12_person_33 ?_
      exact q_iret rfl dX12_person_34 (⟨by (unfold m_person_v; (repeat' split) <;> first | rfl | (exfalso; omega)), by (unfold m_person_s; (repeat' split) <;> first | rfl | (exfalso; omega))⟩)
    · skip
      have hG := hH.g (by omega)
      refine q_aload_n dX12_person_20 rfl ?_
      refine q_aload_n dX12_person_21 rfl ?_
      refine q_iload_n dX12_person_22 rfl ?_
      refine q_iload_n dX12_person_23 rfl ?_
      refine q_cV [q_i p, q_i t] kX12_186_12 rfl (tX12_toldOf w μ p t (by omega) (by omega) ht hG hD) dX12_person_24 rfl (by decide) (Nat.le_of_ble_eq_true rfl) rfl ?_
      refine q_cV [q_i (m_told μ p t)] kX12_79_12 rfl (tX12_tell w μ (m_told μ p t)) dX12_person_27 rfl (by decide) (Nat.le_of_ble_eq_true rfl) rfl ?_
      refine q_goto (tgt := 34) dX12_person_30 (by decide) ?_
      exact q_iret rfl dX12_person_34 (⟨by (unfold m_person_v; (repeat' split) <;> first | rfl | (exfalso; omega)), by (unfold m_person_s; (repeat' split) <;> first | rfl | (exfalso; omega))⟩)
set_option maxRecDepth 20000 in
theorem tX12_isOf (w : q_W) (μ : m_S) (p t : Int) (hp0 : 0 ≤ p) (hp1 : p < μ 4 0) (ht : q_r t) (hG : m_G μ) : q_D mX12_isOf 0 [.ref 64, q_i p, q_i t] (m_w w μ) (some (q_b (μ 5 p = t ∨ (t = 1 ∧ μ 5 p = 4) ∨ (t = 2 ∧ μ 5 p = 5)))) (m_w w μ) := by
  refine q_T.of (lv := [some (.ref 64), some (q_i p), some (q_i t)]) (by decide) rfl (Nat.le_of_ble_eq_true rfl) ?_
  have hW := hG.1
  have hN := hG.2.1
  have hS := hG.S
  have hPn := hG.2.2.2.1
  have hq := hG.2.2.2.2 p hp0 hp1
  refine q_aload_n dX12_isOf_0 rfl ?_
  refine q_get (v := .ref 66) fX12_13_12 rfl rfl dX12_isOf_1 ?_
  refine q_iload_n dX12_isOf_4 rfl ?_
  refine q_iald (f := (μ 5)) (n9 := 5) rfl (by omega) (by omega) dX12_isOf_5 ?_
  refine q_iload_n dX12_isOf_6 rfl ?_
  refine q_icmp_eq (tgt := 40) dX12_isOf_7 (by decide) ⟨by omega, by omega⟩ ht (fun h7 => ?_) (fun h7 => ?_)
  · skip
    refine q_iconst dX12_isOf_40 ?_
    refine q_goto (tgt := 45) dX12_isOf_41 (by decide) ?_
    exact q_zret rfl (Or.inr rfl) dX12_isOf_45 (⟨congrArg some (q_b1 (by omega)), rfl⟩)
  · skip
    refine q_iload_n dX12_isOf_10 rfl ?_
    refine q_iconst dX12_isOf_11 ?_
    refine q_icmp_ne (tgt := 25) dX12_isOf_12 (by decide) ht ⟨by decide, by decide⟩ (fun h12 => ?_) (fun h12 => ?_)
    · skip
      refine q_iload_n dX12_isOf_25 rfl ?_
      refine q_iconst dX12_isOf_26 ?_
      refine q_icmp_ne (tgt := 44) dX12_isOf_27 (by decide) ht ⟨by decide, by decide⟩ (fun h27 => ?_) (fun h27 => ?_)
      · skip
        refine q_iconst dX12_isOf_44 ?_
        exact q_zret rfl (Or.inl rfl) dX12_isOf_45 (⟨congrArg some (q_b0 (by omega)), rfl⟩)
      · skip
        refine q_aload_n dX12_isOf_30 rfl ?_
        refine q_get (v := .ref 66) fX12_13_12 rfl rfl dX12_isOf_31 ?_
        refine q_iload_n dX12_isOf_34 rfl ?_
        refine q_iald (f := (μ 5)) (n9 := 5) rfl (by omega) (by omega) dX12_isOf_35 ?_
        refine q_iconst dX12_isOf_36 ?_
        refine q_icmp_ne (tgt := 44) dX12_isOf_37 (by decide) ⟨by omega, by omega⟩ ⟨by decide, by decide⟩ (fun h37 => ?_) (fun h37 => ?_)
        · skip
          refine q_iconst dX12_isOf_44 ?_
          exact q_zret rfl (Or.inl rfl) dX12_isOf_45 (⟨congrArg some (q_b0 (by omega)), rfl⟩)
        · skip
          refine q_iconst dX12_isOf_40 ?_
          refine q_goto (tgt := 45) dX12_isOf_41 (by decide) ?_
          exact q_zret rfl (Or.inr rfl) dX12_isOf_45 (⟨congrArg some (q_b1 (by omega)), rfl⟩)
    · skip
      refine q_aload_n dX12_isOf_15 rfl ?_
      refine q_get (v := .ref 66) fX12_13_12 rfl rfl dX12_isOf_16 ?_
      refine q_iload_n dX12_isOf_19 rfl ?_
      refine q_iald (f := (μ 5)) (n9 := 5) rfl (by omega) (by omega) dX12_isOf_20 ?_
      refine q_iconst dX12_isOf_21 ?_
      refine q_icmp_eq (tgt := 40) dX12_isOf_22 (by decide) ⟨by omega, by omega⟩ ⟨by decide, by decide⟩ (fun h22 => ?_) (fun h22 => ?_)
      · skip
        refine q_iconst dX12_isOf_40 ?_
        refine q_goto (tgt := 45) dX12_isOf_41 (by decide) ?_
        exact q_zret rfl (Or.inr rfl) dX12_isOf_45 (⟨congrArg some (q_b1 (by omega)), rfl⟩)
      · skip
        refine q_iload_n dX12_isOf_25 rfl ?_
        refine q_iconst dX12_isOf_26 ?_
        refine q_icmp_ne (tgt := 44) dX12_isOf_27 (by decide) ht ⟨by decide, by decide⟩ (fun h27 => ?_) (fun h27 => ?_)
        · skip
          refine q_iconst dX12_isOf_44 ?_
          exact q_zret rfl (Or.inl rfl) dX12_isOf_45 (⟨congrArg some (q_b0 (by omega)), rfl⟩)
        · skip
          refine q_aload_n dX12_isOf_30 rfl ?_
          refine q_get (v := .ref 66) fX12_13_12 rfl rfl dX12_isOf_31 ?_
          refine q_iload_n dX12_isOf_34 rfl ?_
          refine q_iald (f := (μ 5)) (n9 := 5) rfl (by omega) (by omega) dX12_isOf_35 ?_
          refine q_iconst dX12_isOf_36 ?_
          refine q_icmp_ne (tgt := 44) dX12_isOf_37 (by decide) ⟨by omega, by omega⟩ ⟨by decide, by decide⟩ (fun h37 => ?_) (fun h37 => ?_)
          · skip
            refine q_iconst dX12_isOf_44 ?_
            exact q_zret rfl (Or.inl rfl) dX12_isOf_45 (⟨congrArg some (q_b0 (by omega)), rfl⟩)
          · skip
            refine q_iconst dX12_isOf_40 ?_
            refine q_goto (tgt := 45) dX12_isOf_41 (by decide) ?_
            exact q_zret rfl (Or.inr rfl) dX12_isOf_45 (⟨congrArg some (q_b1 (by omega)), rfl⟩)
