/-! the class: facts, counts, digests -/
theorem tX0_kind (w : q_W) (a : Nat) : q_D mX0_kind 0 [.ref a] w (some (q_i 5)) w := by
  refine q_T.of (lv := [some (.ref a)]) (by decide) rfl (Nat.le_of_ble_eq_true rfl) ?_
  refine q_iconst dX0_kind_0 ?_
  exact q_iret rfl dX0_kind_1 (⟨rfl, rfl⟩)
theorem tX1_kind (w : q_W) (a : Nat) : q_D mX1_kind 0 [.ref a] w (some (q_i 2)) w := by
  refine q_T.of (lv := [some (.ref a)]) (by decide) rfl (Nat.le_of_ble_eq_true rfl) ?_
  refine q_iconst dX1_kind_0 ?_
  exact q_iret rfl dX1_kind_1 (⟨rfl, rfl⟩)
theorem tX2_kind (w : q_W) (a : Nat) : q_D mX2_kind 0 [.ref a] w (some (q_i 3)) w := by
  refine q_T.of (lv := [some (.ref a)]) (by decide) rfl (Nat.le_of_ble_eq_true rfl) ?_
  refine q_iconst dX2_kind_0 ?_
  exact q_iret rfl dX2_kind_1 (⟨rfl, rfl⟩)
theorem tX3_kind (w : q_W) (a : Nat) : q_D mX3_kind 0 [.ref a] w (some (q_i 4)) w := by
  refine q_T.of (lv := [some (.ref a)]) (by decide) rfl (Nat.le_of_ble_eq_true rfl) ?_
  refine q_iconst dX3_kind_0 ?_
  exact q_iret rfl dX3_kind_1 (⟨rfl, rfl⟩)
theorem tX4_kind (w : q_W) (a : Nat) : q_D mX4_kind 0 [.ref a] w (some (q_i 1)) w := by
  refine q_T.of (lv := [some (.ref a)]) (by decide) rfl (Nat.le_of_ble_eq_true rfl) ?_
  refine q_iconst dX4_kind_0 ?_
  exact q_iret rfl dX4_kind_1 (⟨rfl, rfl⟩)
theorem tX5_kind (w : q_W) (a : Nat) : q_D mX5_kind 0 [.ref a] w (some (q_i 0)) w := by
  refine q_T.of (lv := [some (.ref a)]) (by decide) rfl (Nat.le_of_ble_eq_true rfl) ?_
  refine q_iconst dX5_kind_0 ?_
  exact q_iret rfl dX5_kind_1 (⟨rfl, rfl⟩)
theorem q_kind {M : q_M} {fr : Nat} {Q : Option Value → q_W → Prop} {kc ks pc a : Nat} {lv : List (Option Value)} {st : List Value} {w : q_W} {k9 : Int} {fs : List Value} (hm : M.1.cls = RX11) (hk : 0 ≤ k9 ∧ k9 ≤ 5) (hw : w a = some (q_ob (x_cl k9) fs)) (hd : decode M.2.1 pc = .ok (.invokevirtual 348, 3)) (hfr : 1 ≤ fr) (hroom : (st.map (fun v => v.category)).sum ≤ 8) (k : q_J M fr Q kc ks (pc + 3) lv (q_i k9 :: st) w) : q_J M fr Q kc ks pc lv (.ref a :: st) w := by
  rcases (show k9 = 0 ∨ k9 = 1 ∨ k9 = 2 ∨ k9 = 3 ∨ k9 = 4 ∨ k9 = 5 by omega) with rfl | rfl | rfl | rfl | rfl | rfl
  · exact q_cV [] (by rw [hm]; exact kX11_348_5) hw (tX5_kind w a) hd rfl hfr hroom rfl k
  · exact q_cU [] (by rw [hm]; exact kX11_348_4) hw (tX4_kind w a) hd rfl hfr hroom rfl k
  · exact q_cU [] (by rw [hm]; exact kX11_348_1) hw (tX1_kind w a) hd rfl hfr hroom rfl k
  · exact q_cU [] (by rw [hm]; exact kX11_348_2) hw (tX2_kind w a) hd rfl hfr hroom rfl k
  · exact q_cU [] (by rw [hm]; exact kX11_348_3) hw (tX3_kind w a) hd rfl hfr hroom rfl k
  · exact q_cU [] (by rw [hm]; exact kX11_348_0) hw (tX0_kind w a) hd rfl hfr hroom rfl k
def x_fct (ξ : m_S) (p t : Int) : Int := if t = 0 then ξ 1000 p else if t = 1 then ξ 1005 p else if t = 2 then ξ 1004 p else z_sum (fun d => if ξ 12 d = p then 1 else 0) (ξ 10 0)
set_option maxRecDepth 20000 in
theorem tX11_factOf (w : q_W) (ξ : m_S) (B P : Nat) (g : Int → Option Nat) (p t : Int) (hp0 : 0 ≤ p) (hp1 : p < ξ 7 0) (ht0 : 0 ≤ t) (ht1 : t ≤ 3) (hPs : x_Ps ξ B P g) (hTs : ∀ p, 0 ≤ p → p < ξ 7 0 → x_Pt ξ p) (hD : x_De ξ) : q_D mX11_factOf 1 [.ref 0, .ref (B + p.toNat), q_i p, q_i t] (x_w w ξ B P g) (some (q_i (x_fct ξ p t))) (x_w w ξ B P g) := by
  refine q_T.of (lv := [some (.ref 0), some (.ref (B + p.toNat)), some (q_i p), some (q_i t)]) (by decide) rfl (Nat.le_of_ble_eq_true rfl) ?_
  have hPs1 := hPs.1
  have hPs2 := hPs.2.1
  have hPs3 := hPs.2.2.1
  refine q_iload_n dX11_factOf_0 rfl ?_
  rcases (show t = 0 ∨ t = 1 ∨ t = 2 ∨ (t < 0 ∨ 2 < t) by omega) with hs1 | hs1 | hs1 | hs1
  · skip
    refine q_tabIn (tgt := 28) dX11_factOf_1 ⟨by omega, by omega⟩ (by omega) (by omega) (by rw [hs1]; rfl) (by decide) ?_
    refine q_aload_n dX11_factOf_28 rfl ?_
    refine q_kind rfl (hTs p hp0 hp1).1 (x_pOi (p := p) (by omega) hp0 (by omega)) dX11_factOf_29 (by decide) (Nat.le_of_ble_eq_true rfl) ?_
    exact q_iret rfl dX11_factOf_32 (⟨by (unfold x_fct; (repeat first | rw [if_pos (by omega)] | rw [if_neg (by omega)])), rfl⟩)
  · skip
    refine q_tabIn (tgt := 33) dX11_factOf_1 ⟨by omega, by omega⟩ (by omega) (by omega) (by rw [hs1]; rfl) (by decide) ?_
    refine q_aload_n dX11_factOf_33 rfl ?_
    refine q_get (v := q_i (ξ 1005 p)) (fPX11_156 _) (x_pOi (p := p) (by omega) (by omega) (by omega)) rfl dX11_factOf_34 ?_
    exact q_iret rfl dX11_factOf_37 (⟨by (unfold x_fct; (repeat first | rw [if_pos (by omega)] | rw [if_neg (by omega)])), rfl⟩)
  · skip
    refine q_tabIn (tgt := 38) dX11_factOf_1 ⟨by omega, by omega⟩ (by omega) (by omega) (by rw [hs1]; rfl) (by decide) ?_
    refine q_aload_n dX11_factOf_38 rfl ?_
    refine q_get (v := q_i (ξ 1004 p)) (fPX11_257 _) (x_pOi (p := p) (by omega) (by omega) (by omega)) rfl dX11_factOf_39 ?_
    exact q_iret rfl dX11_factOf_42 (⟨by (unfold x_fct; (repeat first | rw [if_pos (by omega)] | rw [if_neg (by omega)])), rfl⟩)
  · skip
    refine q_tabOut (tgt := 43) dX11_factOf_1 ⟨by omega, by omega⟩ hs1 (by decide) ?_
    refine q_aload_n dX11_factOf_43 rfl ?_
    refine q_get (v := .ref 7) fX11_34_11 rfl rfl dX11_factOf_44 ?_
    refine q_get (v := .ref 10) fX11_152_8 rfl rfl dX11_factOf_47 ?_
    refine q_iload_n dX11_factOf_50 rfl ?_
    refine q_cV [q_i p] kX11_351_9 rfl (tX9_looksAt w ξ B P g p ⟨by omega, by omega⟩ hD.1 (fun d h0 h1 => by have q := (hD.2 d h0 h1).1; constructor <;> omega)) dX11_factOf_51 rfl (by decide) (Nat.le_of_ble_eq_true rfl) rfl ?_
    exact q_iret rfl dX11_factOf_54 (⟨by (unfold x_fct; (repeat first | rw [if_pos (by omega)] | rw [if_neg (by omega)])), rfl⟩)
theorem x_isR_rows {r : Int} (h0 : 0 ≤ r) (h1 : r < 6) : x_isR (32 + 2 * r.toNat) 40 := by
  unfold x_isR
  omega
set_option maxRecDepth 20000 in
theorem tX11_howManyThere_1 (w : q_W) (ξ : m_S) (B P : Nat) (g : Int → Option Nat) (hz : ∀ r : Int, 0 ≤ r → r < 6 → -1 ≤ ξ (32 + 2 * r.toNat) 1 ∧ ξ (32 + 2 * r.toNat) 1 ≤ 40) : q_D mX11_howManyThere 1 [.ref 1] (x_w w ξ B P g) (some (q_i (z_sum (fun (k : Int) => if ξ (32 + 2 * k.toNat) 1 < 0 then 0 else 1) 6))) (x_w w ξ B P g) := by
  refine q_T.of (lv := [some (.ref 1), none, none]) (by decide) rfl (Nat.le_of_ble_eq_true rfl) ?_
  refine q_iconst dX11_howManyThere_0 ?_
  refine q_istore_n (lv' := [some (.ref 1), some (q_i 0), none]) dX11_howManyThere_1 (by decide) rfl ?_
  refine q_iconst dX11_howManyThere_2 ?_
  refine q_istore_n (lv' := [some (.ref 1), some (q_i 0), some (q_i 0)]) dX11_howManyThere_3 (by decide) rfl ?_
  have L4 : ∀ (m9 : Nat) (k : Int) (hk0 : 0 ≤ k) (hk1 : k ≤ 6) (hm9 : 6 - k < (m9 : Int)), q_J mX11_howManyThere 1 (fun v' w' => v' = (some (q_i (z_sum (fun (k : Int) => if ξ (32 + 2 * k.toNat) 1 < 0 then 0 else 1) 6))) ∧ w' = (x_w w ξ B P g)) 0 0 4 [some (.ref 1), some (q_i (z_sum (fun (k : Int) => if ξ (32 + 2 * k.toNat) 1 < 0 then 0 else 1) k)), some (q_i k)] [] (x_w w ξ B P g) := by
    intro m9
    induction m9 with
    | zero => intro k hk0 hk1 hm9; exact absurd hm9 (by omega)
    | succ m9 ih4 =>
      intro k hk0 hk1 hm9
      refine q_iload_n dX11_howManyThere_4 rfl ?_
      refine q_aload_n dX11_howManyThere_5 rfl ?_
      refine q_alen rfl (by decide) dX11_howManyThere_6 ?_
      refine q_icmp_ge (tgt := 33) dX11_howManyThere_7 (by decide) ⟨by omega, by omega⟩ ⟨by omega, by omega⟩ (fun h7 => ?_) (fun h7 => ?_)
      · skip
        refine q_iload_n dX11_howManyThere_33 rfl ?_
        exact q_iret rfl dX11_howManyThere_34 (⟨by rw [show k = 6 by omega], rfl⟩)
      · skip
        refine q_iload_n dX11_howManyThere_10 rfl ?_
        refine q_aload_n dX11_howManyThere_11 rfl ?_
        refine q_iload_n dX11_howManyThere_12 rfl ?_
        refine q_aald rfl (by decide) (by omega) (by omega) dX11_howManyThere_13 ?_
        rw [x_rows_e (i := k) (by omega) (by omega)]
        show q_J _ _ _ _ _ _ _ (.ref (32 + 2 * k.toNat) :: _) _
        refine q_cV [] kX11_89_7 (x_rO (x_isR_rows (r := k) hk0 (by omega))) (tX7_isMissing w ξ B P g (32 + 2 * k.toNat) 40 (x_isR_rows (r := k) hk0 (by omega)) (by have := hz k hk0 (by omega); omega)) dX11_howManyThere_14 rfl (by decide) (Nat.le_of_ble_eq_true rfl) rfl ?_
        refine q_ifb_eq (tgt := 24) dX11_howManyThere_17 (by decide) (fun h17 => ?_) (fun h17 => ?_)
        · skip
          refine q_iconst dX11_howManyThere_24 ?_
          refine q_iadd dX11_howManyThere_25 ?_
          refine q_istore_n (lv' := [some (.ref 1), some (q_i ((z_sum (fun (k : Int) => if ξ (32 + 2 * k.toNat) 1 < 0 then 0 else 1) k) + 1)), some (q_i k)]) dX11_howManyThere_26 (by decide) rfl ?_
          refine q_iinc (lv' := [some (.ref 1), some (q_i ((z_sum (fun (k : Int) => if ξ (32 + 2 * k.toNat) 1 < 0 then 0 else 1) k) + 1)), some (q_i (k + 1))]) dX11_howManyThere_27 rfl (by decide) rfl ?_
          refine q_goto (tgt := 4) dX11_howManyThere_30 (by decide) ?_
          exact q_Jle (q_le_s (rfl) (q_le_s (by rw [z_sum_s _ hk0]; (try dsimp only); (repeat' split) <;> first | rfl | (exfalso; omega)) (q_le_s (rfl) (q_le_e _)))) (rfl) (rfl) (ih4 (k + 1) (by omega) (by omega) (by omega))
        · skip
          refine q_iconst dX11_howManyThere_20 ?_
          refine q_goto (tgt := 25) dX11_howManyThere_21 (by decide) ?_
          refine q_iadd dX11_howManyThere_25 ?_
          refine q_istore_n (lv' := [some (.ref 1), some (q_i ((z_sum (fun (k : Int) => if ξ (32 + 2 * k.toNat) 1 < 0 then 0 else 1) k) + 0)), some (q_i k)]) dX11_howManyThere_26 (by decide) rfl ?_
          refine q_iinc (lv' := [some (.ref 1), some (q_i ((z_sum (fun (k : Int) => if ξ (32 + 2 * k.toNat) 1 < 0 then 0 else 1) k) + 0)), some (q_i (k + 1))]) dX11_howManyThere_27 rfl (by decide) rfl ?_
          refine q_goto (tgt := 4) dX11_howManyThere_30 (by decide) ?_
          exact q_Jle (q_le_s (rfl) (q_le_s (by rw [z_sum_s _ hk0]; (try dsimp only); (repeat' split) <;> first | rfl | (exfalso; omega)) (q_le_s (rfl) (q_le_e _)))) (rfl) (rfl) (ih4 (k + 1) (by omega) (by omega) (by omega))
  exact q_Jle (q_le_s (rfl) (q_le_s (rfl) (q_le_s (rfl) (q_le_e _)))) (rfl) (rfl) (L4 ((6 : Int).toNat + 1) 0 (by omega) (by omega) (by omega))
set_option maxRecDepth 20000 in
theorem tX11_digestRows_1 (w : q_W) (ξ : m_S) (B P : Nat) (g : Int → Option Nat) (h : Int) (hz : ∀ r : Int, 0 ≤ r → r < 6 → -1 ≤ ξ (32 + 2 * r.toNat) 1 ∧ ξ (32 + 2 * r.toNat) 1 ≤ 40) (hr : ∀ r : Int, 0 ≤ r → r < 6 → ∀ j : Int, 0 ≤ j → j < ξ (32 + 2 * r.toNat) 1 → q_r (ξ (32 + 2 * r.toNat + 1) j)) : q_D mX11_digestRows 0 [q_l h, .ref 1] (x_w w ξ B P g) (some (q_l (z_hrows (fun (r : Int) => ξ (32 + 2 * r.toNat) 1) (fun (r j : Int) => ξ (32 + 2 * r.toNat + 1) j) h 6))) (x_w w ξ B P g) := by
  refine q_T.of (lv := [some (q_l h), none, some (.ref 1), none, none]) (by decide) rfl (Nat.le_of_ble_eq_true rfl) ?_
  refine q_iconst dX11_digestRows_0 ?_
  refine q_istore_n (lv' := [some (q_l h), none, some (.ref 1), some (q_i 0), none]) dX11_digestRows_1 (by decide) rfl ?_
  have L2 : ∀ (m9 : Nat) (k : Int) (hk0 : 0 ≤ k) (hk1 : k ≤ 6) (hm9 : 6 - k < (m9 : Int)), q_J mX11_digestRows 0 (fun v' w' => v' = (some (q_l (z_hrows (fun (r : Int) => ξ (32 + 2 * r.toNat) 1) (fun (r j : Int) => ξ (32 + 2 * r.toNat + 1) j) h 6))) ∧ w' = (x_w w ξ B P g)) 0 0 2 [some (q_l (z_hrows (fun (r : Int) => ξ (32 + 2 * r.toNat) 1) (fun (r j : Int) => ξ (32 + 2 * r.toNat + 1) j) h k)), none, some (.ref 1), some (q_i k), none] [] (x_w w ξ B P g) := by
    intro m9
    induction m9 with
    | zero => intro k hk0 hk1 hm9; exact absurd hm9 (by omega)
    | succ m9 ih2 =>
      intro k hk0 hk1 hm9
      refine q_iload_n dX11_digestRows_2 rfl ?_
      refine q_aload_n dX11_digestRows_3 rfl ?_
      refine q_alen rfl (by decide) dX11_digestRows_4 ?_
      refine q_icmp_ge (tgt := 65) dX11_digestRows_5 (by decide) ⟨by omega, by omega⟩ ⟨by omega, by omega⟩ (fun h5 => ?_) (fun h5 => ?_)
      · skip
        refine q_lload_n dX11_digestRows_65 rfl ?_
        exact q_lret rfl dX11_digestRows_66 (⟨by rw [show k = 6 by omega], rfl⟩)
      · skip
        have hzk := hz k hk0 (by omega)
        refine q_ldc2 31 wd_999 dX11_digestRows_8 ?_
        refine q_lload_n dX11_digestRows_11 rfl ?_
        refine q_lmul dX11_digestRows_12 ?_
        refine q_aload_n dX11_digestRows_13 rfl ?_
        refine q_iload_n dX11_digestRows_14 rfl ?_
        refine q_aald rfl (by decide) (by omega) (by omega) dX11_digestRows_15 ?_
        rw [x_rows_e (i := k) (by omega) (by omega)]
        show q_J _ _ _ _ _ _ _ (.ref (32 + 2 * k.toNat) :: _) _
        refine q_get (v := q_i (ξ (32 + 2 * k.toNat) 1)) fX11_82_7 (x_rO (x_isR_rows (r := k) hk0 (by omega))) rfl dX11_digestRows_16 ?_
        refine q_i2lr dX11_digestRows_19 ⟨by omega, by omega⟩ ?_
        refine q_ladd dX11_digestRows_20 ?_
        refine q_lstore_n (lv' := [some (q_l ((31 * (z_hrows (fun (r : Int) => ξ (32 + 2 * r.toNat) 1) (fun (r j : Int) => ξ (32 + 2 * r.toNat + 1) j) h k)) + (ξ (32 + 2 * k.toNat) 1))), none, some (.ref 1), some (q_i k), none]) dX11_digestRows_21 (by decide) rfl ?_
        refine q_iconst dX11_digestRows_22 ?_
        refine q_istore (lv' := [some (q_l ((31 * (z_hrows (fun (r : Int) => ξ (32 + 2 * r.toNat) 1) (fun (r j : Int) => ξ (32 + 2 * r.toNat + 1) j) h k)) + (ξ (32 + 2 * k.toNat) 1))), none, some (.ref 1), some (q_i k), some (q_i 0)]) dX11_digestRows_23 (by decide) rfl ?_
        have L25 : ∀ (m9 : Nat) (j : Int) (hj0 : 0 ≤ j) (hj1 : j ≤ (ξ (32 + 2 * k.toNat) 1) ∨ j = 0) (hm9 : 61 - j < (m9 : Int)), q_J mX11_digestRows 0 (fun v' w' => v' = (some (q_l (z_hrows (fun (r : Int) => ξ (32 + 2 * r.toNat) 1) (fun (r j : Int) => ξ (32 + 2 * r.toNat + 1) j) h 6))) ∧ w' = (x_w w ξ B P g)) 0 0 25 [some (q_l (z_hash (ξ (32 + 2 * k.toNat + 1)) (31 * (z_hrows (fun (r : Int) => ξ (32 + 2 * r.toNat) 1) (fun (r j : Int) => ξ (32 + 2 * r.toNat + 1) j) h k) + (ξ (32 + 2 * k.toNat) 1)) j)), none, some (.ref 1), some (q_i k), some (q_i j)] [] (x_w w ξ B P g) := by
          intro m9
          induction m9 with
          | zero => intro j hj0 hj1 hm9; exact absurd hm9 (by omega)
          | succ m9 ih25 =>
            intro j hj0 hj1 hm9
            refine q_iload dX11_digestRows_25 rfl ?_
            refine q_aload_n dX11_digestRows_27 rfl ?_
            refine q_iload_n dX11_digestRows_28 rfl ?_
            refine q_aald rfl (by decide) (by omega) (by omega) dX11_digestRows_29 ?_
            rw [x_rows_e (i := k) (by omega) (by omega)]
            show q_J _ _ _ _ _ _ _ (.ref (32 + 2 * k.toNat) :: _) _
            refine q_get (v := q_i (ξ (32 + 2 * k.toNat) 1)) fX11_82_7 (x_rO (x_isR_rows (r := k) hk0 (by omega))) rfl dX11_digestRows_30 ?_
            refine q_icmp_ge (tgt := 59) dX11_digestRows_33 (by decide) ⟨by omega, by omega⟩ ⟨by omega, by omega⟩ (fun h33 => ?_) (fun h33 => ?_)
            · skip
              refine q_iinc (lv' := [some (q_l (z_hash (ξ (32 + 2 * k.toNat + 1)) (31 * (z_hrows (fun (r : Int) => ξ (32 + 2 * r.toNat) 1) (fun (r j : Int) => ξ (32 + 2 * r.toNat + 1) j) h k) + (ξ (32 + 2 * k.toNat) 1)) j)), none, some (.ref 1), some (q_i (k + 1)), some (q_i j)]) dX11_digestRows_59 rfl (by decide) rfl ?_
              refine q_goto (tgt := 2) dX11_digestRows_62 (by decide) ?_
              exact q_Jle (q_le_s (by (rw [z_hrows_s _ _ _ hk0]; (try dsimp only); rcases (show j = (ξ (32 + 2 * k.toNat) 1) ∨ ((ξ (32 + 2 * k.toNat) 1) < 0 ∧ j = 0) by omega) with q | q; rw [q]; rw [q.2, z_hash_0, z_hash_n _ _ (by omega)])) (q_le_n (q_le_s (rfl) (q_le_s (rfl) (q_le_n (q_le_e _)))))) (rfl) (rfl) (ih2 (k + 1) (by omega) (by omega) (by omega))
            · skip
              refine q_ldc2 31 wd_999 dX11_digestRows_36 ?_
              refine q_lload_n dX11_digestRows_39 rfl ?_
              refine q_lmul dX11_digestRows_40 ?_
              refine q_aload_n dX11_digestRows_41 rfl ?_
              refine q_iload_n dX11_digestRows_42 rfl ?_
              refine q_aald rfl (by decide) (by omega) (by omega) dX11_digestRows_43 ?_
              rw [x_rows_e (i := k) (by omega) (by omega)]
              show q_J _ _ _ _ _ _ _ (.ref (32 + 2 * k.toNat) :: _) _
              refine q_get (v := .ref ((32 + 2 * k.toNat) + 1)) fX11_72_7 (x_rO (x_isR_rows (r := k) hk0 (by omega))) rfl dX11_digestRows_44 ?_
              refine q_iload dX11_digestRows_47 rfl ?_
              refine q_iald (f := (ξ ((32 + 2 * k.toNat) + 1))) (n9 := 40) (x_rP (x_isR_rows (r := k) hk0 (by omega))) (by omega) (by omega) dX11_digestRows_49 ?_ (by rcases ((x_isR_rows (r := k) hk0 (by omega))).n with q | q <;> omega)
              refine q_i2lr dX11_digestRows_50 (hr k hk0 (by omega) j hj0 (by omega)) ?_
              refine q_ladd dX11_digestRows_51 ?_
              refine q_lstore_n (lv' := [some (q_l ((31 * (z_hash (ξ (32 + 2 * k.toNat + 1)) (31 * (z_hrows (fun (r : Int) => ξ (32 + 2 * r.toNat) 1) (fun (r j : Int) => ξ (32 + 2 * r.toNat + 1) j) h k) + (ξ (32 + 2 * k.toNat) 1)) j)) + ((ξ ((32 + 2 * k.toNat) + 1)) j))), none, some (.ref 1), some (q_i k), some (q_i j)]) dX11_digestRows_52 (by decide) rfl ?_
              refine q_iinc (lv' := [some (q_l ((31 * (z_hash (ξ (32 + 2 * k.toNat + 1)) (31 * (z_hrows (fun (r : Int) => ξ (32 + 2 * r.toNat) 1) (fun (r j : Int) => ξ (32 + 2 * r.toNat + 1) j) h k) + (ξ (32 + 2 * k.toNat) 1)) j)) + ((ξ ((32 + 2 * k.toNat) + 1)) j))), none, some (.ref 1), some (q_i k), some (q_i (j + 1))]) dX11_digestRows_53 rfl (by decide) rfl ?_
              refine q_goto (tgt := 25) dX11_digestRows_56 (by decide) ?_
              exact q_Jle (q_le_s (by rw [z_hash_s _ _ hj0]) (q_le_n (q_le_s (rfl) (q_le_s (rfl) (q_le_s (rfl) (q_le_e _)))))) (rfl) (rfl) (ih25 (j + 1) (by omega) (by omega) (by omega))
        exact q_Jle (q_le_s (by rw [z_hash_0]) (q_le_n (q_le_s (rfl) (q_le_s (rfl) (q_le_s (rfl) (q_le_e _)))))) (rfl) (rfl) (L25 ((61 : Int).toNat + 1) 0 (by omega) (by omega) (by omega))
  exact q_Jle (q_le_s (rfl) (q_le_n (q_le_s (rfl) (q_le_s (rfl) (q_le_n (q_le_e _)))))) (rfl) (rfl) (L2 ((6 : Int).toNat + 1) 0 (by omega) (by omega) (by omega))
theorem x_isR_texts {r : Int} (h0 : 0 ≤ r) (h1 : r < 4) : x_isR (44 + 2 * r.toNat) 60 := by
  unfold x_isR
  omega
set_option maxRecDepth 20000 in
theorem tX11_howManyThere_2 (w : q_W) (ξ : m_S) (B P : Nat) (g : Int → Option Nat) (hz : ∀ r : Int, 0 ≤ r → r < 4 → -1 ≤ ξ (44 + 2 * r.toNat) 1 ∧ ξ (44 + 2 * r.toNat) 1 ≤ 60) : q_D mX11_howManyThere 1 [.ref 2] (x_w w ξ B P g) (some (q_i (z_sum (fun (k : Int) => if ξ (44 + 2 * k.toNat) 1 < 0 then 0 else 1) 4))) (x_w w ξ B P g) := by
  refine q_T.of (lv := [some (.ref 2), none, none]) (by decide) rfl (Nat.le_of_ble_eq_true rfl) ?_
  refine q_iconst dX11_howManyThere_0 ?_
  refine q_istore_n (lv' := [some (.ref 2), some (q_i 0), none]) dX11_howManyThere_1 (by decide) rfl ?_
  refine q_iconst dX11_howManyThere_2 ?_
  refine q_istore_n (lv' := [some (.ref 2), some (q_i 0), some (q_i 0)]) dX11_howManyThere_3 (by decide) rfl ?_
  have L4 : ∀ (m9 : Nat) (k : Int) (hk0 : 0 ≤ k) (hk1 : k ≤ 4) (hm9 : 4 - k < (m9 : Int)), q_J mX11_howManyThere 1 (fun v' w' => v' = (some (q_i (z_sum (fun (k : Int) => if ξ (44 + 2 * k.toNat) 1 < 0 then 0 else 1) 4))) ∧ w' = (x_w w ξ B P g)) 0 0 4 [some (.ref 2), some (q_i (z_sum (fun (k : Int) => if ξ (44 + 2 * k.toNat) 1 < 0 then 0 else 1) k)), some (q_i k)] [] (x_w w ξ B P g) := by
    intro m9
    induction m9 with
    | zero => intro k hk0 hk1 hm9; exact absurd hm9 (by omega)
    | succ m9 ih4 =>
      intro k hk0 hk1 hm9
      refine q_iload_n dX11_howManyThere_4 rfl ?_
      refine q_aload_n dX11_howManyThere_5 rfl ?_
      refine q_alen rfl (by decide) dX11_howManyThere_6 ?_
      refine q_icmp_ge (tgt := 33) dX11_howManyThere_7 (by decide) ⟨by omega, by omega⟩ ⟨by omega, by omega⟩ (fun h7 => ?_) (fun h7 => ?_)
      · skip
        refine q_iload_n dX11_howManyThere_33 rfl ?_
        exact q_iret rfl dX11_howManyThere_34 (⟨by rw [show k = 4 by omega], rfl⟩)
      · skip
        refine q_iload_n dX11_howManyThere_10 rfl ?_
        refine q_aload_n dX11_howManyThere_11 rfl ?_
        refine q_iload_n dX11_howManyThere_12 rfl ?_
        refine q_aald rfl (by decide) (by omega) (by omega) dX11_howManyThere_13 ?_
        rw [x_texts_e (i := k) (by omega) (by omega)]
        show q_J _ _ _ _ _ _ _ (.ref (44 + 2 * k.toNat) :: _) _
        refine q_cV [] kX11_89_7 (x_rO (x_isR_texts (r := k) hk0 (by omega))) (tX7_isMissing w ξ B P g (44 + 2 * k.toNat) 60 (x_isR_texts (r := k) hk0 (by omega)) (by have := hz k hk0 (by omega); omega)) dX11_howManyThere_14 rfl (by decide) (Nat.le_of_ble_eq_true rfl) rfl ?_
        refine q_ifb_eq (tgt := 24) dX11_howManyThere_17 (by decide) (fun h17 => ?_) (fun h17 => ?_)
        · skip
          refine q_iconst dX11_howManyThere_24 ?_
          refine q_iadd dX11_howManyThere_25 ?_
          refine q_istore_n (lv' := [some (.ref 2), some (q_i ((z_sum (fun (k : Int) => if ξ (44 + 2 * k.toNat) 1 < 0 then 0 else 1) k) + 1)), some (q_i k)]) dX11_howManyThere_26 (by decide) rfl ?_
          refine q_iinc (lv' := [some (.ref 2), some (q_i ((z_sum (fun (k : Int) => if ξ (44 + 2 * k.toNat) 1 < 0 then 0 else 1) k) + 1)), some (q_i (k + 1))]) dX11_howManyThere_27 rfl (by decide) rfl ?_
          refine q_goto (tgt := 4) dX11_howManyThere_30 (by decide) ?_
          exact q_Jle (q_le_s (rfl) (q_le_s (by rw [z_sum_s _ hk0]; (try dsimp only); (repeat' split) <;> first | rfl | (exfalso; omega)) (q_le_s (rfl) (q_le_e _)))) (rfl) (rfl) (ih4 (k + 1) (by omega) (by omega) (by omega))
        · skip
          refine q_iconst dX11_howManyThere_20 ?_
          refine q_goto (tgt := 25) dX11_howManyThere_21 (by decide) ?_
          refine q_iadd dX11_howManyThere_25 ?_
          refine q_istore_n (lv' := [some (.ref 2), some (q_i ((z_sum (fun (k : Int) => if ξ (44 + 2 * k.toNat) 1 < 0 then 0 else 1) k) + 0)), some (q_i k)]) dX11_howManyThere_26 (by decide) rfl ?_
          refine q_iinc (lv' := [some (.ref 2), some (q_i ((z_sum (fun (k : Int) => if ξ (44 + 2 * k.toNat) 1 < 0 then 0 else 1) k) + 0)), some (q_i (k + 1))]) dX11_howManyThere_27 rfl (by decide) rfl ?_
          refine q_goto (tgt := 4) dX11_howManyThere_30 (by decide) ?_
          exact q_Jle (q_le_s (rfl) (q_le_s (by rw [z_sum_s _ hk0]; (try dsimp only); (repeat' split) <;> first | rfl | (exfalso; omega)) (q_le_s (rfl) (q_le_e _)))) (rfl) (rfl) (ih4 (k + 1) (by omega) (by omega) (by omega))
  exact q_Jle (q_le_s (rfl) (q_le_s (rfl) (q_le_s (rfl) (q_le_e _)))) (rfl) (rfl) (L4 ((4 : Int).toNat + 1) 0 (by omega) (by omega) (by omega))
set_option maxRecDepth 20000 in
theorem tX11_digestRows_2 (w : q_W) (ξ : m_S) (B P : Nat) (g : Int → Option Nat) (h : Int) (hz : ∀ r : Int, 0 ≤ r → r < 4 → -1 ≤ ξ (44 + 2 * r.toNat) 1 ∧ ξ (44 + 2 * r.toNat) 1 ≤ 60) (hr : ∀ r : Int, 0 ≤ r → r < 4 → ∀ j : Int, 0 ≤ j → j < ξ (44 + 2 * r.toNat) 1 → q_r (ξ (44 + 2 * r.toNat + 1) j)) : q_D mX11_digestRows 0 [q_l h, .ref 2] (x_w w ξ B P g) (some (q_l (z_hrows (fun (r : Int) => ξ (44 + 2 * r.toNat) 1) (fun (r j : Int) => ξ (44 + 2 * r.toNat + 1) j) h 4))) (x_w w ξ B P g) := by
  refine q_T.of (lv := [some (q_l h), none, some (.ref 2), none, none]) (by decide) rfl (Nat.le_of_ble_eq_true rfl) ?_
  refine q_iconst dX11_digestRows_0 ?_
  refine q_istore_n (lv' := [some (q_l h), none, some (.ref 2), some (q_i 0), none]) dX11_digestRows_1 (by decide) rfl ?_
  have L2 : ∀ (m9 : Nat) (k : Int) (hk0 : 0 ≤ k) (hk1 : k ≤ 4) (hm9 : 4 - k < (m9 : Int)), q_J mX11_digestRows 0 (fun v' w' => v' = (some (q_l (z_hrows (fun (r : Int) => ξ (44 + 2 * r.toNat) 1) (fun (r j : Int) => ξ (44 + 2 * r.toNat + 1) j) h 4))) ∧ w' = (x_w w ξ B P g)) 0 0 2 [some (q_l (z_hrows (fun (r : Int) => ξ (44 + 2 * r.toNat) 1) (fun (r j : Int) => ξ (44 + 2 * r.toNat + 1) j) h k)), none, some (.ref 2), some (q_i k), none] [] (x_w w ξ B P g) := by
    intro m9
    induction m9 with
    | zero => intro k hk0 hk1 hm9; exact absurd hm9 (by omega)
    | succ m9 ih2 =>
      intro k hk0 hk1 hm9
      refine q_iload_n dX11_digestRows_2 rfl ?_
      refine q_aload_n dX11_digestRows_3 rfl ?_
      refine q_alen rfl (by decide) dX11_digestRows_4 ?_
      refine q_icmp_ge (tgt := 65) dX11_digestRows_5 (by decide) ⟨by omega, by omega⟩ ⟨by omega, by omega⟩ (fun h5 => ?_) (fun h5 => ?_)
      · skip
        refine q_lload_n dX11_digestRows_65 rfl ?_
        exact q_lret rfl dX11_digestRows_66 (⟨by rw [show k = 4 by omega], rfl⟩)
      · skip
        have hzk := hz k hk0 (by omega)
        refine q_ldc2 31 wd_999 dX11_digestRows_8 ?_
        refine q_lload_n dX11_digestRows_11 rfl ?_
        refine q_lmul dX11_digestRows_12 ?_
        refine q_aload_n dX11_digestRows_13 rfl ?_
        refine q_iload_n dX11_digestRows_14 rfl ?_
        refine q_aald rfl (by decide) (by omega) (by omega) dX11_digestRows_15 ?_
        rw [x_texts_e (i := k) (by omega) (by omega)]
        show q_J _ _ _ _ _ _ _ (.ref (44 + 2 * k.toNat) :: _) _
        refine q_get (v := q_i (ξ (44 + 2 * k.toNat) 1)) fX11_82_7 (x_rO (x_isR_texts (r := k) hk0 (by omega))) rfl dX11_digestRows_16 ?_
        refine q_i2lr dX11_digestRows_19 ⟨by omega, by omega⟩ ?_
        refine q_ladd dX11_digestRows_20 ?_
        refine q_lstore_n (lv' := [some (q_l ((31 * (z_hrows (fun (r : Int) => ξ (44 + 2 * r.toNat) 1) (fun (r j : Int) => ξ (44 + 2 * r.toNat + 1) j) h k)) + (ξ (44 + 2 * k.toNat) 1))), none, some (.ref 2), some (q_i k), none]) dX11_digestRows_21 (by decide) rfl ?_
        refine q_iconst dX11_digestRows_22 ?_
        refine q_istore (lv' := [some (q_l ((31 * (z_hrows (fun (r : Int) => ξ (44 + 2 * r.toNat) 1) (fun (r j : Int) => ξ (44 + 2 * r.toNat + 1) j) h k)) + (ξ (44 + 2 * k.toNat) 1))), none, some (.ref 2), some (q_i k), some (q_i 0)]) dX11_digestRows_23 (by decide) rfl ?_
        have L25 : ∀ (m9 : Nat) (j : Int) (hj0 : 0 ≤ j) (hj1 : j ≤ (ξ (44 + 2 * k.toNat) 1) ∨ j = 0) (hm9 : 61 - j < (m9 : Int)), q_J mX11_digestRows 0 (fun v' w' => v' = (some (q_l (z_hrows (fun (r : Int) => ξ (44 + 2 * r.toNat) 1) (fun (r j : Int) => ξ (44 + 2 * r.toNat + 1) j) h 4))) ∧ w' = (x_w w ξ B P g)) 0 0 25 [some (q_l (z_hash (ξ (44 + 2 * k.toNat + 1)) (31 * (z_hrows (fun (r : Int) => ξ (44 + 2 * r.toNat) 1) (fun (r j : Int) => ξ (44 + 2 * r.toNat + 1) j) h k) + (ξ (44 + 2 * k.toNat) 1)) j)), none, some (.ref 2), some (q_i k), some (q_i j)] [] (x_w w ξ B P g) := by
          intro m9
          induction m9 with
          | zero => intro j hj0 hj1 hm9; exact absurd hm9 (by omega)
          | succ m9 ih25 =>
            intro j hj0 hj1 hm9
            refine q_iload dX11_digestRows_25 rfl ?_
            refine q_aload_n dX11_digestRows_27 rfl ?_
            refine q_iload_n dX11_digestRows_28 rfl ?_
            refine q_aald rfl (by decide) (by omega) (by omega) dX11_digestRows_29 ?_
            rw [x_texts_e (i := k) (by omega) (by omega)]
            show q_J _ _ _ _ _ _ _ (.ref (44 + 2 * k.toNat) :: _) _
            refine q_get (v := q_i (ξ (44 + 2 * k.toNat) 1)) fX11_82_7 (x_rO (x_isR_texts (r := k) hk0 (by omega))) rfl dX11_digestRows_30 ?_
            refine q_icmp_ge (tgt := 59) dX11_digestRows_33 (by decide) ⟨by omega, by omega⟩ ⟨by omega, by omega⟩ (fun h33 => ?_) (fun h33 => ?_)
            · skip
              refine q_iinc (lv' := [some (q_l (z_hash (ξ (44 + 2 * k.toNat + 1)) (31 * (z_hrows (fun (r : Int) => ξ (44 + 2 * r.toNat) 1) (fun (r j : Int) => ξ (44 + 2 * r.toNat + 1) j) h k) + (ξ (44 + 2 * k.toNat) 1)) j)), none, some (.ref 2), some (q_i (k + 1)), some (q_i j)]) dX11_digestRows_59 rfl (by decide) rfl ?_
              refine q_goto (tgt := 2) dX11_digestRows_62 (by decide) ?_
              exact q_Jle (q_le_s (by (rw [z_hrows_s _ _ _ hk0]; (try dsimp only); rcases (show j = (ξ (44 + 2 * k.toNat) 1) ∨ ((ξ (44 + 2 * k.toNat) 1) < 0 ∧ j = 0) by omega) with q | q; rw [q]; rw [q.2, z_hash_0, z_hash_n _ _ (by omega)])) (q_le_n (q_le_s (rfl) (q_le_s (rfl) (q_le_n (q_le_e _)))))) (rfl) (rfl) (ih2 (k + 1) (by omega) (by omega) (by omega))
            · skip
              refine q_ldc2 31 wd_999 dX11_digestRows_36 ?_
              refine q_lload_n dX11_digestRows_39 rfl ?_
              refine q_lmul dX11_digestRows_40 ?_
              refine q_aload_n dX11_digestRows_41 rfl ?_
              refine q_iload_n dX11_digestRows_42 rfl ?_
              refine q_aald rfl (by decide) (by omega) (by omega) dX11_digestRows_43 ?_
              rw [x_texts_e (i := k) (by omega) (by omega)]
              show q_J _ _ _ _ _ _ _ (.ref (44 + 2 * k.toNat) :: _) _
              refine q_get (v := .ref ((44 + 2 * k.toNat) + 1)) fX11_72_7 (x_rO (x_isR_texts (r := k) hk0 (by omega))) rfl dX11_digestRows_44 ?_
              refine q_iload dX11_digestRows_47 rfl ?_
              refine q_iald (f := (ξ ((44 + 2 * k.toNat) + 1))) (n9 := 60) (x_rP (x_isR_texts (r := k) hk0 (by omega))) (by omega) (by omega) dX11_digestRows_49 ?_ (by rcases ((x_isR_texts (r := k) hk0 (by omega))).n with q | q <;> omega)
              refine q_i2lr dX11_digestRows_50 (hr k hk0 (by omega) j hj0 (by omega)) ?_
              refine q_ladd dX11_digestRows_51 ?_
              refine q_lstore_n (lv' := [some (q_l ((31 * (z_hash (ξ (44 + 2 * k.toNat + 1)) (31 * (z_hrows (fun (r : Int) => ξ (44 + 2 * r.toNat) 1) (fun (r j : Int) => ξ (44 + 2 * r.toNat + 1) j) h k) + (ξ (44 + 2 * k.toNat) 1)) j)) + ((ξ ((44 + 2 * k.toNat) + 1)) j))), none, some (.ref 2), some (q_i k), some (q_i j)]) dX11_digestRows_52 (by decide) rfl ?_
              refine q_iinc (lv' := [some (q_l ((31 * (z_hash (ξ (44 + 2 * k.toNat + 1)) (31 * (z_hrows (fun (r : Int) => ξ (44 + 2 * r.toNat) 1) (fun (r j : Int) => ξ (44 + 2 * r.toNat + 1) j) h k) + (ξ (44 + 2 * k.toNat) 1)) j)) + ((ξ ((44 + 2 * k.toNat) + 1)) j))), none, some (.ref 2), some (q_i k), some (q_i (j + 1))]) dX11_digestRows_53 rfl (by decide) rfl ?_
              refine q_goto (tgt := 25) dX11_digestRows_56 (by decide) ?_
              exact q_Jle (q_le_s (by rw [z_hash_s _ _ hj0]) (q_le_n (q_le_s (rfl) (q_le_s (rfl) (q_le_s (rfl) (q_le_e _)))))) (rfl) (rfl) (ih25 (j + 1) (by omega) (by omega) (by omega))
        exact q_Jle (q_le_s (by rw [z_hash_0]) (q_le_n (q_le_s (rfl) (q_le_s (rfl) (q_le_s (rfl) (q_le_e _)))))) (rfl) (rfl) (L25 ((61 : Int).toNat + 1) 0 (by omega) (by omega) (by omega))
  exact q_Jle (q_le_s (rfl) (q_le_n (q_le_s (rfl) (q_le_s (rfl) (q_le_n (q_le_e _)))))) (rfl) (rfl) (L2 ((4 : Int).toNat + 1) 0 (by omega) (by omega) (by omega))
theorem x_isS_k {k : Int} (h0 : 0 ≤ k) (h1 : k < 3) : x_isS (52 + 4 * k.toNat) := by
  unfold x_isS
  omega
set_option maxRecDepth 20000 in
theorem tX11_howManyKept (w : q_W) (ξ : m_S) (B P : Nat) (g : Int → Option Nat) (hz : ∀ k : Int, 0 ≤ k → k < 3 → -1 ≤ ξ (52 + 4 * k.toNat) 0 ∧ ξ (52 + 4 * k.toNat) 0 ≤ 16) : q_D mX11_howManyKept 0 [.ref 0] (x_w w ξ B P g) (some (q_i (z_sum (fun (k : Int) => if ξ (52 + 4 * k.toNat) 0 < 0 then 0 else 1) 3))) (x_w w ξ B P g) := by
  refine q_T.of (lv := [some (.ref 0), none, none]) (by decide) rfl (Nat.le_of_ble_eq_true rfl) ?_
  refine q_iconst dX11_howManyKept_0 ?_
  refine q_istore_n (lv' := [some (.ref 0), some (q_i 0), none]) dX11_howManyKept_1 (by decide) rfl ?_
  refine q_iconst dX11_howManyKept_2 ?_
  refine q_istore_n (lv' := [some (.ref 0), some (q_i 0), some (q_i 0)]) dX11_howManyKept_3 (by decide) rfl ?_
  have L4 : ∀ (m9 : Nat) (k : Int) (hk0 : 0 ≤ k) (hk1 : k ≤ 3) (hm9 : 3 - k < (m9 : Int)), q_J mX11_howManyKept 0 (fun v' w' => v' = (some (q_i (z_sum (fun (k : Int) => if ξ (52 + 4 * k.toNat) 0 < 0 then 0 else 1) 3))) ∧ w' = (x_w w ξ B P g)) 0 0 4 [some (.ref 0), some (q_i (z_sum (fun (k : Int) => if ξ (52 + 4 * k.toNat) 0 < 0 then 0 else 1) k)), some (q_i k)] [] (x_w w ξ B P g) := by
    intro m9
    induction m9 with
    | zero => intro k hk0 hk1 hm9; exact absurd hm9 (by omega)
    | succ m9 ih4 =>
      intro k hk0 hk1 hm9
      refine q_iload_n dX11_howManyKept_4 rfl ?_
      refine q_aload_n dX11_howManyKept_5 rfl ?_
      refine q_get (v := .ref 3) fX11_20_11 rfl rfl dX11_howManyKept_6 ?_
      refine q_alen rfl (by decide) dX11_howManyKept_9 ?_
      refine q_icmp_ge (tgt := 39) dX11_howManyKept_10 (by decide) ⟨by omega, by omega⟩ ⟨by omega, by omega⟩ (fun h10 => ?_) (fun h10 => ?_)
      · skip
        refine q_iload_n dX11_howManyKept_39 rfl ?_
        exact q_iret rfl dX11_howManyKept_40 (⟨by rw [show k = 3 by omega], rfl⟩)
      · skip
        refine q_iload_n dX11_howManyKept_13 rfl ?_
        refine q_aload_n dX11_howManyKept_14 rfl ?_
        refine q_get (v := .ref 3) fX11_20_11 rfl rfl dX11_howManyKept_15 ?_
        refine q_iload_n dX11_howManyKept_18 rfl ?_
        refine q_aald rfl (by decide) (by omega) (by omega) dX11_howManyKept_19 ?_
        rw [x_kept_e (i := k) (by omega) (by omega)]
        show q_J _ _ _ _ _ _ _ (.ref (52 + 4 * k.toNat) :: _) _
        have hzk := hz k hk0 (by omega)
        refine q_get (v := q_i (ξ (52 + 4 * k.toNat) 0)) fX11_114_9 (x_sO (x_isS_k (k := k) hk0 (by omega))) rfl dX11_howManyKept_20 ?_
        refine q_if_ge (tgt := 30) dX11_howManyKept_23 (by decide) ⟨by omega, by omega⟩ (fun h23 => ?_) (fun h23 => ?_)
        · skip
          refine q_iconst dX11_howManyKept_30 ?_
          refine q_iadd dX11_howManyKept_31 ?_
          refine q_istore_n (lv' := [some (.ref 0), some (q_i ((z_sum (fun (k : Int) => if ξ (52 + 4 * k.toNat) 0 < 0 then 0 else 1) k) + 1)), some (q_i k)]) dX11_howManyKept_32 (by decide) rfl ?_
          refine q_iinc (lv' := [some (.ref 0), some (q_i ((z_sum (fun (k : Int) => if ξ (52 + 4 * k.toNat) 0 < 0 then 0 else 1) k) + 1)), some (q_i (k + 1))]) dX11_howManyKept_33 rfl (by decide) rfl ?_
          refine q_goto (tgt := 4) dX11_howManyKept_36 (by decide) ?_
          exact q_Jle (q_le_s (rfl) (q_le_s (by rw [z_sum_s _ hk0]; (try dsimp only); (repeat' split) <;> first | rfl | (exfalso; omega)) (q_le_s (rfl) (q_le_e _)))) (rfl) (rfl) (ih4 (k + 1) (by omega) (by omega) (by omega))
        · skip
          refine q_iconst dX11_howManyKept_26 ?_
          refine q_goto (tgt := 31) dX11_howManyKept_27 (by decide) ?_
          refine q_iadd dX11_howManyKept_31 ?_
          refine q_istore_n (lv' := [some (.ref 0), some (q_i ((z_sum (fun (k : Int) => if ξ (52 + 4 * k.toNat) 0 < 0 then 0 else 1) k) + 0)), some (q_i k)]) dX11_howManyKept_32 (by decide) rfl ?_
          refine q_iinc (lv' := [some (.ref 0), some (q_i ((z_sum (fun (k : Int) => if ξ (52 + 4 * k.toNat) 0 < 0 then 0 else 1) k) + 0)), some (q_i (k + 1))]) dX11_howManyKept_33 rfl (by decide) rfl ?_
          refine q_goto (tgt := 4) dX11_howManyKept_36 (by decide) ?_
          exact q_Jle (q_le_s (rfl) (q_le_s (by rw [z_sum_s _ hk0]; (try dsimp only); (repeat' split) <;> first | rfl | (exfalso; omega)) (q_le_s (rfl) (q_le_e _)))) (rfl) (rfl) (ih4 (k + 1) (by omega) (by omega) (by omega))
  exact q_Jle (q_le_s (rfl) (q_le_s (rfl) (q_le_s (rfl) (q_le_e _)))) (rfl) (rfl) (L4 ((3 : Int).toNat + 1) 0 (by omega) (by omega) (by omega))
