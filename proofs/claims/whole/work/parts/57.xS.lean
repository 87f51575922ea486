/-! the class: told looks looked through, persons digested -/
def x_FK (ξ : m_S) : Int → Int := fun k => x_fct ξ (k.tdiv 4) (k.tmod 4)
theorem x_FK_e (ξ : m_S) {p t : Int} (hp : 0 ≤ p) (h0 : 0 ≤ t) (h1 : t < 4) : x_FK ξ (4 * p + t) = x_fct ξ p t := by
  unfold x_FK
  rw [Int.tdiv_eq_ediv_of_nonneg (by omega), Int.tmod_eq_emod_of_nonneg (by omega), show (4 * p + t) / 4 = p by omega, show (4 * p + t) % 4 = t by omega]
theorem x_fct_r {ξ : m_S} (hG : x_G ξ) {p : Int} (hT : x_Pt ξ p) (hD : x_De ξ) (t : Int) : 0 ≤ x_fct ξ p t ∧ x_fct ξ p t ≤ 216 := by
  have h1 := x_in_r hG hT
  have h2 := z_ind_r (fun d => ξ 12 d = p) (n := ξ 10 0) hD.1.1
  have h3 := hT.1
  have h4 := hT.2.1
  have h5 := hD.1
  unfold x_fct
  (repeat' split) <;> omega
set_option maxRecDepth 20000 in
theorem tX11_digestPersons (w : q_W) (ξ : m_S) (B P : Nat) (g : Int → Option Nat) (h : Int) (hPs : x_Ps ξ B P g) (hTs : ∀ p, 0 ≤ p → p < ξ 7 0 → x_Pt ξ p) (hD : x_De ξ) (hG : 0 < ξ 7 0 → x_G ξ) : q_D mX11_digestPersons 2 [.ref 0, q_l h] (x_w w ξ B P g) (some (q_l (z_hash (x_FK ξ) h (4 * ξ 7 0)))) (x_w w ξ B P g) := by
  refine q_T.of (lv := [some (.ref 0), some (q_l h), none, none, none, none]) (by decide) rfl (Nat.le_of_ble_eq_true rfl) ?_
  have hPs1 := hPs.1
  have hPs2 := hPs.2.1
  have hPs3 := hPs.2.2.1
  refine q_iconst dX11_digestPersons_0 ?_
  refine q_istore_n (lv' := [some (.ref 0), some (q_l h), none, some (q_i 0), none, none]) dX11_digestPersons_1 (by decide) rfl ?_
  have L2 : ∀ (m9 : Nat) (p : Int) (hp0 : 0 ≤ p) (hp1 : p ≤ ξ 7 0) (hm9 : ξ 7 0 - p < (m9 : Int)), q_J mX11_digestPersons 2 (fun v' w' => v' = (some (q_l (z_hash (x_FK ξ) h (4 * ξ 7 0)))) ∧ w' = (x_w w ξ B P g)) 0 0 2 [some (.ref 0), some (q_l (z_hash (x_FK ξ) h (4 * p))), none, some (q_i p), none, none] [] (x_w w ξ B P g) := by
    intro m9
    induction m9 with
    | zero => intro p hp0 hp1 hm9; exact absurd hm9 (by omega)
    | succ m9 ih2 =>
      intro p hp0 hp1 hm9
      refine q_iload_n dX11_digestPersons_2 rfl ?_
      refine q_aload_n dX11_digestPersons_3 rfl ?_
      refine q_get (v := .ref 7) fX11_34_11 rfl rfl dX11_digestPersons_4 ?_
      refine q_get (v := q_i (ξ 7 0)) fX11_115_8 rfl rfl dX11_digestPersons_7 ?_
      refine q_icmp_ge (tgt := 66) dX11_digestPersons_10 (by decide) ⟨by omega, by omega⟩ ⟨by omega, by omega⟩ (fun h10 => ?_) (fun h10 => ?_)
      · skip
        refine q_lload_n dX11_digestPersons_66 rfl ?_
        exact q_lret rfl dX11_digestPersons_67 (⟨by rw [show p = ξ 7 0 by omega], rfl⟩)
      · skip
        refine q_aload_n dX11_digestPersons_13 rfl ?_
        refine q_get (v := .ref 7) fX11_34_11 rfl rfl dX11_digestPersons_14 ?_
        refine q_iload_n dX11_digestPersons_17 rfl ?_
        refine q_cV [q_i p] kX11_118_8 rfl (tX8_personAt_y w ξ B P g p (show (0 : Int) ≤ p by omega) (show p < ξ 7 0 by omega) hPs) dX11_digestPersons_18 rfl (by decide) (Nat.le_of_ble_eq_true rfl) rfl ?_
        refine q_astore (lv' := [some (.ref 0), some (q_l (z_hash (x_FK ξ) h (4 * p))), none, some (q_i p), some (.ref (B + p.toNat)), none]) dX11_digestPersons_21 (by decide) rfl ?_
        refine q_iconst dX11_digestPersons_23 ?_
        refine q_istore (lv' := [some (.ref 0), some (q_l (z_hash (x_FK ξ) h (4 * p))), none, some (q_i p), some (.ref (B + p.toNat)), some (q_i 0)]) dX11_digestPersons_24 (by decide) rfl ?_
        have L26 : ∀ (m9 : Nat) (t : Int) (ht0 : 0 ≤ t) (ht1 : t ≤ 4) (hm9 : 4 - t < (m9 : Int)), q_J mX11_digestPersons 2 (fun v' w' => v' = (some (q_l (z_hash (x_FK ξ) h (4 * ξ 7 0)))) ∧ w' = (x_w w ξ B P g)) 0 0 26 [some (.ref 0), some (q_l (z_hash (x_FK ξ) h (4 * p + t))), none, some (q_i p), some (.ref (B + p.toNat)), some (q_i t)] [] (x_w w ξ B P g) := by
          intro m9
          induction m9 with
          | zero => intro t ht0 ht1 hm9; exact absurd hm9 (by omega)
          | succ m9 ih26 =>
            intro t ht0 ht1 hm9
            refine q_iload dX11_digestPersons_26 rfl ?_
            refine q_iconst dX11_digestPersons_28 ?_
            refine q_icmp_gt (tgt := 60) dX11_digestPersons_29 (by decide) ⟨by omega, by omega⟩ ⟨by decide, by decide⟩ (fun h29 => ?_) (fun h29 => ?_)
            · skip
              refine q_iinc (lv' := [some (.ref 0), some (q_l (z_hash (x_FK ξ) h (4 * p + t))), none, some (q_i (p + 1)), some (.ref (B + p.toNat)), some (q_i t)]) dX11_digestPersons_60 rfl (by decide) rfl ?_
              refine q_goto (tgt := 2) dX11_digestPersons_63 (by decide) ?_
              exact q_Jle (q_le_s (rfl) (q_le_s (by rw [show 4 * (p + 1) = 4 * p + t by omega]) (q_le_n (q_le_s (rfl) (q_le_n (q_le_n (q_le_e _))))))) (rfl) (rfl) (ih2 (p + 1) (by omega) (by omega) (by omega))
            · skip
              refine q_aload dX11_digestPersons_32 rfl ?_
              refine q_ifnullS dX11_digestPersons_34 ?_
              refine q_ldc2 31 wd_999 dX11_digestPersons_37 ?_
              refine q_lload_n dX11_digestPersons_40 rfl ?_
              refine q_lmul dX11_digestPersons_41 ?_
              refine q_aload_n dX11_digestPersons_42 rfl ?_
              refine q_aload dX11_digestPersons_43 rfl ?_
              refine q_iload_n dX11_digestPersons_45 rfl ?_
              refine q_iload dX11_digestPersons_46 rfl ?_
              refine q_cV [.ref (B + p.toNat), q_i p, q_i t] kX11_122_11 rfl (tX11_factOf w ξ B P g p t (by omega) (by omega) (by omega) (by omega) hPs hTs hD) dX11_digestPersons_48 rfl (by decide) (Nat.le_of_ble_eq_true rfl) rfl ?_
              refine q_i2lr dX11_digestPersons_51 ⟨by have := x_fct_r (hG (by omega)) (hTs p (by omega) (by omega)) hD t; omega, by have := x_fct_r (hG (by omega)) (hTs p (by omega) (by omega)) hD t; omega⟩ ?_
              refine q_ladd dX11_digestPersons_52 ?_
              refine q_lstore_n (lv' := [some (.ref 0), some (q_l ((31 * (z_hash (x_FK ξ) h (4 * p + t))) + (x_fct ξ p t))), none, some (q_i p), some (.ref (B + p.toNat)), some (q_i t)]) dX11_digestPersons_53 (by decide) rfl ?_
              refine q_iinc (lv' := [some (.ref 0), some (q_l ((31 * (z_hash (x_FK ξ) h (4 * p + t))) + (x_fct ξ p t))), none, some (q_i p), some (.ref (B + p.toNat)), some (q_i (t + 1))]) dX11_digestPersons_54 rfl (by decide) rfl ?_
              refine q_goto (tgt := 26) dX11_digestPersons_57 (by decide) ?_
              exact q_Jle (q_le_s (rfl) (q_le_s (by rw [← Int.add_assoc, z_hash_s _ _ (by omega), x_FK_e ξ hp0 ht0 (by omega)]) (q_le_n (q_le_s (rfl) (q_le_s (rfl) (q_le_s (rfl) (q_le_e _))))))) (rfl) (rfl) (ih26 (t + 1) (by omega) (by omega) (by omega))
        exact q_Jle (q_le_s (rfl) (q_le_s (by rw [Int.add_zero]) (q_le_n (q_le_s (rfl) (q_le_s (rfl) (q_le_s (rfl) (q_le_e _))))))) (rfl) (rfl) (L26 ((4 : Int).toNat + 1) 0 (by omega) (by omega) (by omega))
  exact q_Jle (q_le_s (rfl) (q_le_s (by rw [Int.mul_zero, z_hash_0]) (q_le_n (q_le_s (rfl) (q_le_n (q_le_n (q_le_e _))))))) (rfl) (rfl) (L2 ((ξ 7 0 : Int).toNat + 1) 0 (by omega) (by omega) (by omega))
def x_ok0 (f : Int → Int) (A S : Int) : Nat → Int
  | 0 => 1
  | k + 1 => if x_ok0 f A S k ≠ 0 ∧ (0 ≤ f (2 * k) ∧ f (2 * k) ≤ A - 1) ∧ (0 ≤ f (2 * k + 1) ∧ f (2 * k + 1) ≤ S - 1) then 1 else 0
theorem x_ok0_0 (f : Int → Int) (A S : Int) {k : Nat} (h : x_ok0 f A S k = 0) : ∀ j : Nat, x_ok0 f A S (k + j) = 0
  | 0 => h
  | j + 1 => by
    show (if x_ok0 f A S (k + j) ≠ 0 ∧ _ then (1 : Int) else 0) = 0
    rw [if_neg (fun q => q.1 (x_ok0_0 f A S h j))]
def x_ok (f : Int → Int) (A S n : Int) : Int := x_ok0 f A S n.toNat
theorem x_ok_s (f : Int → Int) (A S : Int) {n : Int} (h : 0 ≤ n) : x_ok f A S (n + 1) = if x_ok f A S n ≠ 0 ∧ (0 ≤ f (2 * n) ∧ f (2 * n) ≤ A - 1) ∧ (0 ≤ f (2 * n + 1) ∧ f (2 * n + 1) ≤ S - 1) then 1 else 0 := by
  unfold x_ok
  rw [show (n + 1).toNat = n.toNat + 1 by omega]
  show (if x_ok0 f A S n.toNat ≠ 0 ∧ (0 ≤ f (2 * (n.toNat : Int)) ∧ f (2 * (n.toNat : Int)) ≤ A - 1) ∧ (0 ≤ f (2 * (n.toNat : Int) + 1) ∧ f (2 * (n.toNat : Int) + 1) ≤ S - 1) then (1 : Int) else 0) = _
  rw [Int.toNat_of_nonneg h]
theorem x_ok_no {f : Int → Int} {A S n m : Int} (h0 : 0 ≤ n) (h1 : n < m) (h : ¬ ((0 ≤ f (2 * n) ∧ f (2 * n) ≤ A - 1) ∧ (0 ≤ f (2 * n + 1) ∧ f (2 * n + 1) ≤ S - 1))) : x_ok f A S m = 0 := by
  have e : x_ok f A S (n + 1) = 0 := by
    rw [x_ok_s _ _ _ h0, if_neg (fun q => h q.2)]
  have q := x_ok0_0 f A S (k := (n + 1).toNat) e (m.toNat - (n + 1).toNat)
  unfold x_ok
  rwa [show (n + 1).toNat + (m.toNat - (n + 1).toNat) = m.toNat by omega] at q
def x_rt_v (ξ : m_S) (a : Nat) : Int := if ξ 7 0 = 0 then -4 else if ξ a 1 < 0 then -3 else if 12 < ξ a 1 ∨ (ξ a 1).tmod 2 ≠ 0 then -3 else if x_ok (ξ (a + 1)) (ξ 7 0) (ξ 8 2) ((ξ a 1).tdiv 2) = 0 then -3 else 0
def x_rt_s (ξ : m_S) (a : Nat) : m_S := if ξ 7 0 = 0 then ξ else if ξ a 1 < 0 then x_fi ξ 1 else if 12 < ξ a 1 ∨ (ξ a 1).tmod 2 ≠ 0 then x_fi ξ 5 else if x_ok (ξ (a + 1)) (ξ 7 0) (ξ 8 2) ((ξ a 1).tdiv 2) = 0 then x_fi ξ 3 else ξ
set_option maxRecDepth 20000 in
theorem tX11_refusedTold (w : q_W) (ξ : m_S) (B P : Nat) (g : Int → Option Nat) (r : Int) (hr0 : 0 ≤ r) (hr1 : r < 6) (hz : -1 ≤ ξ (32 + 2 * r.toNat) 1 ∧ ξ (32 + 2 * r.toNat) 1 ≤ 40) (hit : ∀ j, 0 ≤ j → j < ξ (32 + 2 * r.toNat) 1 → q_r (ξ (32 + 2 * r.toNat + 1) j)) (hPs : x_Ps ξ B P g) (hS : 0 ≤ ξ 8 2 ∧ ξ 8 2 ≤ 216) : q_D mX11_refusedTold 1 [.ref 0, q_i r] (x_w w ξ B P g) (some (q_i (x_rt_v ξ (32 + 2 * r.toNat)))) (x_w w (x_rt_s ξ (32 + 2 * r.toNat)) B P g) := by
  refine q_T.of (lv := [some (.ref 0), some (q_i r), none, none]) (by decide) rfl (Nat.le_of_ble_eq_true rfl) ?_
  have hPs1 := hPs.1
  have hPs2 := hPs.2.1
  have hPs3 := hPs.2.2.1
  refine q_aload_n dX11_refusedTold_0 rfl ?_
  refine q_get (v := .ref 1) fX11_11_11 rfl rfl dX11_refusedTold_1 ?_
  refine q_iload_n dX11_refusedTold_4 rfl ?_
  refine q_cS [.ref 1, q_i r] kX11_60 (tX11_among_1y w ξ B P g r (by omega) (by omega)) dX11_refusedTold_5 rfl (by decide) (Nat.le_of_ble_eq_true rfl) rfl ?_
  refine q_astore_n (lv' := [some (.ref 0), some (q_i r), some (.ref (32 + 2 * r.toNat)), none]) dX11_refusedTold_8 (by decide) rfl ?_
  refine q_aload_n dX11_refusedTold_9 rfl ?_
  refine q_ifnonnullS (tgt := 15) dX11_refusedTold_10 (by decide) ?_
  refine q_aload_n dX11_refusedTold_15 rfl ?_
  refine q_get (v := .ref 7) fX11_34_11 rfl rfl dX11_refusedTold_16 ?_
  refine q_get (v := q_i (ξ 7 0)) fX11_115_8 rfl rfl dX11_refusedTold_19 ?_
  refine q_if_ne (tgt := 28) dX11_refusedTold_22 (by decide) ⟨by omega, by omega⟩ (fun h22 => ?_) (fun h22 => ?_)
  · skip
    refine q_aload_n dX11_refusedTold_28 rfl ?_
    refine q_cV [] kX11_89_7 (x_rO (x_isR_rows hr0 hr1)) (tX7_isMissing w ξ B P g (32 + 2 * r.toNat) 40 (x_isR_rows hr0 hr1) (by omega)) dX11_refusedTold_29 rfl (by decide) (Nat.le_of_ble_eq_true rfl) rfl ?_
    refine q_ifb_eq (tgt := 41) dX11_refusedTold_32 (by decide) (fun h32 => ?_) (fun h32 => ?_)
    · skip
      have htm0 := Int.tmod_nonneg 2 (show 0 ≤ ξ (32 + 2 * r.toNat) 1 by omega)
      have htm1 := Int.tmod_lt_of_pos (ξ (32 + 2 * r.toNat) 1) (show (0 : Int) < 2 by decide)
      refine q_aload_n dX11_refusedTold_41 rfl ?_
      refine q_get (v := q_i (ξ (32 + 2 * r.toNat) 1)) fX11_82_7 (x_rO (x_isR_rows hr0 hr1)) rfl dX11_refusedTold_42 ?_
      refine q_bipush dX11_refusedTold_45 ?_
      refine q_icmp_gt (tgt := 59) dX11_refusedTold_47 (by decide) ⟨by omega, by omega⟩ ⟨by decide, by decide⟩ (fun h47 => ?_) (fun h47 => ?_)
      · skip
        refine q_aload_n dX11_refusedTold_59 rfl ?_
        refine q_iconst dX11_refusedTold_60 ?_
        refine q_cV [q_i 5] kX11_85_11 rfl (tX11_found w ξ B P g 5 (by decide) (by decide)) dX11_refusedTold_61 rfl (by decide) (Nat.le_of_ble_eq_true rfl) rfl ?_
        exact q_iret rfl dX11_refusedTold_64 (⟨by unfold x_rt_v; (repeat first | rw [if_pos (by omega)] | rw [if_neg (by omega)]), by unfold x_rt_s; (repeat first | rw [if_pos (by omega)] | rw [if_neg (by omega)])⟩)
      · skip
        refine q_aload_n dX11_refusedTold_50 rfl ?_
        refine q_get (v := q_i (ξ (32 + 2 * r.toNat) 1)) fX11_82_7 (x_rO (x_isR_rows hr0 hr1)) rfl dX11_refusedTold_51 ?_
        refine q_iconst dX11_refusedTold_54 ?_
        refine q_irem dX11_refusedTold_55 ⟨by omega, by omega⟩ ⟨by decide, by decide⟩ (by decide) (by omega) ?_
        refine q_if_eq (tgt := 65) dX11_refusedTold_56 (by decide) ⟨by omega, by omega⟩ (fun h56 => ?_) (fun h56 => ?_)
        · skip
          have hnp : ξ (32 + 2 * r.toNat) 1 = 2 * ((ξ (32 + 2 * r.toNat) 1).tdiv 2) := z_half (by omega) (by omega)
          refine q_iconst dX11_refusedTold_65 ?_
          refine q_istore_n (lv' := [some (.ref 0), some (q_i r), some (.ref (32 + 2 * r.toNat)), some (q_i 0)]) dX11_refusedTold_66 (by decide) rfl ?_
          have L67 : ∀ (m9 : Nat) (k : Int) (hk0 : 0 ≤ k) (hk1 : k ≤ ((ξ (32 + 2 * r.toNat) 1).tdiv 2)) (hok : x_ok (ξ ((32 + 2 * r.toNat) + 1)) (ξ 7 0) (ξ 8 2) k = 1) (hm9 : ((ξ (32 + 2 * r.toNat) 1).tdiv 2) - k < (m9 : Int)), q_J mX11_refusedTold 1 (fun v' w' => v' = (some (q_i (x_rt_v ξ (32 + 2 * r.toNat)))) ∧ w' = (x_w w (x_rt_s ξ (32 + 2 * r.toNat)) B P g)) 0 0 67 [some (.ref 0), some (q_i r), some (.ref (32 + 2 * r.toNat)), some (q_i (2 * k))] [] (x_w w ξ B P g) := by
            intro m9
            induction m9 with
            | zero => intro k hk0 hk1 hok hm9; exact absurd hm9 (by omega)
            | succ m9 ih67 =>
              intro k hk0 hk1 hok hm9
              refine q_iload_n dX11_refusedTold_67 rfl ?_
              refine q_iconst dX11_refusedTold_68 ?_
              refine q_iadd dX11_refusedTold_69 ?_
              refine q_aload_n dX11_refusedTold_70 rfl ?_
              refine q_get (v := q_i (ξ (32 + 2 * r.toNat) 1)) fX11_82_7 (x_rO (x_isR_rows hr0 hr1)) rfl dX11_refusedTold_71 ?_
              refine q_icmp_ge (tgt := 126) dX11_refusedTold_74 (by decide) ⟨by omega, by omega⟩ ⟨by omega, by omega⟩ (fun h74 => ?_) (fun h74 => ?_)
              · skip
                refine q_iconst dX11_refusedTold_126 ?_
                exact q_iret rfl dX11_refusedTold_127 (⟨by unfold x_rt_v; rw [if_neg (by omega), if_neg (by omega), if_neg (by omega), if_neg (by rw [← show k = ((ξ (32 + 2 * r.toNat) 1).tdiv 2) by omega, hok]; decide)], by unfold x_rt_s; rw [if_neg (by omega), if_neg (by omega), if_neg (by omega), if_neg (by rw [← show k = ((ξ (32 + 2 * r.toNat) 1).tdiv 2) by omega, hok]; decide)]⟩)
              · skip
                refine q_aload_n dX11_refusedTold_77 rfl ?_
                refine q_get (v := .ref 7) fX11_34_11 rfl rfl dX11_refusedTold_78 ?_
                refine q_aload_n dX11_refusedTold_81 rfl ?_
                refine q_get (v := .ref ((32 + 2 * r.toNat) + 1)) fX11_72_7 (x_rO (x_isR_rows hr0 hr1)) rfl dX11_refusedTold_82 ?_
                refine q_iload_n dX11_refusedTold_85 rfl ?_
                refine q_iald (f := (ξ ((32 + 2 * r.toNat) + 1))) (n9 := 40) (x_rP (x_isR_rows hr0 hr1)) (by omega) (by omega) dX11_refusedTold_86 ?_ (by rcases ((x_isR_rows hr0 hr1)).n with q | q <;> omega)
                show q_J _ _ _ _ _ _ _ [q_i (ξ ((32 + 2 * r.toNat) + 1) (2 * k)), .ref 7] _
                by_cases hq87 : 0 ≤ (ξ ((32 + 2 * r.toNat) + 1) (2 * k)) ∧ (ξ ((32 + 2 * r.toNat) + 1) (2 * k)) < ξ 7 0
                · skip
                  refine q_cV [q_i (ξ ((32 + 2 * r.toNat) + 1) (2 * k))] kX11_118_8 rfl (tX8_personAt_y w ξ B P g (ξ ((32 + 2 * r.toNat) + 1) (2 * k)) (show (0 : Int) ≤ (ξ ((32 + 2 * r.toNat) + 1) (2 * k)) by omega) (show (ξ ((32 + 2 * r.toNat) + 1) (2 * k)) < ξ 7 0 by omega) hPs) dX11_refusedTold_87 rfl (by decide) (Nat.le_of_ble_eq_true rfl) rfl ?_
                  refine q_ifnullS dX11_refusedTold_90 ?_
                  refine q_aload_n dX11_refusedTold_93 rfl ?_
                  refine q_get (v := .ref 7) fX11_34_11 rfl rfl dX11_refusedTold_94 ?_
                  refine q_get (v := .ref 8) fX11_165_8 rfl rfl dX11_refusedTold_97 ?_
                  refine q_aload_n dX11_refusedTold_100 rfl ?_
                  refine q_get (v := .ref ((32 + 2 * r.toNat) + 1)) fX11_72_7 (x_rO (x_isR_rows hr0 hr1)) rfl dX11_refusedTold_101 ?_
                  refine q_iload_n dX11_refusedTold_104 rfl ?_
                  refine q_iconst dX11_refusedTold_105 ?_
                  refine q_iadd dX11_refusedTold_106 ?_
                  refine q_iald (f := (ξ ((32 + 2 * r.toNat) + 1))) (n9 := 40) (x_rP (x_isR_rows hr0 hr1)) (by omega) (by omega) dX11_refusedTold_107 ?_ (by rcases ((x_isR_rows hr0 hr1)).n with q | q <;> omega)
                  show q_J _ _ _ _ _ _ _ [q_i (ξ ((32 + 2 * r.toNat) + 1) ((2 * k) + 1)), .ref 8] _
                  refine q_cV [q_i (ξ ((32 + 2 * r.toNat) + 1) ((2 * k) + 1))] kX11_169_10 rfl (tX10_isSetting w ξ B P g (ξ ((32 + 2 * r.toNat) + 1) ((2 * k) + 1)) ((hit _ (by omega) (by omega))) (show 0 ≤ ξ 8 2 ∧ ξ 8 2 ≤ 216 by omega)) dX11_refusedTold_108 rfl (by decide) (Nat.le_of_ble_eq_true rfl) rfl ?_
                  refine q_ifb_ne (tgt := 120) dX11_refusedTold_111 (by decide) (fun h111 => ?_) (fun h111 => ?_)
                  · skip
                    refine q_iinc (lv' := [some (.ref 0), some (q_i r), some (.ref (32 + 2 * r.toNat)), some (q_i ((2 * k) + 2))]) dX11_refusedTold_120 rfl (by decide) rfl ?_
                    refine q_goto (tgt := 67) dX11_refusedTold_123 (by decide) ?_
                    exact q_Jle (q_le_s (rfl) (q_le_s (rfl) (q_le_s (rfl) (q_le_s (by rw [show 2 * k + 2 = 2 * (k + 1) by omega]) (q_le_e _))))) (rfl) (rfl) (ih67 (k + 1) (by omega) (by omega) (by rw [x_ok_s _ _ _ hk0, if_pos (by rw [hok]; omega)]) (by omega))
                  · skip
                    refine q_aload_n dX11_refusedTold_114 rfl ?_
                    refine q_iconst dX11_refusedTold_115 ?_
                    refine q_cV [q_i 3] kX11_85_11 rfl (tX11_found w ξ B P g 3 (by decide) (by decide)) dX11_refusedTold_116 rfl (by decide) (Nat.le_of_ble_eq_true rfl) rfl ?_
                    exact q_iret rfl dX11_refusedTold_119 (⟨by unfold x_rt_v; rw [if_neg (by omega), if_neg (by omega), if_neg (by omega), if_pos (x_ok_no hk0 (by omega) (by omega))], by unfold x_rt_s; rw [if_neg (by omega), if_neg (by omega), if_neg (by omega), if_pos (x_ok_no hk0 (by omega) (by omega))]⟩)
                · skip
                  refine q_cV [q_i (ξ ((32 + 2 * r.toNat) + 1) (2 * k))] kX11_118_8 rfl (tX8_personAt_n w ξ B P g (ξ ((32 + 2 * r.toNat) + 1) (2 * k)) ((hit _ (by omega) (by omega))) (show ¬ (0 ≤ (ξ ((32 + 2 * r.toNat) + 1) (2 * k)) ∧ (ξ ((32 + 2 * r.toNat) + 1) (2 * k)) < ξ 7 0) by omega) hPs) dX11_refusedTold_87 rfl (by decide) (Nat.le_of_ble_eq_true rfl) rfl ?_
                  refine q_ifnullN (tgt := 114) dX11_refusedTold_90 (by decide) ?_
                  refine q_aload_n dX11_refusedTold_114 rfl ?_
                  refine q_iconst dX11_refusedTold_115 ?_
                  refine q_cV [q_i 3] kX11_85_11 rfl (tX11_found w ξ B P g 3 (by decide) (by decide)) dX11_refusedTold_116 rfl (by decide) (Nat.le_of_ble_eq_true rfl) rfl ?_
                  exact q_iret rfl dX11_refusedTold_119 (⟨by unfold x_rt_v; rw [if_neg (by omega), if_neg (by omega), if_neg (by omega), if_pos (x_ok_no hk0 (by omega) (by omega))], by unfold x_rt_s; rw [if_neg (by omega), if_neg (by omega), if_neg (by omega), if_pos (x_ok_no hk0 (by omega) (by omega))]⟩)
          exact q_Jle (q_le_s (rfl) (q_le_s (rfl) (q_le_s (rfl) (q_le_s (rfl) (q_le_e _))))) (rfl) (rfl) (L67 ((((ξ (32 + 2 * r.toNat) 1).tdiv 2) : Int).toNat + 1) 0 (by omega) (by omega) (rfl) (by omega))
        · skip
          refine q_aload_n dX11_refusedTold_59 rfl ?_
          refine q_iconst dX11_refusedTold_60 ?_
          refine q_cV [q_i 5] kX11_85_11 rfl (tX11_found w ξ B P g 5 (by decide) (by decide)) dX11_refusedTold_61 rfl (by decide) (Nat.le_of_ble_eq_true rfl) rfl ?_
          exact q_iret rfl dX11_refusedTold_64 (⟨by unfold x_rt_v; (repeat first | rw [if_pos (by omega)] | rw [if_neg (by omega)]), by unfold x_rt_s; (repeat first | rw [if_pos (by omega)] | rw [if_neg (by omega)])⟩)
    · skip
      refine q_aload_n dX11_refusedTold_35 rfl ?_
      refine q_iconst dX11_refusedTold_36 ?_
      refine q_cV [q_i 1] kX11_85_11 rfl (tX11_found w ξ B P g 1 (by decide) (by decide)) dX11_refusedTold_37 rfl (by decide) (Nat.le_of_ble_eq_true rfl) rfl ?_
      exact q_iret rfl dX11_refusedTold_40 (⟨by unfold x_rt_v; (repeat first | rw [if_pos (by omega)] | rw [if_neg (by omega)]), by unfold x_rt_s; (repeat first | rw [if_pos (by omega)] | rw [if_neg (by omega)])⟩)
  · skip
    refine q_bipush dX11_refusedTold_25 ?_
    exact q_iret rfl dX11_refusedTold_27 (⟨by unfold x_rt_v; (repeat first | rw [if_pos (by omega)] | rw [if_neg (by omega)]), by unfold x_rt_s; (repeat first | rw [if_pos (by omega)] | rw [if_neg (by omega)])⟩)
